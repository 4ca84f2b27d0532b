/-! the reference: changes (rows laid by wip/gen) -/
theorem iX5_remember_X5 : ∀ w ∈ wsX50, w ∈ wsX5_remember := fun _ h => List.mem_cons_of_mem _ (List.mem_append_right _ h)
set_option maxHeartbeats 4000000 in
set_option maxRecDepth 100000 in
theorem mX5_remember (l : Launch) (G : va_G) (cx a : Nat → Nat) (σ : Nat → Int → Int)   (hN : 0 ≤ σ 2 0 ∧ σ 2 0 ≤ 8) : Met l yX5_remember wsX5_remember ({ frames := 0, cells := 0, slots := 0, locals := 0 }) (va_Pc [.ref (a 0)] (gW G (tm cx) (MA a) (wm cx a) σ)) (va_Qv (fun u => sc (sc σ 1 (mpast (σ 1) (σ 0) (σ 2 0))) 2 (ups (σ 2) 0 (mpm (σ 2 0))) = u) (gW G (tm cx) (MA a) (wm cx a)) (MA a)) 0 0 (MA a) := by
  refine Met.ofW (cc := cX5_remember) (maxL := 2) (ret := none) (by decide) rfl ?_
  intro p e s m args below meth c s₁ B hml hv
  obtain ⟨rfl, hP, hK, hD⟩ := hv
  have hex := B.exec
  have hbc := B.bytes
  have hrt := B.returns
  have hts := atoms_spec (ws := wsX5_remember) B.pre
  have hown : s.vm.findClass RX5 = some m.cls := findClass_of_methodNamed B.named
  have hlocks := B.notSynchronized
  have hS : va_S (MA a) s.heap s.heap [] := va_S.rf
  have hin5 := iX5_remember_X5
  have hl := lv_entry ([.ref (a 0)]) (n := 2) (Nat.le_of_ble_eq_true rfl)
  rw [lg_entry_eq]
  generalize (lg_sl ([.ref (a 0)]) ++ List.replicate (2 - (lg_sl ([.ref (a 0)])).length) Slot.unset).toArray = ls at hl ⊢
  have hl : lv_has ls 2 [(0, .ref (a 0))] := hl
  refine lv_aload_n hex hbc dX5_remember_0 rfl (lv_at hl 0 rfl) ?_
  refine va_get (v := .int (iI (σ 2 0))) hex hbc hts hin5 hown hK hP 0 rfl rfl 2 (by decide) (hts _ (List.mem_of_getElem? (i := 1) rfl)) (fun _ h => h) rfl dX5_remember_1 ?_
  refine lv_bipush (v := iI 8) hex hbc dX5_remember_4 (by decide) ?_
  refine zt_icmp_ne (a := (σ 2 0)) (b := 8) (tgt := 49) hex hbc (by omega) dX5_remember_6 (by decide) (fun c6 => ?_) (fun c6 => ?_)
  · skip
    obtain ⟨nq, hnq⟩ : ∃ z, z = σ 2 0 := ⟨_, rfl⟩
    obtain ⟨pq, hpq⟩ : ∃ z, z = σ 1 := ⟨_, rfl⟩
    have hpc : (σ 2 0 = 8 ∧ nq = 7 ∧ ∀ k, pq k = if 0 ≤ k ∧ k < 749 then σ 1 (k + 107) else σ 1 k) ∨ (σ 2 0 ≠ 8 ∧ nq = σ 2 0 ∧ ∀ k, pq k = σ 1 k) := by first | exact Or.inl ⟨c6, hnq.trans (show f2_46 0 = 7 by rw [ef2_46, ups_s]; omega), fun k => (congrFun hpq k).trans ((hw k).trans (by rw [show i1 = 749 by omega]))⟩ | exact Or.inr ⟨c6, hnq, fun k => congrFun hpq k⟩
    have hnr : 0 ≤ nq ∧ nq ≤ 7 := by rcases hpc with h | h <;> omega
    refine lv_iconst (v := iI 0) hex hbc dX5_remember_49 rfl ?_
    refine lv_istore_n (lv' := [(1, .int (iI 0)), (0, .ref (a 0))]) hex hbc dX5_remember_50 rfl hl (by decide) rfl (fun ls hl => ?_)
    have loop_51 : ∀ (N : Nat) (i2 : Int) (p2 : Int → Int), (0 ≤ i2 ∧ i2 ≤ 107 ∧ ∀ k, p2 k = if 107 * nq ≤ k ∧ k < 107 * nq + i2 then σ 0 (k - 107 * nq) else pq k) → (107 - i2) < (N : Int) → ∀ (H : Heap) (locs : List Loc) (ls : Array Slot), va_P G vwCl (wm cx a (sc σ 1 p2)) H → va_D (MA a) (wm cx a (sc σ 1 p2)) → va_S (MA a) s.heap H locs → lv_has ls 2 [(1, .int (iI i2)), (0, .ref (a 0))] → W p l e (headSpec wsX5_remember ({ frames := 0, cells := 0, slots := 0, locals := 0 })).room s m ([.ref (a 0)] : List Value).toArray below meth c H locs 0 0 (MQ below (va_Qv (fun u => sc (sc σ 1 (mpast (σ 1) (σ 0) (σ 2 0))) 2 (ups (σ 2) 0 (mpm (σ 2 0))) = u) (gW G (tm cx) (MA a) (wm cx a)) (MA a)) ([.ref (a 0)] : List Value).toArray s 0 0 (MA a)) (F0 m 51 ls []) := by
      intro N
      induction N with
      | zero => intro i2 p2 hinv hlt; exfalso; omega
      | succ N ih_51 =>
        intro i2 p2 ⟨hj0, hj1, hv⟩ hlt_51 H locs ls hP hD hS hl
        refine lv_iload_n hex hbc dX5_remember_51 rfl (lv_at hl 0 rfl) ?_
        refine lv_bipush (v := iI 107) hex hbc dX5_remember_52 (by decide) ?_
        refine zt_icmp_ge (a := i2) (b := 107) (tgt := 83) hex hbc (by omega) dX5_remember_54 (by decide) (fun c54 => ?_) (fun c54 => ?_)
        · skip
          refine lv_aload_n hex hbc dX5_remember_83 rfl (lv_at hl 1 rfl) ?_
          refine lv_dup hex hbc dX5_remember_84 rfl ?_
          refine va_get (v := .int (iI (σ 2 0))) hex hbc hts hin5 hown hK hP 0 rfl rfl 2 (by decide) (hts _ (List.mem_of_getElem? (i := 1) rfl)) (fun _ h => h) rfl dX5_remember_85 ?_
          refine zt_nm (a := (σ 2 0)) (b := nq) hnq.symm ?_
          refine lv_iconst (v := iI 1) hex hbc dX5_remember_88 rfl ?_
          refine zt_iadd hex hbc dX5_remember_89 ?_
          refine va_put hex hbc hts hin5 tyX5 tyX5_ok nmX5 hown hK hP hD hS 0 rfl rfl 2 (by decide) (hts _ (List.mem_of_getElem? (i := 1) rfl)) (fun _ h => h) rfl (tyX5_ok 2 (by decide)) rfl rfl (Nat.le_of_ble_eq_true rfl) dX5_remember_90 (fun H locs hP hD hS => ?_)
          have hP := leW_P (wm_pf_0_2 (G := G) (cx := cx) (a := a) (σ := (sc σ 1 p2))) hP
          have hD := leW_D (wm_pf_0_2 (G := G) (cx := cx) (a := a) (σ := (sc σ 1 p2))) hD
          obtain ⟨f2_90, ef2_90⟩ : ∃ z : Int → Int, z = ups (σ 2) 0 (nq + 1) := ⟨_, rfl⟩
          have hP : va_P G vwCl (wm cx a (sc (sc σ 1 p2) 2 f2_90)) H := by rw [ef2_90]; exact hP
          have hD : va_D (MA a) (wm cx a (sc (sc σ 1 p2) 2 f2_90)) := by rw [ef2_90]; exact hD
          exact g_vret hex hbc hrt hlocks hK hP hD hS (show sc (sc σ 1 _) 2 _ = sc (sc σ 1 p2) 2 f2_90 from by rw [show mpast (σ 1) (σ 0) (σ 2 0) = p2 from by {funext k; rw [hv k]; unfold mpast; rcases hpc with ⟨a1, a2, a3⟩ | ⟨a1, a2, a3⟩ <;> rw [a3 k] <;> (first | rw [if_pos a1] | rw [if_neg a1]) <;> (repeat' split) <;> first | omega | exact congrArg _ (by omega)}, show ups (σ 2) 0 (mpm (σ 2 0)) = f2_90 from by {funext k; rw [ef2_90]; (first | rw [ef2_46] | skip); unfold ups mpm; (repeat' split) <;> omega}]) dX5_remember_93
        · skip
          refine lv_aload_n hex hbc dX5_remember_57 rfl (lv_at hl 1 rfl) ?_
          refine va_get (v := .ref (a 2)) hex hbc hts hin5 hown hK hP 0 rfl rfl 1 (by decide) (hts _ (List.mem_of_getElem? (i := 2) rfl)) (fun _ h => h) rfl dX5_remember_58 ?_
          refine lv_bipush (v := iI 107) hex hbc dX5_remember_61 (by decide) ?_
          refine lv_aload_n hex hbc dX5_remember_63 rfl (lv_at hl 1 rfl) ?_
          refine va_get (v := .int (iI (σ 2 0))) hex hbc hts hin5 hown hK hP 0 rfl rfl 2 (by decide) (hts _ (List.mem_of_getElem? (i := 1) rfl)) (fun _ h => h) rfl dX5_remember_64 ?_
          refine zt_nm (a := (σ 2 0)) (b := nq) hnq.symm ?_
          refine zt_imul hex hbc dX5_remember_67 ?_
          refine lv_iload_n hex hbc dX5_remember_68 rfl (lv_at hl 0 rfl) ?_
          refine zt_iadd hex hbc dX5_remember_69 ?_
          refine lv_aload_n hex hbc dX5_remember_70 rfl (lv_at hl 1 rfl) ?_
          refine va_get (v := .ref (a 1)) hex hbc hts hin5 hown hK hP 0 rfl rfl 0 (by decide) (hts _ (List.mem_of_getElem? (i := 3) rfl)) (fun _ h => h) rfl dX5_remember_71 ?_
          refine lv_iload_n hex hbc dX5_remember_74 rfl (lv_at hl 0 rfl) ?_
          refine g_iald (f := (σ 0)) (v := (σ 0 i2)) (i := i2) hex hbc hK hP 1 0 rfl rfl (by decide) (by omega) rfl dX5_remember_75 ?_
          have hi_76 : (0 : Int) ≤ ((107 * nq) + i2) ∧ ((107 * nq) + i2) < (856 : Int) := (by omega)
          refine g_iast (σ := (sc σ 1 p2)) (f := p2) (i := ((107 * nq) + i2)) (v := (σ 0 i2)) (τ := st (sc σ 1 p2) 1 ((107 * nq) + i2) (σ 0 i2)) hex hbc hK hP hD hS 2 0 rfl rfl (by decide) hi_76 dX5_remember_76 (wm_up_2 hi_76) (fun H locs hP hD hS => ?_)
          obtain ⟨f1_76, ef1_76⟩ : ∃ z : Int → Int, z = ups p2 ((107 * nq) + i2) (σ 0 i2) := ⟨_, rfl⟩
          have hP : va_P G vwCl (wm cx a (sc σ 1 f1_76)) H := by rw [ef1_76]; exact hP
          have hD : va_D (MA a) (wm cx a (sc σ 1 f1_76)) := by rw [ef1_76]; exact hD
          refine lv_iinc (v := iI (i2 + 1)) (lv' := [(1, .int (iI (i2 + 1))), (0, .ref (a 0))]) hex hbc dX5_remember_77 hl (k := 0) rfl (iI_add _ _) (by decide) rfl (fun ls hl => ?_)
          refine lv_goto (tgt := 51) hex hbc dX5_remember_80 (by decide) ?_
          exact ih_51 (i2 + 1) f1_76 ⟨by omega, by omega, fun k => by rw [ef1_76]; unfold ups; rw [hv k]; (repeat' split) <;> first | omega | exact congrArg _ (by omega)⟩ (by omega) _ _ _ hP hD hS (lv_sub hl [0, 1] rfl)
    exact loop_51 _ 0 (σ 1) ⟨by omega, by omega, fun k => (congrFun hpq k).symm.trans (if_neg (by omega)).symm⟩ (mz_lt _) _ _ _ hP hD hS (lv_sub hl [0, 1] rfl)
  · skip
    refine lv_iconst (v := iI 0) hex hbc dX5_remember_9 rfl ?_
    refine lv_istore_n (lv' := [(1, .int (iI 0)), (0, .ref (a 0))]) hex hbc dX5_remember_10 rfl hl (by decide) rfl (fun ls hl => ?_)
    have loop_11 : ∀ (N : Nat) (i1 : Int) (p1 : Int → Int), (0 ≤ i1 ∧ i1 ≤ 749 ∧ ∀ k, p1 k = if 0 ≤ k ∧ k < i1 then σ 1 (k + 107) else σ 1 k) → (749 - i1) < (N : Int) → ∀ (H : Heap) (locs : List Loc) (ls : Array Slot), va_P G vwCl (wm cx a (sc σ 1 p1)) H → va_D (MA a) (wm cx a (sc σ 1 p1)) → va_S (MA a) s.heap H locs → lv_has ls 2 [(1, .int (iI i1)), (0, .ref (a 0))] → W p l e (headSpec wsX5_remember ({ frames := 0, cells := 0, slots := 0, locals := 0 })).room s m ([.ref (a 0)] : List Value).toArray below meth c H locs 0 0 (MQ below (va_Qv (fun u => sc (sc σ 1 (mpast (σ 1) (σ 0) (σ 2 0))) 2 (ups (σ 2) 0 (mpm (σ 2 0))) = u) (gW G (tm cx) (MA a) (wm cx a)) (MA a)) ([.ref (a 0)] : List Value).toArray s 0 0 (MA a)) (F0 m 11 ls []) := by
      intro N
      induction N with
      | zero => intro i1 p1 hinv hlt; exfalso; omega
      | succ N ih_11 =>
        intro i1 p1 ⟨hi0, hi1, hw⟩ hlt_11 H locs ls hP hD hS hl
        refine lv_iload_n hex hbc dX5_remember_11 rfl (lv_at hl 0 rfl) ?_
        refine lv_sipush (v := iI 749) hex hbc dX5_remember_12 (by decide) ?_
        refine zt_icmp_ge (a := i1) (b := 749) (tgt := 39) hex hbc (by omega) dX5_remember_15 (by decide) (fun c15 => ?_) (fun c15 => ?_)
        · skip
          refine lv_aload_n hex hbc dX5_remember_39 rfl (lv_at hl 1 rfl) ?_
          refine lv_dup hex hbc dX5_remember_40 rfl ?_
          refine va_get (v := .int (iI (σ 2 0))) hex hbc hts hin5 hown hK hP 0 rfl rfl 2 (by decide) (hts _ (List.mem_of_getElem? (i := 1) rfl)) (fun _ h => h) rfl dX5_remember_41 ?_
          refine lv_iconst (v := iI 1) hex hbc dX5_remember_44 rfl ?_
          refine zt_isub hex hbc dX5_remember_45 ?_
          refine va_put hex hbc hts hin5 tyX5 tyX5_ok nmX5 hown hK hP hD hS 0 rfl rfl 2 (by decide) (hts _ (List.mem_of_getElem? (i := 1) rfl)) (fun _ h => h) rfl (tyX5_ok 2 (by decide)) rfl rfl (Nat.le_of_ble_eq_true rfl) dX5_remember_46 (fun H locs hP hD hS => ?_)
          have hP := leW_P (wm_pf_0_2 (G := G) (cx := cx) (a := a) (σ := (sc σ 1 p1))) hP
          have hD := leW_D (wm_pf_0_2 (G := G) (cx := cx) (a := a) (σ := (sc σ 1 p1))) hD
          obtain ⟨f2_46, ef2_46⟩ : ∃ z : Int → Int, z = ups (σ 2) 0 ((σ 2 0) - 1) := ⟨_, rfl⟩
          have hP : va_P G vwCl (wm cx a (sc (sc σ 1 p1) 2 f2_46)) H := by rw [ef2_46]; exact hP
          have hD : va_D (MA a) (wm cx a (sc (sc σ 1 p1) 2 f2_46)) := by rw [ef2_46]; exact hD
          obtain ⟨nq, hnq⟩ : ∃ z, z = (sc (sc σ 1 p1) 2 f2_46) 2 0 := ⟨_, rfl⟩
          obtain ⟨pq, hpq⟩ : ∃ z, z = (sc (sc σ 1 p1) 2 f2_46) 1 := ⟨_, rfl⟩
          have hpc : (σ 2 0 = 8 ∧ nq = 7 ∧ ∀ k, pq k = if 0 ≤ k ∧ k < 749 then σ 1 (k + 107) else σ 1 k) ∨ (σ 2 0 ≠ 8 ∧ nq = σ 2 0 ∧ ∀ k, pq k = σ 1 k) := by first | exact Or.inl ⟨c6, hnq.trans (show f2_46 0 = 7 by rw [ef2_46, ups_s]; omega), fun k => (congrFun hpq k).trans ((hw k).trans (by rw [show i1 = 749 by omega]))⟩ | exact Or.inr ⟨c6, hnq, fun k => congrFun hpq k⟩
          have hnr : 0 ≤ nq ∧ nq ≤ 7 := by rcases hpc with h | h <;> omega
          refine lv_iconst (v := iI 0) hex hbc dX5_remember_49 rfl ?_
          refine lv_istore_n (lv' := [(1, .int (iI 0)), (0, .ref (a 0))]) hex hbc dX5_remember_50 rfl hl (by decide) rfl (fun ls hl => ?_)
          have loop_51 : ∀ (N : Nat) (i2 : Int) (p2 : Int → Int), (0 ≤ i2 ∧ i2 ≤ 107 ∧ ∀ k, p2 k = if 107 * nq ≤ k ∧ k < 107 * nq + i2 then σ 0 (k - 107 * nq) else pq k) → (107 - i2) < (N : Int) → ∀ (H : Heap) (locs : List Loc) (ls : Array Slot), va_P G vwCl (wm cx a (sc (sc σ 1 p2) 2 f2_46)) H → va_D (MA a) (wm cx a (sc (sc σ 1 p2) 2 f2_46)) → va_S (MA a) s.heap H locs → lv_has ls 2 [(1, .int (iI i2)), (0, .ref (a 0))] → W p l e (headSpec wsX5_remember ({ frames := 0, cells := 0, slots := 0, locals := 0 })).room s m ([.ref (a 0)] : List Value).toArray below meth c H locs 0 0 (MQ below (va_Qv (fun u => sc (sc σ 1 (mpast (σ 1) (σ 0) (σ 2 0))) 2 (ups (σ 2) 0 (mpm (σ 2 0))) = u) (gW G (tm cx) (MA a) (wm cx a)) (MA a)) ([.ref (a 0)] : List Value).toArray s 0 0 (MA a)) (F0 m 51 ls []) := by
            intro N
            induction N with
            | zero => intro i2 p2 hinv hlt; exfalso; omega
            | succ N ih_51 =>
              intro i2 p2 ⟨hj0, hj1, hv⟩ hlt_51 H locs ls hP hD hS hl
              refine lv_iload_n hex hbc dX5_remember_51 rfl (lv_at hl 0 rfl) ?_
              refine lv_bipush (v := iI 107) hex hbc dX5_remember_52 (by decide) ?_
              refine zt_icmp_ge (a := i2) (b := 107) (tgt := 83) hex hbc (by omega) dX5_remember_54 (by decide) (fun c54 => ?_) (fun c54 => ?_)
              · skip
                refine lv_aload_n hex hbc dX5_remember_83 rfl (lv_at hl 1 rfl) ?_
                refine lv_dup hex hbc dX5_remember_84 rfl ?_
                refine va_get (v := .int (iI (f2_46 0))) hex hbc hts hin5 hown hK hP 0 rfl rfl 2 (by decide) (hts _ (List.mem_of_getElem? (i := 1) rfl)) (fun _ h => h) rfl dX5_remember_85 ?_
                refine zt_nm (a := (f2_46 0)) (b := nq) hnq.symm ?_
                refine lv_iconst (v := iI 1) hex hbc dX5_remember_88 rfl ?_
                refine zt_iadd hex hbc dX5_remember_89 ?_
                refine va_put hex hbc hts hin5 tyX5 tyX5_ok nmX5 hown hK hP hD hS 0 rfl rfl 2 (by decide) (hts _ (List.mem_of_getElem? (i := 1) rfl)) (fun _ h => h) rfl (tyX5_ok 2 (by decide)) rfl rfl (Nat.le_of_ble_eq_true rfl) dX5_remember_90 (fun H locs hP hD hS => ?_)
                have hP := leW_P (wm_pf_0_2 (G := G) (cx := cx) (a := a) (σ := (sc (sc σ 1 p2) 2 f2_46))) hP
                have hD := leW_D (wm_pf_0_2 (G := G) (cx := cx) (a := a) (σ := (sc (sc σ 1 p2) 2 f2_46))) hD
                obtain ⟨f2_90, ef2_90⟩ : ∃ z : Int → Int, z = ups f2_46 0 (nq + 1) := ⟨_, rfl⟩
                have hP : va_P G vwCl (wm cx a (sc (sc σ 1 p2) 2 f2_90)) H := by rw [ef2_90]; exact hP
                have hD : va_D (MA a) (wm cx a (sc (sc σ 1 p2) 2 f2_90)) := by rw [ef2_90]; exact hD
                exact g_vret hex hbc hrt hlocks hK hP hD hS (show sc (sc σ 1 _) 2 _ = sc (sc σ 1 p2) 2 f2_90 from by rw [show mpast (σ 1) (σ 0) (σ 2 0) = p2 from by {funext k; rw [hv k]; unfold mpast; rcases hpc with ⟨a1, a2, a3⟩ | ⟨a1, a2, a3⟩ <;> rw [a3 k] <;> (first | rw [if_pos a1] | rw [if_neg a1]) <;> (repeat' split) <;> first | omega | exact congrArg _ (by omega)}, show ups (σ 2) 0 (mpm (σ 2 0)) = f2_90 from by {funext k; rw [ef2_90]; (first | rw [ef2_46] | skip); unfold ups mpm; (repeat' split) <;> omega}]) dX5_remember_93
              · skip
                refine lv_aload_n hex hbc dX5_remember_57 rfl (lv_at hl 1 rfl) ?_
                refine va_get (v := .ref (a 2)) hex hbc hts hin5 hown hK hP 0 rfl rfl 1 (by decide) (hts _ (List.mem_of_getElem? (i := 2) rfl)) (fun _ h => h) rfl dX5_remember_58 ?_
                refine lv_bipush (v := iI 107) hex hbc dX5_remember_61 (by decide) ?_
                refine lv_aload_n hex hbc dX5_remember_63 rfl (lv_at hl 1 rfl) ?_
                refine va_get (v := .int (iI (f2_46 0))) hex hbc hts hin5 hown hK hP 0 rfl rfl 2 (by decide) (hts _ (List.mem_of_getElem? (i := 1) rfl)) (fun _ h => h) rfl dX5_remember_64 ?_
                refine zt_nm (a := (f2_46 0)) (b := nq) hnq.symm ?_
                refine zt_imul hex hbc dX5_remember_67 ?_
                refine lv_iload_n hex hbc dX5_remember_68 rfl (lv_at hl 0 rfl) ?_
                refine zt_iadd hex hbc dX5_remember_69 ?_
                refine lv_aload_n hex hbc dX5_remember_70 rfl (lv_at hl 1 rfl) ?_
                refine va_get (v := .ref (a 1)) hex hbc hts hin5 hown hK hP 0 rfl rfl 0 (by decide) (hts _ (List.mem_of_getElem? (i := 3) rfl)) (fun _ h => h) rfl dX5_remember_71 ?_
                refine lv_iload_n hex hbc dX5_remember_74 rfl (lv_at hl 0 rfl) ?_
                refine g_iald (f := (σ 0)) (v := (σ 0 i2)) (i := i2) hex hbc hK hP 1 0 rfl rfl (by decide) (by omega) rfl dX5_remember_75 ?_
                have hi_76 : (0 : Int) ≤ ((107 * nq) + i2) ∧ ((107 * nq) + i2) < (856 : Int) := (by omega)
                refine g_iast (σ := (sc (sc σ 1 p2) 2 f2_46)) (f := p2) (i := ((107 * nq) + i2)) (v := (σ 0 i2)) (τ := st (sc (sc σ 1 p2) 2 f2_46) 1 ((107 * nq) + i2) (σ 0 i2)) hex hbc hK hP hD hS 2 0 rfl rfl (by decide) hi_76 dX5_remember_76 (wm_up_2 hi_76) (fun H locs hP hD hS => ?_)
                obtain ⟨f1_76, ef1_76⟩ : ∃ z : Int → Int, z = ups p2 ((107 * nq) + i2) (σ 0 i2) := ⟨_, rfl⟩
                have hP : va_P G vwCl (wm cx a (sc (sc σ 1 f1_76) 2 f2_46)) H := by rw [ef1_76]; exact hP
                have hD : va_D (MA a) (wm cx a (sc (sc σ 1 f1_76) 2 f2_46)) := by rw [ef1_76]; exact hD
                refine lv_iinc (v := iI (i2 + 1)) (lv' := [(1, .int (iI (i2 + 1))), (0, .ref (a 0))]) hex hbc dX5_remember_77 hl (k := 0) rfl (iI_add _ _) (by decide) rfl (fun ls hl => ?_)
                refine lv_goto (tgt := 51) hex hbc dX5_remember_80 (by decide) ?_
                exact ih_51 (i2 + 1) f1_76 ⟨by omega, by omega, fun k => by rw [ef1_76]; unfold ups; rw [hv k]; (repeat' split) <;> first | omega | exact congrArg _ (by omega)⟩ (by omega) _ _ _ hP hD hS (lv_sub hl [0, 1] rfl)
          exact loop_51 _ 0 p1 ⟨by omega, by omega, fun k => (congrFun hpq k).symm.trans (if_neg (by omega)).symm⟩ (mz_lt _) _ _ _ hP hD hS (lv_sub hl [0, 1] rfl)
        · skip
          refine lv_aload_n hex hbc dX5_remember_18 rfl (lv_at hl 1 rfl) ?_
          refine va_get (v := .ref (a 2)) hex hbc hts hin5 hown hK hP 0 rfl rfl 1 (by decide) (hts _ (List.mem_of_getElem? (i := 2) rfl)) (fun _ h => h) rfl dX5_remember_19 ?_
          refine lv_iload_n hex hbc dX5_remember_22 rfl (lv_at hl 0 rfl) ?_
          refine lv_aload_n hex hbc dX5_remember_23 rfl (lv_at hl 1 rfl) ?_
          refine va_get (v := .ref (a 2)) hex hbc hts hin5 hown hK hP 0 rfl rfl 1 (by decide) (hts _ (List.mem_of_getElem? (i := 2) rfl)) (fun _ h => h) rfl dX5_remember_24 ?_
          refine lv_iload_n hex hbc dX5_remember_27 rfl (lv_at hl 0 rfl) ?_
          refine lv_bipush (v := iI 107) hex hbc dX5_remember_28 (by decide) ?_
          refine zt_iadd hex hbc dX5_remember_30 ?_
          refine g_iald (f := p1) (v := (p1 (i1 + 107))) (i := (i1 + 107)) hex hbc hK hP 2 0 rfl rfl (by decide) (by omega) rfl dX5_remember_31 ?_
          refine zt_nm (a := (p1 (i1 + 107))) (b := (σ 1 (i1 + 107))) (by rw [hw]; exact if_neg (by omega)) ?_
          have hi_32 : (0 : Int) ≤ i1 ∧ i1 < (856 : Int) := (by omega)
          refine g_iast (σ := (sc σ 1 p1)) (f := p1) (i := i1) (v := (σ 1 (i1 + 107))) (τ := st (sc σ 1 p1) 1 i1 (σ 1 (i1 + 107))) hex hbc hK hP hD hS 2 0 rfl rfl (by decide) hi_32 dX5_remember_32 (wm_up_2 hi_32) (fun H locs hP hD hS => ?_)
          obtain ⟨f1_32, ef1_32⟩ : ∃ z : Int → Int, z = ups p1 i1 (σ 1 (i1 + 107)) := ⟨_, rfl⟩
          have hP : va_P G vwCl (wm cx a (sc σ 1 f1_32)) H := by rw [ef1_32]; exact hP
          have hD : va_D (MA a) (wm cx a (sc σ 1 f1_32)) := by rw [ef1_32]; exact hD
          refine lv_iinc (v := iI (i1 + 1)) (lv' := [(1, .int (iI (i1 + 1))), (0, .ref (a 0))]) hex hbc dX5_remember_33 hl (k := 0) rfl (iI_add _ _) (by decide) rfl (fun ls hl => ?_)
          refine lv_goto (tgt := 11) hex hbc dX5_remember_36 (by decide) ?_
          exact ih_11 (i1 + 1) f1_32 ⟨by omega, by omega, fun k => by rw [ef1_32]; unfold ups; rw [hw k]; (repeat' split) <;> first | omega | exact congrArg _ (by omega)⟩ (by omega) _ _ _ hP hD hS (lv_sub hl [0, 1] rfl)
    exact loop_11 _ 0 (σ 1) ⟨by omega, by omega, fun k => (if_neg (by omega)).symm⟩ (mz_lt _) _ _ _ hP hD hS (lv_sub hl [0, 1] rfl)
theorem iX5_begin_X5 : ∀ w ∈ wsX50, w ∈ wsX5_begin := fun _ h => List.mem_cons_of_mem _ (List.mem_append_right _ h)
set_option maxHeartbeats 4000000 in
set_option maxRecDepth 100000 in
theorem mX5_begin (l : Launch) (G : va_G) (cx a : Nat → Nat) (σ : Nat → Int → Int)  (x : Int) (hx : -2147483648 ≤ x ∧ x < 2147483648) (hN : 0 ≤ σ 2 0 ∧ σ 2 0 ≤ 8) (hI : Inv (σ 0)) : Met l yX5_begin wsX5_begin ({ frames := 2, cells := 0, slots := 0, locals := 43 }) (va_Pc [.ref (a 0), .int (iI x)] (gW G (tm cx) (MA a) (wm cx a) σ)) (va_Qi (fun r u => ((1 ≤ x ∧ x ≤ 64) → iI (σ 0 0) = r ∧ MC_ σ u (spc (σ 0) x)) ∧ (¬ (1 ≤ x ∧ x ≤ 64) → iI (-1) = r ∧ MQ_ σ u)) (gW G (tm cx) (MA a) (wm cx a)) (MA a)) 0 0 (MA a) := by
  refine Met.ofW (cc := cX5_begin) (maxL := 3) (ret := some .int) (by decide) rfl ?_
  intro p e s m args below meth c s₁ B hml hv
  obtain ⟨rfl, hP, hK, hD⟩ := hv
  have hex := B.exec
  have hbc := B.bytes
  have hrt := B.returns
  have hts := atoms_spec (ws := wsX5_begin) B.pre
  have hown : s.vm.findClass RX5 = some m.cls := findClass_of_methodNamed B.named
  have hlocks := B.notSynchronized
  have hS : va_S (MA a) s.heap s.heap [] := va_S.rf
  have hin5 := iX5_begin_X5
  have hl := lv_entry ([.ref (a 0), .int (iI x)]) (n := 3) (Nat.le_of_ble_eq_true rfl)
  rw [lg_entry_eq]
  generalize (lg_sl ([.ref (a 0), .int (iI x)]) ++ List.replicate (3 - (lg_sl ([.ref (a 0), .int (iI x)])).length) Slot.unset).toArray = ls at hl ⊢
  have hl : lv_has ls 3 [(0, .ref (a 0)), (1, .int (iI x))] := hl
  obtain ⟨hB, hEn, hMk, hAs, hPm⟩ := id hI
  refine lv_iload_n hex hbc dX5_begin_0 rfl (lv_at hl 1 rfl) ?_
  refine lv_iconst (v := iI 1) hex hbc dX5_begin_1 rfl ?_
  refine lv_bipush (v := iI 64) hex hbc dX5_begin_2 (by decide) ?_
  refine g_callS [.int (iI x), .int (iI 1), .int (iI 64)] ⟨hex, hbc, hml, hown, hts⟩ (mX5_isIn l x 1 64 (by omega) (by omega) (by omega)) (va_cwS 3 hts gX5_begin_X5_isIn rfl rfl rfl (by decide +kernel) ⟨Nat.le_of_ble_eq_true rfl, Nat.le_of_ble_eq_true rfl⟩) hP hS rfl rfl hl.1 (Nat.le_of_ble_eq_true rfl) dX5_begin_4 ⟨Nat.zero_le _, Nat.zero_le _⟩ (fun r_4 H locs hw_4 hP hS => ?_)
  obtain ⟨vb4, rfl, hv4⟩ := hw_4
  refine zt_ifb_ne (P := (1 ≤ x ∧ x ≤ 64)) (tgt := 12) hex hbc hv4 dX5_begin_7 (by decide) (fun c7 => ?_) (fun c7 => ?_)
  · skip
    refine lv_aload_n hex hbc dX5_begin_12 rfl (lv_at hl 0 rfl) ?_
    refine g_callv [] ⟨hex, hbc, hml, hown, hts⟩ (mX5_remember l G cx a σ  hN) (cwV 0 hts gX5_begin_X5_remember rfl rfl rfl (by decide +kernel) ⟨Nat.le_of_ble_eq_true rfl, Nat.le_of_ble_eq_true rfl⟩) hK hP hD hS (fun _ h => h) 0 5 rfl rfl rfl rfl hl.1 (Nat.le_of_ble_eq_true rfl) dX5_begin_13 ⟨Nat.zero_le _, Nat.zero_le _⟩ (fun u_13 H locs hw_13 hP hD hS hz_13 hk_13 => ?_)
    obtain rfl := hw_13
    have hP : va_P G vwCl (wm cx a (sc (sc σ 1 (mpast (σ 1) (σ 0) (σ 2 0))) 2 (ups (σ 2) 0 (mpm (σ 2 0))))) H := hP
    have hD : va_D (MA a) (wm cx a (sc (sc σ 1 (mpast (σ 1) (σ 0) (σ 2 0))) 2 (ups (σ 2) 0 (mpm (σ 2 0))))) := hD
    refine lv_aload_n hex hbc dX5_begin_16 rfl (lv_at hl 0 rfl) ?_
    refine va_get (v := .ref (a 1)) hex hbc hts hin5 hown hK hP 0 rfl rfl 0 (by decide) (hts _ (List.mem_of_getElem? (i := 1) rfl)) (fun _ h => h) rfl dX5_begin_17 ?_
    refine lv_iconst (v := iI 0) hex hbc dX5_begin_20 rfl ?_
    refine g_iald (f := (σ 0)) (v := (σ 0 0)) (i := 0) hex hbc hK hP 1 0 rfl rfl (by decide) (by omega) rfl dX5_begin_21 ?_
    refine lv_istore_n (lv' := [(2, .int (iI (σ 0 0))), (0, .ref (a 0)), (1, .int (iI x))]) hex hbc dX5_begin_22 rfl hl (by decide) rfl (fun ls hl => ?_)
    refine lv_aload_n hex hbc dX5_begin_23 rfl (lv_at hl 1 rfl) ?_
    refine lv_iload_n hex hbc dX5_begin_24 rfl (lv_at hl 2 rfl) ?_
    refine g_callv [.int (iI x)] ⟨hex, hbc, hml, hown, hts⟩ (mX5_layLoop l G cx a (sc (sc σ 1 (mpast (σ 1) (σ 0) (σ 2 0))) 2 (ups (σ 2) 0 (mpm (σ 2 0)))) x ) (cwV 1 hts gX5_begin_X5_layLoop rfl rfl rfl (by decide +kernel) ⟨Nat.le_of_ble_eq_true rfl, Nat.le_of_ble_eq_true rfl⟩) hK hP hD hS (fun _ h => h) 0 5 rfl rfl rfl rfl hl.1 (Nat.le_of_ble_eq_true rfl) dX5_begin_25 ⟨Nat.zero_le _, Nat.zero_le _⟩ (fun u_25 H locs hw_25 hP hD hS hz_25 hk_25 => ?_)
    obtain rfl := hw_25
    have hP : va_P G vwCl (wm cx a (sc (sc (sc σ 0 (spc (σ 0) x)) 1 (mpast (σ 1) (σ 0) (σ 2 0))) 2 (ups (σ 2) 0 (mpm (σ 2 0))))) H := hP
    have hD : va_D (MA a) (wm cx a (sc (sc (sc σ 0 (spc (σ 0) x)) 1 (mpast (σ 1) (σ 0) (σ 2 0))) 2 (ups (σ 2) 0 (mpm (σ 2 0))))) := hD
    refine lv_iload_n hex hbc dX5_begin_28 rfl (lv_at hl 0 rfl) ?_
    exact g_iret hex hbc hrt hlocks hK hP hD hS ⟨fun _ => ⟨rfl, ⟨rfl, rfl, (show ups (σ 2) 0 (mpm (σ 2 0)) 0 = mpm (σ 2 0) from ups_s _ _ _), (show ups (σ 2) 0 (mpm (σ 2 0)) 1 = σ 2 1 from ups_n _ _ (by decide)), rfl⟩⟩, fun h => absurd c7 h⟩ dX5_begin_29
  · skip
    refine lv_iconst (v := iI (-1)) hex hbc dX5_begin_10 rfl ?_
    exact g_iret hex hbc hrt hlocks hK hP hD hS ⟨fun h => absurd h c7, fun _ => ⟨rfl, ⟨rfl, rfl, rfl, rfl, rfl⟩⟩⟩ dX5_begin_11
theorem iX5_sound_X5 : ∀ w ∈ wsX50, w ∈ wsX5_sound := fun _ h => List.mem_cons_of_mem _ (List.mem_append_right _ h)
set_option maxHeartbeats 4000000 in
set_option maxRecDepth 100000 in
theorem mX5_sound (l : Launch) (G : va_G) (cx a : Nat → Nat) (σ : Nat → Int → Int)  (x1 : Int) (x2 : Int) (x3 : Int) (h1 : -2147483648 ≤ x1 ∧ x1 < 2147483648) (h2 : -2147483648 ≤ x2 ∧ x2 < 2147483648) (h3 : -2147483648 ≤ x3 ∧ x3 < 2147483648) (hN : 0 ≤ σ 2 0 ∧ σ 2 0 ≤ 8) (hI : Inv (σ 0)) : Met l yX5_sound wsX5_sound ({ frames := 2, cells := 0, slots := 0, locals := 43 }) (va_Pc [.ref (a 0), .int (iI x1), .int (iI x2), .int (iI x3)] (gW G (tm cx) (MA a) (wm cx a) σ)) (va_Qi (fun r u => ((okE (σ 0) x1 x2 x3) → iI (smE (σ 0) x1 (x2 + 1 - x1)) = r ∧ MC_ σ u (spS (σ 0) x1 x2 x3)) ∧ (¬ (okE (σ 0) x1 x2 x3) → iI (-1) = r ∧ MQ_ σ u)) (gW G (tm cx) (MA a) (wm cx a)) (MA a)) 0 0 (MA a) := by
  refine Met.ofW (cc := cX5_sound) (maxL := 6) (ret := some .int) (by decide) rfl ?_
  intro p e s m args below meth c s₁ B hml hv
  obtain ⟨rfl, hP, hK, hD⟩ := hv
  have hex := B.exec
  have hbc := B.bytes
  have hrt := B.returns
  have hts := atoms_spec (ws := wsX5_sound) B.pre
  have hown : s.vm.findClass RX5 = some m.cls := findClass_of_methodNamed B.named
  have hlocks := B.notSynchronized
  have hS : va_S (MA a) s.heap s.heap [] := va_S.rf
  have hin5 := iX5_sound_X5
  have hl := lv_entry ([.ref (a 0), .int (iI x1), .int (iI x2), .int (iI x3)]) (n := 6) (Nat.le_of_ble_eq_true rfl)
  rw [lg_entry_eq]
  generalize (lg_sl ([.ref (a 0), .int (iI x1), .int (iI x2), .int (iI x3)]) ++ List.replicate (6 - (lg_sl ([.ref (a 0), .int (iI x1), .int (iI x2), .int (iI x3)])).length) Slot.unset).toArray = ls at hl ⊢
  have hl : lv_has ls 6 [(0, .ref (a 0)), (1, .int (iI x1)), (2, .int (iI x2)), (3, .int (iI x3))] := hl
  obtain ⟨hB, hEn, hMk, hAs, hPm⟩ := id hI
  refine lv_aload_n hex hbc dX5_sound_0 rfl (lv_at hl 0 rfl) ?_
  refine lv_iload_n hex hbc dX5_sound_1 rfl (lv_at hl 1 rfl) ?_
  refine g_calli [.int (iI x1)] ⟨hex, hbc, hml, hown, hts⟩ (mX5_isFrame l G cx a σ x1 (by omega) hI) (cwV 1 hts gX5_sound_X5_isFrame rfl rfl rfl (by decide +kernel) ⟨Nat.le_of_ble_eq_true rfl, Nat.le_of_ble_eq_true rfl⟩) hK hP hD hS (fun _ h => h) 0 5 rfl rfl rfl rfl hl.1 (Nat.le_of_ble_eq_true rfl) dX5_sound_2 ⟨Nat.zero_le _, Nat.zero_le _⟩ (fun r_2 u_2 H locs hw_2 hP hD hS hz_2 hk_2 => ?_)
  obtain ⟨rfl, vb2, rfl, hv2⟩ := hw_2
  refine zt_ifb_eq (P := (0 ≤ x1 ∧ x1 < σ 0 0)) (tgt := 32) hex hbc hv2 dX5_sound_5 (by decide) (fun c5 => ?_) (fun c5 => ?_)
  · skip
    refine lv_iconst (v := iI (-1)) hex hbc dX5_sound_32 rfl ?_
    exact g_iret hex hbc hrt hlocks hK hP hD hS ⟨fun h => (by unfold okE at h; exfalso; omega), fun _ => ⟨rfl, ⟨rfl, rfl, rfl, rfl, rfl⟩⟩⟩ dX5_sound_33
  · skip
    refine lv_aload_n hex hbc dX5_sound_8 rfl (lv_at hl 0 rfl) ?_
    refine lv_iload_n hex hbc dX5_sound_9 rfl (lv_at hl 2 rfl) ?_
    refine g_calli [.int (iI x2)] ⟨hex, hbc, hml, hown, hts⟩ (mX5_isFrame l G cx a σ x2 (by omega) hI) (cwV 1 hts gX5_sound_X5_isFrame rfl rfl rfl (by decide +kernel) ⟨Nat.le_of_ble_eq_true rfl, Nat.le_of_ble_eq_true rfl⟩) hK hP hD hS (fun _ h => h) 0 5 rfl rfl rfl rfl hl.1 (Nat.le_of_ble_eq_true rfl) dX5_sound_10 ⟨Nat.zero_le _, Nat.zero_le _⟩ (fun r_10 u_10 H locs hw_10 hP hD hS hz_10 hk_10 => ?_)
    obtain ⟨rfl, vb10, rfl, hv10⟩ := hw_10
    refine zt_ifb_eq (P := (0 ≤ x2 ∧ x2 < σ 0 0)) (tgt := 32) hex hbc hv10 dX5_sound_13 (by decide) (fun c13 => ?_) (fun c13 => ?_)
    · skip
      refine lv_iconst (v := iI (-1)) hex hbc dX5_sound_32 rfl ?_
      exact g_iret hex hbc hrt hlocks hK hP hD hS ⟨fun h => (by unfold okE at h; exfalso; omega), fun _ => ⟨rfl, ⟨rfl, rfl, rfl, rfl, rfl⟩⟩⟩ dX5_sound_33
    · skip
      refine lv_iload_n hex hbc dX5_sound_16 rfl (lv_at hl 2 rfl) ?_
      refine lv_iload_n hex hbc dX5_sound_17 rfl (lv_at hl 1 rfl) ?_
      refine zt_icmp_lt (a := x2) (b := x1) (tgt := 32) hex hbc (by omega) dX5_sound_18 (by decide) (fun c18 => ?_) (fun c18 => ?_)
      · skip
        refine lv_iconst (v := iI (-1)) hex hbc dX5_sound_32 rfl ?_
        exact g_iret hex hbc hrt hlocks hK hP hD hS ⟨fun h => (by unfold okE at h; exfalso; omega), fun _ => ⟨rfl, ⟨rfl, rfl, rfl, rfl, rfl⟩⟩⟩ dX5_sound_33
      · skip
        refine lv_iload_n hex hbc dX5_sound_21 rfl (lv_at hl 3 rfl) ?_
        refine lv_iconst (v := iI 0) hex hbc dX5_sound_22 rfl ?_
        refine lv_sipush (v := iI 999) hex hbc dX5_sound_23 (by decide) ?_
        refine g_callS [.int (iI x3), .int (iI 0), .int (iI 999)] ⟨hex, hbc, hml, hown, hts⟩ (mX5_isIn l x3 0 999 (by omega) (by omega) (by omega)) (va_cwS 3 hts gX5_sound_X5_isIn rfl rfl rfl (by decide +kernel) ⟨Nat.le_of_ble_eq_true rfl, Nat.le_of_ble_eq_true rfl⟩) hP hS rfl rfl hl.1 (Nat.le_of_ble_eq_true rfl) dX5_sound_26 ⟨Nat.zero_le _, Nat.zero_le _⟩ (fun r_26 H locs hw_26 hP hS => ?_)
        obtain ⟨vb26, rfl, hv26⟩ := hw_26
        refine zt_ifb_ne (P := (0 ≤ x3 ∧ x3 ≤ 999)) (tgt := 34) hex hbc hv26 dX5_sound_29 (by decide) (fun c29 => ?_) (fun c29 => ?_)
        · skip
          refine lv_aload_n hex hbc dX5_sound_34 rfl (lv_at hl 0 rfl) ?_
          refine g_callv [] ⟨hex, hbc, hml, hown, hts⟩ (mX5_remember l G cx a σ  hN) (cwV 0 hts gX5_sound_X5_remember rfl rfl rfl (by decide +kernel) ⟨Nat.le_of_ble_eq_true rfl, Nat.le_of_ble_eq_true rfl⟩) hK hP hD hS (fun _ h => h) 0 5 rfl rfl rfl rfl hl.1 (Nat.le_of_ble_eq_true rfl) dX5_sound_35 ⟨Nat.zero_le _, Nat.zero_le _⟩ (fun u_35 H locs hw_35 hP hD hS hz_35 hk_35 => ?_)
          obtain rfl := hw_35
          have hP : va_P G vwCl (wm cx a (sc (sc σ 1 (mpast (σ 1) (σ 0) (σ 2 0))) 2 (ups (σ 2) 0 (mpm (σ 2 0))))) H := hP
          have hD : va_D (MA a) (wm cx a (sc (sc σ 1 (mpast (σ 1) (σ 0) (σ 2 0))) 2 (ups (σ 2) 0 (mpm (σ 2 0))))) := hD
          refine lv_iconst (v := iI 0) hex hbc dX5_sound_38 rfl ?_
          refine lv_istore (lv' := [(4, .int (iI 0)), (0, .ref (a 0)), (1, .int (iI x1)), (2, .int (iI x2)), (3, .int (iI x3))]) hex hbc dX5_sound_39 hl (by decide) rfl (fun ls hl => ?_)
          refine lv_iload_n hex hbc dX5_sound_41 rfl (lv_at hl 2 rfl) ?_
          refine lv_istore (lv' := [(5, .int (iI x1)), (4, .int (iI 0)), (0, .ref (a 0)), (1, .int (iI x1)), (2, .int (iI x2)), (3, .int (iI x3))]) hex hbc dX5_sound_42 hl (by decide) rfl (fun ls hl => ?_)
          have loop_44 : ∀ (N : Nat) (i1 : Int) (s1 : Int) (w1 : Int → Int), (x1 ≤ i1 ∧ i1 ≤ x2 + 1 ∧ s1 = smE (σ 0) x1 (i1 - x1) ∧ ∀ k, w1 k = if 10 + x1 ≤ k ∧ k < 10 + i1 then x3 else σ 0 k) → (x2 + 1 - i1) < (N : Int) → ∀ (H : Heap) (locs : List Loc) (ls : Array Slot), va_P G vwCl (wm cx a (sc (sc (sc σ 0 w1) 1 (mpast (σ 1) (σ 0) (σ 2 0))) 2 (ups (σ 2) 0 (mpm (σ 2 0))))) H → va_D (MA a) (wm cx a (sc (sc (sc σ 0 w1) 1 (mpast (σ 1) (σ 0) (σ 2 0))) 2 (ups (σ 2) 0 (mpm (σ 2 0))))) → va_S (MA a) s.heap H locs → lv_has ls 6 [(5, .int (iI i1)), (4, .int (iI s1)), (0, .ref (a 0)), (1, .int (iI x1)), (2, .int (iI x2)), (3, .int (iI x3))] → W p l e (headSpec wsX5_sound ({ frames := 2, cells := 0, slots := 0, locals := 43 })).room s m ([.ref (a 0), .int (iI x1), .int (iI x2), .int (iI x3)] : List Value).toArray below meth c H locs 0 0 (MQ below (va_Qi (fun r u => ((okE (σ 0) x1 x2 x3) → iI (smE (σ 0) x1 (x2 + 1 - x1)) = r ∧ MC_ σ u (spS (σ 0) x1 x2 x3)) ∧ (¬ (okE (σ 0) x1 x2 x3) → iI (-1) = r ∧ MQ_ σ u)) (gW G (tm cx) (MA a) (wm cx a)) (MA a)) ([.ref (a 0), .int (iI x1), .int (iI x2), .int (iI x3)] : List Value).toArray s 0 0 (MA a)) (F0 m 44 ls []) := by
            intro N
            induction N with
            | zero => intro i1 s1 w1 hinv hlt; exfalso; have hz := hinv.2.1; omega
            | succ N ih_44 =>
              intro i1 s1 w1 ⟨hi0, hi1, hs, hw⟩ hlt_44 H locs ls hP hD hS hl
              refine lv_iload hex hbc dX5_sound_44 (lv_at hl 0 rfl) ?_
              refine lv_iload_n hex hbc dX5_sound_46 rfl (lv_at hl 4 rfl) ?_
              refine zt_icmp_gt (a := i1) (b := x2) (tgt := 82) hex hbc (by omega) dX5_sound_47 (by decide) (fun c47 => ?_) (fun c47 => ?_)
              · skip
                refine lv_iload hex hbc dX5_sound_82 (lv_at hl 1 rfl) ?_
                exact g_iret hex hbc hrt hlocks hK hP hD hS ⟨fun _ => ⟨congrArg iI (by rw [hs, show i1 = x2 + 1 by omega]), ⟨(funext fun k => (hw k).trans (by unfold spS; (repeat' split) <;> first | omega | exact congrArg _ (by omega))), rfl, (show ups (σ 2) 0 (mpm (σ 2 0)) 0 = mpm (σ 2 0) from ups_s _ _ _), (show ups (σ 2) 0 (mpm (σ 2 0)) 1 = σ 2 1 from ups_n _ _ (by decide)), rfl⟩⟩, fun h => absurd (by unfold okE; omega) h⟩ dX5_sound_84
              · skip
                refine lv_iload hex hbc dX5_sound_50 (lv_at hl 1 rfl) ?_
                refine lv_aload_n hex hbc dX5_sound_52 rfl (lv_at hl 2 rfl) ?_
                refine va_get (v := .ref (a 1)) hex hbc hts hin5 hown hK hP 0 rfl rfl 0 (by decide) (hts _ (List.mem_of_getElem? (i := 1) rfl)) (fun _ h => h) rfl dX5_sound_53 ?_
                refine lv_bipush (v := iI 10) hex hbc dX5_sound_56 (by decide) ?_
                refine lv_iload hex hbc dX5_sound_58 (lv_at hl 0 rfl) ?_
                refine zt_iadd hex hbc dX5_sound_60 ?_
                refine g_iald (f := w1) (v := (w1 (10 + i1))) (i := (10 + i1)) hex hbc hK hP 1 0 rfl rfl (by decide) (by omega) rfl dX5_sound_61 ?_
                refine zt_nm (a := (w1 (10 + i1))) (b := (σ 0 (10 + i1))) (by rw [hw]; exact if_neg (by omega)) ?_
                refine zt_iadd hex hbc dX5_sound_62 ?_
                refine lv_istore (lv' := [(4, .int (iI (s1 + (σ 0 (10 + i1))))), (5, .int (iI i1)), (0, .ref (a 0)), (1, .int (iI x1)), (2, .int (iI x2)), (3, .int (iI x3))]) hex hbc dX5_sound_63 hl (by decide) rfl (fun ls hl => ?_)
                refine lv_aload_n hex hbc dX5_sound_65 rfl (lv_at hl 2 rfl) ?_
                refine va_get (v := .ref (a 1)) hex hbc hts hin5 hown hK hP 0 rfl rfl 0 (by decide) (hts _ (List.mem_of_getElem? (i := 1) rfl)) (fun _ h => h) rfl dX5_sound_66 ?_
                refine lv_bipush (v := iI 10) hex hbc dX5_sound_69 (by decide) ?_
                refine lv_iload hex hbc dX5_sound_71 (lv_at hl 1 rfl) ?_
                refine zt_iadd hex hbc dX5_sound_73 ?_
                refine lv_iload_n hex hbc dX5_sound_74 rfl (lv_at hl 5 rfl) ?_
                have hi_75 : (0 : Int) ≤ (10 + i1) ∧ (10 + i1) < (107 : Int) := (by omega)
                refine g_iast (σ := (sc (sc (sc σ 0 w1) 1 (mpast (σ 1) (σ 0) (σ 2 0))) 2 (ups (σ 2) 0 (mpm (σ 2 0))))) (f := w1) (i := (10 + i1)) (v := x3) (τ := st (sc (sc (sc σ 0 w1) 1 (mpast (σ 1) (σ 0) (σ 2 0))) 2 (ups (σ 2) 0 (mpm (σ 2 0)))) 0 (10 + i1) x3) hex hbc hK hP hD hS 1 0 rfl rfl (by decide) hi_75 dX5_sound_75 (wm_up_1 hi_75) (fun H locs hP hD hS => ?_)
                obtain ⟨f0_75, ef0_75⟩ : ∃ z : Int → Int, z = ups w1 (10 + i1) x3 := ⟨_, rfl⟩
                have hP : va_P G vwCl (wm cx a (sc (sc (sc σ 0 f0_75) 1 (mpast (σ 1) (σ 0) (σ 2 0))) 2 (ups (σ 2) 0 (mpm (σ 2 0))))) H := by rw [ef0_75]; exact hP
                have hD : va_D (MA a) (wm cx a (sc (sc (sc σ 0 f0_75) 1 (mpast (σ 1) (σ 0) (σ 2 0))) 2 (ups (σ 2) 0 (mpm (σ 2 0))))) := by rw [ef0_75]; exact hD
                refine lv_iinc (v := iI (i1 + 1)) (lv' := [(5, .int (iI (i1 + 1))), (4, .int (iI (s1 + (σ 0 (10 + i1))))), (0, .ref (a 0)), (1, .int (iI x1)), (2, .int (iI x2)), (3, .int (iI x3))]) hex hbc dX5_sound_76 hl (k := 1) rfl (iI_add _ _) (by decide) rfl (fun ls hl => ?_)
                refine lv_goto (tgt := 44) hex hbc dX5_sound_79 (by decide) ?_
                exact ih_44 (i1 + 1) (s1 + (σ 0 (10 + i1))) f0_75 ⟨by omega, by omega, by rw [hs]; unfold smE; rw [show i1 + 1 - x1 = (i1 - x1) + 1 by omega, sumN_at (by omega), show x1 + (i1 - x1) = i1 by omega], fun k => by rw [ef0_75]; unfold ups; rw [hw k]; (repeat' split) <;> first | omega | exact congrArg _ (by omega)⟩ (by omega) _ _ _ hP hD hS (lv_sub hl [0, 1, 2, 3, 4, 5] rfl)
          exact loop_44 _ x1 0 (σ 0) ⟨by omega, by omega, by unfold smE; rw [show (x1 - x1).toNat = 0 by omega]; rfl, fun k => (if_neg (by omega)).symm⟩ (mz_lt _) _ _ _ hP hD hS (lv_sub hl [0, 1, 2, 3, 4, 5] rfl)
        · skip
          refine lv_iconst (v := iI (-1)) hex hbc dX5_sound_32 rfl ?_
          exact g_iret hex hbc hrt hlocks hK hP hD hS ⟨fun h => (by unfold okE at h; exfalso; omega), fun _ => ⟨rfl, ⟨rfl, rfl, rfl, rfl, rfl⟩⟩⟩ dX5_sound_33
set_option maxHeartbeats 4000000 in
set_option maxRecDepth 100000 in
theorem mX5_isOf (l : Launch) (x1 : Int) (x2 : Int) (h1 : -2147483648 ≤ x1 ∧ x1 < 2147483648) (h2 : -2147483648 ≤ x2 ∧ x2 < 2147483648) : Met l yX5_isOf wsX5_isOf ({ frames := 1, cells := 0, slots := 0, locals := 22 }) (va_Pc [.int (iI x1), .int (iI x2)] (fun _ => True)) (va_Qi (fun r (_ : Unit) => ∃ z, iI z = r ∧ (((okS x1 x2) ∧ z = 1) ∨ (¬ (okS x1 x2) ∧ z = 0))) (fun _ _ => True) (fun _ => False)) 0 0 (fun _ => False) := by
  refine Met.ofW (cc := cX5_isOf) (maxL := 2) (ret := some .boolean) (by decide) rfl ?_
  intro p e s m args below meth c s₁ B hml hv
  obtain ⟨rfl, -⟩ := hv
  have hex := B.exec
  have hbc := B.bytes
  have hrt := B.returns
  have hts := atoms_spec (ws := wsX5_isOf) B.pre
  have hown : s.vm.findClass RX5 = some m.cls := findClass_of_methodNamed B.named
  have hlocks := B.notSynchronized
  have hS : va_S (fun _ => False) s.heap s.heap [] := va_S.rf
  have hl := lv_entry ([.int (iI x1), .int (iI x2)]) (n := 2) (Nat.le_of_ble_eq_true rfl)
  rw [lg_entry_eq]
  generalize (lg_sl ([.int (iI x1), .int (iI x2)]) ++ List.replicate (2 - (lg_sl ([.int (iI x1), .int (iI x2)])).length) Slot.unset).toArray = ls at hl ⊢
  have hl : lv_has ls 2 [(0, .int (iI x1)), (1, .int (iI x2))] := hl
  refine lv_iload_n hex hbc dX5_isOf_0 rfl (lv_at hl 0 rfl) ?_
  by_cases cs1 : x1 < 0 ∨ 7 < x1
  · refine lv_tableOut (tgt := 116) hex hbc dX5_isOf_1 (by rw [iI_toInt (by omega)]; exact cs1) (by decide) ?_
    refine lv_iload_n hex hbc dX5_isOf_116 rfl (lv_at hl 0 rfl) ?_
    refine lv_bipush (v := iI 8) hex hbc dX5_isOf_117 (by decide) ?_
    refine zt_icmp_ne (a := x1) (b := 8) (tgt := 137) hex hbc (by omega) dX5_isOf_119 (by decide) (fun c119 => ?_) (fun c119 => ?_)
    · skip
      refine lv_iconst (v := iI 0) hex hbc dX5_isOf_137 rfl ?_
      exact W.zret hex hbc hrt rfl (fun t ht hW => ⟨⟨_, (), rfl, ⟨_, rfl, by unfold okS lowS highS; (repeat' split) <;> omega⟩, trivial⟩, hS.F ht⟩) (fun q hq => hS.2.2 q hq) dX5_isOf_138 hlocks
    · skip
      refine lv_iload_n hex hbc dX5_isOf_122 rfl (lv_at hl 1 rfl) ?_
      refine lv_iconst (v := iI 0) hex hbc dX5_isOf_123 rfl ?_
      refine lv_sipush (v := iI 500) hex hbc dX5_isOf_124 (by decide) ?_
      refine g_callS0 [.int (iI x2), .int (iI 0), .int (iI 500)] ⟨hex, hbc, hml, hown, hts⟩ (mX5_isIn l x2 0 500 (by omega) (by omega) (by omega)) (va_cwS 3 hts gX5_isOf_X5_isIn rfl rfl rfl (by decide +kernel) ⟨Nat.le_of_ble_eq_true rfl, Nat.le_of_ble_eq_true rfl⟩) hS rfl rfl hl.1 (Nat.le_of_ble_eq_true rfl) dX5_isOf_127 ⟨Nat.zero_le _, Nat.zero_le _⟩ (fun r_127 H locs hw_127 hS => ?_)
      obtain ⟨vb127, rfl, hv127⟩ := hw_127
      refine zt_ifb_eq (P := (0 ≤ x2 ∧ x2 ≤ 500)) (tgt := 137) hex hbc hv127 dX5_isOf_130 (by decide) (fun c130 => ?_) (fun c130 => ?_)
      · skip
        refine lv_iconst (v := iI 0) hex hbc dX5_isOf_137 rfl ?_
        exact W.zret hex hbc hrt rfl (fun t ht hW => ⟨⟨_, (), rfl, ⟨_, rfl, by unfold okS lowS highS; (repeat' split) <;> omega⟩, trivial⟩, hS.F ht⟩) (fun q hq => hS.2.2 q hq) dX5_isOf_138 hlocks
      · skip
        refine lv_iconst (v := iI 1) hex hbc dX5_isOf_133 rfl ?_
        refine lv_goto (tgt := 138) hex hbc dX5_isOf_134 (by decide) ?_
        exact W.zret hex hbc hrt rfl (fun t ht hW => ⟨⟨_, (), rfl, ⟨_, rfl, by unfold okS lowS highS; (repeat' split) <;> omega⟩, trivial⟩, hS.F ht⟩) (fun q hq => hS.2.2 q hq) dX5_isOf_138 hlocks
  by_cases cs1_0 : x1 = 0
  · refine zt_nm (a := x1) (b := 0) cs1_0 ?_
    refine lv_tableIn (off := 47) (tgt := 48) hex hbc dX5_isOf_1 (by decide) (by decide) rfl (by decide) ?_
    refine lv_iload_n hex hbc dX5_isOf_48 rfl (lv_at hl 1 rfl) ?_
    refine lv_iconst (v := iI 1) hex hbc dX5_isOf_49 rfl ?_
    refine lv_sipush (v := iI 1000) hex hbc dX5_isOf_50 (by decide) ?_
    refine g_callS0 [.int (iI x2), .int (iI 1), .int (iI 1000)] ⟨hex, hbc, hml, hown, hts⟩ (mX5_isIn l x2 1 1000 (by omega) (by omega) (by omega)) (va_cwS 3 hts gX5_isOf_X5_isIn rfl rfl rfl (by decide +kernel) ⟨Nat.le_of_ble_eq_true rfl, Nat.le_of_ble_eq_true rfl⟩) hS rfl rfl hl.1 (Nat.le_of_ble_eq_true rfl) dX5_isOf_53 ⟨Nat.zero_le _, Nat.zero_le _⟩ (fun r_53 H locs hw_53 hS => ?_)
    obtain ⟨vb53, rfl, hv53⟩ := hw_53
    exact W.zret hex hbc hrt (nar_b hv53) (fun t ht hW => ⟨⟨_, (), rfl, ⟨_, rfl, by unfold okS lowS highS; (repeat' split) <;> omega⟩, trivial⟩, hS.F ht⟩) (fun q hq => hS.2.2 q hq) dX5_isOf_56 hlocks
  by_cases cs1_1 : x1 = 1
  · refine zt_nm (a := x1) (b := 1) cs1_1 ?_
    refine lv_tableIn (off := 56) (tgt := 57) hex hbc dX5_isOf_1 (by decide) (by decide) rfl (by decide) ?_
    refine lv_iload_n hex hbc dX5_isOf_57 rfl (lv_at hl 1 rfl) ?_
    refine lv_iconst (v := iI 1) hex hbc dX5_isOf_58 rfl ?_
    refine lv_sipush (v := iI 999) hex hbc dX5_isOf_59 (by decide) ?_
    refine g_callS0 [.int (iI x2), .int (iI 1), .int (iI 999)] ⟨hex, hbc, hml, hown, hts⟩ (mX5_isIn l x2 1 999 (by omega) (by omega) (by omega)) (va_cwS 3 hts gX5_isOf_X5_isIn rfl rfl rfl (by decide +kernel) ⟨Nat.le_of_ble_eq_true rfl, Nat.le_of_ble_eq_true rfl⟩) hS rfl rfl hl.1 (Nat.le_of_ble_eq_true rfl) dX5_isOf_62 ⟨Nat.zero_le _, Nat.zero_le _⟩ (fun r_62 H locs hw_62 hS => ?_)
    obtain ⟨vb62, rfl, hv62⟩ := hw_62
    exact W.zret hex hbc hrt (nar_b hv62) (fun t ht hW => ⟨⟨_, (), rfl, ⟨_, rfl, by unfold okS lowS highS; (repeat' split) <;> omega⟩, trivial⟩, hS.F ht⟩) (fun q hq => hS.2.2 q hq) dX5_isOf_65 hlocks
  by_cases cs1_2 : x1 = 2
  · refine zt_nm (a := x1) (b := 2) cs1_2 ?_
    refine lv_tableIn (off := 65) (tgt := 66) hex hbc dX5_isOf_1 (by decide) (by decide) rfl (by decide) ?_
    refine lv_iload_n hex hbc dX5_isOf_66 rfl (lv_at hl 1 rfl) ?_
    refine lv_iconst (v := iI 1) hex hbc dX5_isOf_67 rfl ?_
    refine lv_bipush (v := iI 16) hex hbc dX5_isOf_68 (by decide) ?_
    refine g_callS0 [.int (iI x2), .int (iI 1), .int (iI 16)] ⟨hex, hbc, hml, hown, hts⟩ (mX5_isIn l x2 1 16 (by omega) (by omega) (by omega)) (va_cwS 3 hts gX5_isOf_X5_isIn rfl rfl rfl (by decide +kernel) ⟨Nat.le_of_ble_eq_true rfl, Nat.le_of_ble_eq_true rfl⟩) hS rfl rfl hl.1 (Nat.le_of_ble_eq_true rfl) dX5_isOf_70 ⟨Nat.zero_le _, Nat.zero_le _⟩ (fun r_70 H locs hw_70 hS => ?_)
    obtain ⟨vb70, rfl, hv70⟩ := hw_70
    exact W.zret hex hbc hrt (nar_b hv70) (fun t ht hW => ⟨⟨_, (), rfl, ⟨_, rfl, by unfold okS lowS highS; (repeat' split) <;> omega⟩, trivial⟩, hS.F ht⟩) (fun q hq => hS.2.2 q hq) dX5_isOf_73 hlocks
  by_cases cs1_3 : x1 = 3
  · refine zt_nm (a := x1) (b := 3) cs1_3 ?_
    refine lv_tableIn (off := 73) (tgt := 74) hex hbc dX5_isOf_1 (by decide) (by decide) rfl (by decide) ?_
    refine lv_iload_n hex hbc dX5_isOf_74 rfl (lv_at hl 1 rfl) ?_
    refine lv_bipush (v := iI 10) hex hbc dX5_isOf_75 (by decide) ?_
    refine lv_bipush (v := iI 100) hex hbc dX5_isOf_77 (by decide) ?_
    refine g_callS0 [.int (iI x2), .int (iI 10), .int (iI 100)] ⟨hex, hbc, hml, hown, hts⟩ (mX5_isIn l x2 10 100 (by omega) (by omega) (by omega)) (va_cwS 3 hts gX5_isOf_X5_isIn rfl rfl rfl (by decide +kernel) ⟨Nat.le_of_ble_eq_true rfl, Nat.le_of_ble_eq_true rfl⟩) hS rfl rfl hl.1 (Nat.le_of_ble_eq_true rfl) dX5_isOf_79 ⟨Nat.zero_le _, Nat.zero_le _⟩ (fun r_79 H locs hw_79 hS => ?_)
    obtain ⟨vb79, rfl, hv79⟩ := hw_79
    exact W.zret hex hbc hrt (nar_b hv79) (fun t ht hW => ⟨⟨_, (), rfl, ⟨_, rfl, by unfold okS lowS highS; (repeat' split) <;> omega⟩, trivial⟩, hS.F ht⟩) (fun q hq => hS.2.2 q hq) dX5_isOf_82 hlocks
  by_cases cs1_4 : x1 = 4
  · refine zt_nm (a := x1) (b := 4) cs1_4 ?_
    refine lv_tableIn (off := 82) (tgt := 83) hex hbc dX5_isOf_1 (by decide) (by decide) rfl (by decide) ?_
    refine lv_iload_n hex hbc dX5_isOf_83 rfl (lv_at hl 1 rfl) ?_
    refine lv_bipush (v := iI 100) hex hbc dX5_isOf_84 (by decide) ?_
    refine lv_sipush (v := iI 1000) hex hbc dX5_isOf_86 (by decide) ?_
    refine g_callS0 [.int (iI x2), .int (iI 100), .int (iI 1000)] ⟨hex, hbc, hml, hown, hts⟩ (mX5_isIn l x2 100 1000 (by omega) (by omega) (by omega)) (va_cwS 3 hts gX5_isOf_X5_isIn rfl rfl rfl (by decide +kernel) ⟨Nat.le_of_ble_eq_true rfl, Nat.le_of_ble_eq_true rfl⟩) hS rfl rfl hl.1 (Nat.le_of_ble_eq_true rfl) dX5_isOf_89 ⟨Nat.zero_le _, Nat.zero_le _⟩ (fun r_89 H locs hw_89 hS => ?_)
    obtain ⟨vb89, rfl, hv89⟩ := hw_89
    exact W.zret hex hbc hrt (nar_b hv89) (fun t ht hW => ⟨⟨_, (), rfl, ⟨_, rfl, by unfold okS lowS highS; (repeat' split) <;> omega⟩, trivial⟩, hS.F ht⟩) (fun q hq => hS.2.2 q hq) dX5_isOf_92 hlocks
  by_cases cs1_5 : x1 = 5
  · refine zt_nm (a := x1) (b := 5) cs1_5 ?_
    refine lv_tableIn (off := 92) (tgt := 93) hex hbc dX5_isOf_1 (by decide) (by decide) rfl (by decide) ?_
    refine lv_iload_n hex hbc dX5_isOf_93 rfl (lv_at hl 1 rfl) ?_
    refine lv_iconst (v := iI 1) hex hbc dX5_isOf_94 rfl ?_
    refine lv_ldc (v := iI 200000) hex hbc hown (hts _ (List.mem_of_getElem? (i := 1) rfl)) dX5_isOf_95 ?_
    refine g_callS0 [.int (iI x2), .int (iI 1), .int (iI 200000)] ⟨hex, hbc, hml, hown, hts⟩ (mX5_isIn l x2 1 200000 (by omega) (by omega) (by omega)) (va_cwS 3 hts gX5_isOf_X5_isIn rfl rfl rfl (by decide +kernel) ⟨Nat.le_of_ble_eq_true rfl, Nat.le_of_ble_eq_true rfl⟩) hS rfl rfl hl.1 (Nat.le_of_ble_eq_true rfl) dX5_isOf_97 ⟨Nat.zero_le _, Nat.zero_le _⟩ (fun r_97 H locs hw_97 hS => ?_)
    obtain ⟨vb97, rfl, hv97⟩ := hw_97
    exact W.zret hex hbc hrt (nar_b hv97) (fun t ht hW => ⟨⟨_, (), rfl, ⟨_, rfl, by unfold okS lowS highS; (repeat' split) <;> omega⟩, trivial⟩, hS.F ht⟩) (fun q hq => hS.2.2 q hq) dX5_isOf_100 hlocks
  by_cases cs1_6 : x1 = 6
  · refine zt_nm (a := x1) (b := 6) cs1_6 ?_
    refine lv_tableIn (off := 100) (tgt := 101) hex hbc dX5_isOf_1 (by decide) (by decide) rfl (by decide) ?_
    refine lv_iload_n hex hbc dX5_isOf_101 rfl (lv_at hl 1 rfl) ?_
    refine lv_iconst (v := iI 1) hex hbc dX5_isOf_102 rfl ?_
    refine lv_bipush (v := iI 32) hex hbc dX5_isOf_103 (by decide) ?_
    refine g_callS0 [.int (iI x2), .int (iI 1), .int (iI 32)] ⟨hex, hbc, hml, hown, hts⟩ (mX5_isIn l x2 1 32 (by omega) (by omega) (by omega)) (va_cwS 3 hts gX5_isOf_X5_isIn rfl rfl rfl (by decide +kernel) ⟨Nat.le_of_ble_eq_true rfl, Nat.le_of_ble_eq_true rfl⟩) hS rfl rfl hl.1 (Nat.le_of_ble_eq_true rfl) dX5_isOf_105 ⟨Nat.zero_le _, Nat.zero_le _⟩ (fun r_105 H locs hw_105 hS => ?_)
    obtain ⟨vb105, rfl, hv105⟩ := hw_105
    exact W.zret hex hbc hrt (nar_b hv105) (fun t ht hW => ⟨⟨_, (), rfl, ⟨_, rfl, by unfold okS lowS highS; (repeat' split) <;> omega⟩, trivial⟩, hS.F ht⟩) (fun q hq => hS.2.2 q hq) dX5_isOf_108 hlocks
  have cs1_7 : x1 = 7 := by omega
  refine zt_nm (a := x1) (b := 7) cs1_7 ?_
  refine lv_tableIn (off := 108) (tgt := 109) hex hbc dX5_isOf_1 (by decide) (by decide) rfl (by decide) ?_
  refine lv_iload_n hex hbc dX5_isOf_109 rfl (lv_at hl 1 rfl) ?_
  refine lv_iconst (v := iI 0) hex hbc dX5_isOf_110 rfl ?_
  refine lv_iconst (v := iI 1) hex hbc dX5_isOf_111 rfl ?_
  refine g_callS0 [.int (iI x2), .int (iI 0), .int (iI 1)] ⟨hex, hbc, hml, hown, hts⟩ (mX5_isIn l x2 0 1 (by omega) (by omega) (by omega)) (va_cwS 3 hts gX5_isOf_X5_isIn rfl rfl rfl (by decide +kernel) ⟨Nat.le_of_ble_eq_true rfl, Nat.le_of_ble_eq_true rfl⟩) hS rfl rfl hl.1 (Nat.le_of_ble_eq_true rfl) dX5_isOf_112 ⟨Nat.zero_le _, Nat.zero_le _⟩ (fun r_112 H locs hw_112 hS => ?_)
  obtain ⟨vb112, rfl, hv112⟩ := hw_112
  exact W.zret hex hbc hrt (nar_b hv112) (fun t ht hW => ⟨⟨_, (), rfl, ⟨_, rfl, by unfold okS lowS highS; (repeat' split) <;> omega⟩, trivial⟩, hS.F ht⟩) (fun q hq => hS.2.2 q hq) dX5_isOf_115 hlocks
theorem iX5_set_X5 : ∀ w ∈ wsX50, w ∈ wsX5_set := fun _ h => List.mem_cons_of_mem _ (List.mem_append_right _ h)
set_option maxHeartbeats 4000000 in
set_option maxRecDepth 100000 in
theorem mX5_set (l : Launch) (G : va_G) (cx a : Nat → Nat) (σ : Nat → Int → Int)  (x1 : Int) (x2 : Int) (h1 : -2147483648 ≤ x1 ∧ x1 < 2147483648) (h2 : -2147483648 ≤ x2 ∧ x2 < 2147483648) (hN : 0 ≤ σ 2 0 ∧ σ 2 0 ≤ 8) (hI : Inv (σ 0)) : Met l yX5_set wsX5_set ({ frames := 2, cells := 0, slots := 0, locals := 43 }) (va_Pc [.ref (a 0), .int (iI x1), .int (iI x2)] (gW G (tm cx) (MA a) (wm cx a) σ)) (va_Qi (fun r u => ((okS x1 x2) → iI (σ 0 (1 + x1)) = r ∧ MC_ σ u (ups (σ 0) (1 + x1) x2)) ∧ (¬ (okS x1 x2) → iI (-1) = r ∧ MQ_ σ u)) (gW G (tm cx) (MA a) (wm cx a)) (MA a)) 0 0 (MA a) := by
  refine Met.ofW (cc := cX5_set) (maxL := 4) (ret := some .int) (by decide) rfl ?_
  intro p e s m args below meth c s₁ B hml hv
  obtain ⟨rfl, hP, hK, hD⟩ := hv
  have hex := B.exec
  have hbc := B.bytes
  have hrt := B.returns
  have hts := atoms_spec (ws := wsX5_set) B.pre
  have hown : s.vm.findClass RX5 = some m.cls := findClass_of_methodNamed B.named
  have hlocks := B.notSynchronized
  have hS : va_S (MA a) s.heap s.heap [] := va_S.rf
  have hin5 := iX5_set_X5
  have hl := lv_entry ([.ref (a 0), .int (iI x1), .int (iI x2)]) (n := 4) (Nat.le_of_ble_eq_true rfl)
  rw [lg_entry_eq]
  generalize (lg_sl ([.ref (a 0), .int (iI x1), .int (iI x2)]) ++ List.replicate (4 - (lg_sl ([.ref (a 0), .int (iI x1), .int (iI x2)])).length) Slot.unset).toArray = ls at hl ⊢
  have hl : lv_has ls 4 [(0, .ref (a 0)), (1, .int (iI x1)), (2, .int (iI x2))] := hl
  obtain ⟨hB, hEn, hMk, hAs, hPm⟩ := id hI
  refine lv_iload_n hex hbc dX5_set_0 rfl (lv_at hl 1 rfl) ?_
  refine lv_iload_n hex hbc dX5_set_1 rfl (lv_at hl 2 rfl) ?_
  refine g_callS [.int (iI x1), .int (iI x2)] ⟨hex, hbc, hml, hown, hts⟩ (mX5_isOf l x1 x2 (by omega) (by omega)) (va_cwS 2 hts gX5_set_X5_isOf rfl rfl rfl (by decide +kernel) ⟨Nat.le_of_ble_eq_true rfl, Nat.le_of_ble_eq_true rfl⟩) hP hS rfl rfl hl.1 (Nat.le_of_ble_eq_true rfl) dX5_set_2 ⟨Nat.zero_le _, Nat.zero_le _⟩ (fun r_2 H locs hw_2 hP hS => ?_)
  obtain ⟨vb2, rfl, hv2⟩ := hw_2
  refine zt_ifb_ne (P := (okS x1 x2)) (tgt := 10) hex hbc hv2 dX5_set_5 (by decide) (fun c5 => ?_) (fun c5 => ?_)
  · skip
    have hs0 := c5.1
    have hs1 := c5.2.1
    refine lv_aload_n hex hbc dX5_set_10 rfl (lv_at hl 0 rfl) ?_
    refine g_callv [] ⟨hex, hbc, hml, hown, hts⟩ (mX5_remember l G cx a σ  hN) (cwV 0 hts gX5_set_X5_remember rfl rfl rfl (by decide +kernel) ⟨Nat.le_of_ble_eq_true rfl, Nat.le_of_ble_eq_true rfl⟩) hK hP hD hS (fun _ h => h) 0 5 rfl rfl rfl rfl hl.1 (Nat.le_of_ble_eq_true rfl) dX5_set_11 ⟨Nat.zero_le _, Nat.zero_le _⟩ (fun u_11 H locs hw_11 hP hD hS hz_11 hk_11 => ?_)
    obtain rfl := hw_11
    have hP : va_P G vwCl (wm cx a (sc (sc σ 1 (mpast (σ 1) (σ 0) (σ 2 0))) 2 (ups (σ 2) 0 (mpm (σ 2 0))))) H := hP
    have hD : va_D (MA a) (wm cx a (sc (sc σ 1 (mpast (σ 1) (σ 0) (σ 2 0))) 2 (ups (σ 2) 0 (mpm (σ 2 0))))) := hD
    refine lv_aload_n hex hbc dX5_set_14 rfl (lv_at hl 0 rfl) ?_
    refine va_get (v := .ref (a 1)) hex hbc hts hin5 hown hK hP 0 rfl rfl 0 (by decide) (hts _ (List.mem_of_getElem? (i := 1) rfl)) (fun _ h => h) rfl dX5_set_15 ?_
    refine lv_iconst (v := iI 1) hex hbc dX5_set_18 rfl ?_
    refine lv_iload_n hex hbc dX5_set_19 rfl (lv_at hl 1 rfl) ?_
    refine zt_iadd hex hbc dX5_set_20 ?_
    refine g_iald (f := (σ 0)) (v := (σ 0 (1 + x1))) (i := (1 + x1)) hex hbc hK hP 1 0 rfl rfl (by decide) (by omega) rfl dX5_set_21 ?_
    refine lv_istore_n (lv' := [(3, .int (iI (σ 0 (1 + x1)))), (0, .ref (a 0)), (1, .int (iI x1)), (2, .int (iI x2))]) hex hbc dX5_set_22 rfl hl (by decide) rfl (fun ls hl => ?_)
    refine lv_aload_n hex hbc dX5_set_23 rfl (lv_at hl 1 rfl) ?_
    refine va_get (v := .ref (a 1)) hex hbc hts hin5 hown hK hP 0 rfl rfl 0 (by decide) (hts _ (List.mem_of_getElem? (i := 1) rfl)) (fun _ h => h) rfl dX5_set_24 ?_
    refine lv_iconst (v := iI 1) hex hbc dX5_set_27 rfl ?_
    refine lv_iload_n hex hbc dX5_set_28 rfl (lv_at hl 2 rfl) ?_
    refine zt_iadd hex hbc dX5_set_29 ?_
    refine lv_iload_n hex hbc dX5_set_30 rfl (lv_at hl 3 rfl) ?_
    have hi_31 : (0 : Int) ≤ (1 + x1) ∧ (1 + x1) < (107 : Int) := (by omega)
    refine g_iast (σ := (sc (sc σ 1 (mpast (σ 1) (σ 0) (σ 2 0))) 2 (ups (σ 2) 0 (mpm (σ 2 0))))) (f := (σ 0)) (i := (1 + x1)) (v := x2) (τ := st (sc (sc σ 1 (mpast (σ 1) (σ 0) (σ 2 0))) 2 (ups (σ 2) 0 (mpm (σ 2 0)))) 0 (1 + x1) x2) hex hbc hK hP hD hS 1 0 rfl rfl (by decide) hi_31 dX5_set_31 (wm_up_1 hi_31) (fun H locs hP hD hS => ?_)
    obtain ⟨f0_31, ef0_31⟩ : ∃ z : Int → Int, z = ups (σ 0) (1 + x1) x2 := ⟨_, rfl⟩
    have hP : va_P G vwCl (wm cx a (sc (sc (sc σ 0 f0_31) 1 (mpast (σ 1) (σ 0) (σ 2 0))) 2 (ups (σ 2) 0 (mpm (σ 2 0))))) H := by rw [ef0_31]; exact hP
    have hD : va_D (MA a) (wm cx a (sc (sc (sc σ 0 f0_31) 1 (mpast (σ 1) (σ 0) (σ 2 0))) 2 (ups (σ 2) 0 (mpm (σ 2 0))))) := by rw [ef0_31]; exact hD
    refine lv_iload_n hex hbc dX5_set_32 rfl (lv_at hl 0 rfl) ?_
    exact g_iret hex hbc hrt hlocks hK hP hD hS ⟨fun _ => ⟨rfl, ⟨ef0_31, rfl, (show ups (σ 2) 0 (mpm (σ 2 0)) 0 = mpm (σ 2 0) from ups_s _ _ _), (show ups (σ 2) 0 (mpm (σ 2 0)) 1 = σ 2 1 from ups_n _ _ (by decide)), rfl⟩⟩, fun h => absurd c5 h⟩ dX5_set_33
  · skip
    refine lv_iconst (v := iI (-1)) hex hbc dX5_set_8 rfl ?_
    exact g_iret hex hbc hrt hlocks hK hP hD hS ⟨fun h => absurd h c5, fun _ => ⟨rfl, ⟨rfl, rfl, rfl, rfl, rfl⟩⟩⟩ dX5_set_9
theorem iX5_find_X5 : ∀ w ∈ wsX50, w ∈ wsX5_find := fun _ h => List.mem_cons_of_mem _ (List.mem_append_right _ h)
set_option maxHeartbeats 4000000 in
set_option maxRecDepth 100000 in
theorem mX5_find (l : Launch) (G : va_G) (cx a : Nat → Nat) (σ : Nat → Int → Int)   (hN : 0 ≤ σ 2 0 ∧ σ 2 0 ≤ 8) (hI : Inv (σ 0)) : Met l yX5_find wsX5_find ({ frames := 1, cells := 0, slots := 0, locals := 23 }) (va_Pc [.ref (a 0)] (gW G (tm cx) (MA a) (wm cx a) σ)) (va_Qi (fun r u => iI (fnd (σ 0) (σ 0 2)) = r ∧ MC_ σ u (spF (σ 0))) (gW G (tm cx) (MA a) (wm cx a)) (MA a)) 0 0 (MA a) := by
  refine Met.ofW (cc := cX5_find) (maxL := 2) (ret := some .int) (by decide) rfl ?_
  intro p e s m args below meth c s₁ B hml hv
  obtain ⟨rfl, hP, hK, hD⟩ := hv
  have hex := B.exec
  have hbc := B.bytes
  have hrt := B.returns
  have hts := atoms_spec (ws := wsX5_find) B.pre
  have hown : s.vm.findClass RX5 = some m.cls := findClass_of_methodNamed B.named
  have hlocks := B.notSynchronized
  have hS : va_S (MA a) s.heap s.heap [] := va_S.rf
  have hin5 := iX5_find_X5
  have hl := lv_entry ([.ref (a 0)]) (n := 2) (Nat.le_of_ble_eq_true rfl)
  rw [lg_entry_eq]
  generalize (lg_sl ([.ref (a 0)]) ++ List.replicate (2 - (lg_sl ([.ref (a 0)])).length) Slot.unset).toArray = ls at hl ⊢
  have hl : lv_has ls 2 [(0, .ref (a 0))] := hl
  obtain ⟨hB, hEn, hMk, hAs, hPm⟩ := id hI
  have hfb := fbn_in (σ 0) (σ 0 2) (σ 4) (σ 0 0 - 1).toNat
  obtain ⟨hb1, hb2, hb3, hb4, hb5⟩ := hfb
  have hf1 := fbn_1 (σ 0) (σ 0 2) (fun k => σ 0 (75 + k)) (σ 4) (σ 0 0 - 1).toNat
  have hfk := fbn_keep (σ 0) (σ 0 2) (fun k => σ 0 (75 + k)) (σ 0 0 - 1).toNat
  refine lv_aload_n hex hbc dX5_find_0 rfl (lv_at hl 0 rfl) ?_
  refine g_callv [] ⟨hex, hbc, hml, hown, hts⟩ (mX5_remember l G cx a σ  hN) (cwV 0 hts gX5_find_X5_remember rfl rfl rfl (by decide +kernel) ⟨Nat.le_of_ble_eq_true rfl, Nat.le_of_ble_eq_true rfl⟩) hK hP hD hS (fun _ h => h) 0 5 rfl rfl rfl rfl hl.1 (Nat.le_of_ble_eq_true rfl) dX5_find_1 ⟨Nat.zero_le _, Nat.zero_le _⟩ (fun u_1 H locs hw_1 hP hD hS hz_1 hk_1 => ?_)
  obtain rfl := hw_1
  have hP : va_P G vwCl (wm cx a (sc (sc σ 1 (mpast (σ 1) (σ 0) (σ 2 0))) 2 (ups (σ 2) 0 (mpm (σ 2 0))))) H := hP
  have hD : va_D (MA a) (wm cx a (sc (sc σ 1 (mpast (σ 1) (σ 0) (σ 2 0))) 2 (ups (σ 2) 0 (mpm (σ 2 0))))) := hD
  refine lv_aload_n hex hbc dX5_find_4 rfl (lv_at hl 0 rfl) ?_
  refine va_get (v := .ref (a 1)) hex hbc hts hin5 hown hK hP 0 rfl rfl 0 (by decide) (hts _ (List.mem_of_getElem? (i := 1) rfl)) (fun _ h => h) rfl dX5_find_5 ?_
  refine lv_bipush (v := iI 74) hex hbc dX5_find_8 (by decide) ?_
  refine lv_aload_n hex hbc dX5_find_10 rfl (lv_at hl 0 rfl) ?_
  refine lv_aload_n hex hbc dX5_find_11 rfl (lv_at hl 0 rfl) ?_
  refine va_get (v := .ref (a 1)) hex hbc hts hin5 hown hK hP 0 rfl rfl 0 (by decide) (hts _ (List.mem_of_getElem? (i := 1) rfl)) (fun _ h => h) rfl dX5_find_12 ?_
  refine lv_iconst (v := iI 2) hex hbc dX5_find_15 rfl ?_
  refine g_iald (f := (σ 0)) (v := (σ 0 2)) (i := 2) hex hbc hK hP 1 0 rfl rfl (by decide) (by omega) rfl dX5_find_16 ?_
  refine g_calli [.int (iI (σ 0 2))] ⟨hex, hbc, hml, hown, hts⟩ (mX5_findBy l G cx a (sc (sc σ 1 (mpast (σ 1) (σ 0) (σ 2 0))) 2 (ups (σ 2) 0 (mpm (σ 2 0)))) (σ 0 2) (show -2147483648 ≤ (σ 0 2) ∧ (σ 0 2) < 2147483648 from by omega) hI) (cwV 1 hts gX5_find_X5_findBy rfl rfl rfl (by decide +kernel) ⟨Nat.le_of_ble_eq_true rfl, Nat.le_of_ble_eq_true rfl⟩) hK hP hD hS (fun _ h => h) 0 5 rfl rfl rfl rfl hl.1 (Nat.le_of_ble_eq_true rfl) dX5_find_17 ⟨Nat.zero_le _, Nat.zero_le _⟩ (fun r_17 u_17 H locs hw_17 hP hD hS hz_17 hk_17 => ?_)
  obtain ⟨rfl, rfl⟩ := hw_17
  have hP : va_P G vwCl (wm cx a (sc (sc (sc σ 1 (mpast (σ 1) (σ 0) (σ 2 0))) 2 (ups (σ 2) 0 (mpm (σ 2 0)))) 4 ((fbn (σ 0) (σ 0 2) (σ 4) (σ 0 0 - 1).toNat).2))) H := hP
  have hD : va_D (MA a) (wm cx a (sc (sc (sc σ 1 (mpast (σ 1) (σ 0) (σ 2 0))) 2 (ups (σ 2) 0 (mpm (σ 2 0)))) 4 ((fbn (σ 0) (σ 0 2) (σ 4) (σ 0 0 - 1).toNat).2))) := hD
  have hi_20 : (0 : Int) ≤ 74 ∧ 74 < (107 : Int) := (by omega)
  refine g_iast (σ := (sc (sc (sc σ 1 (mpast (σ 1) (σ 0) (σ 2 0))) 2 (ups (σ 2) 0 (mpm (σ 2 0)))) 4 ((fbn (σ 0) (σ 0 2) (σ 4) (σ 0 0 - 1).toNat).2))) (f := (σ 0)) (i := 74) (v := ((fbn (σ 0) (σ 0 2) (σ 4) (σ 0 0 - 1).toNat).1)) (τ := st (sc (sc (sc σ 1 (mpast (σ 1) (σ 0) (σ 2 0))) 2 (ups (σ 2) 0 (mpm (σ 2 0)))) 4 ((fbn (σ 0) (σ 0 2) (σ 4) (σ 0 0 - 1).toNat).2)) 0 74 ((fbn (σ 0) (σ 0 2) (σ 4) (σ 0 0 - 1).toNat).1)) hex hbc hK hP hD hS 1 0 rfl rfl (by decide) hi_20 dX5_find_20 (wm_up_1 hi_20) (fun H locs hP hD hS => ?_)
  obtain ⟨f0_20, ef0_20⟩ : ∃ z : Int → Int, z = ups (σ 0) 74 ((fbn (σ 0) (σ 0 2) (σ 4) (σ 0 0 - 1).toNat).1) := ⟨_, rfl⟩
  have hP : va_P G vwCl (wm cx a (sc (sc (sc (sc σ 0 f0_20) 1 (mpast (σ 1) (σ 0) (σ 2 0))) 2 (ups (σ 2) 0 (mpm (σ 2 0)))) 4 ((fbn (σ 0) (σ 0 2) (σ 4) (σ 0 0 - 1).toNat).2))) H := by rw [ef0_20]; exact hP
  have hD : va_D (MA a) (wm cx a (sc (sc (sc (sc σ 0 f0_20) 1 (mpast (σ 1) (σ 0) (σ 2 0))) 2 (ups (σ 2) 0 (mpm (σ 2 0)))) 4 ((fbn (σ 0) (σ 0 2) (σ 4) (σ 0 0 - 1).toNat).2))) := by rw [ef0_20]; exact hD
  refine lv_iconst (v := iI 0) hex hbc dX5_find_21 rfl ?_
  refine lv_istore_n (lv' := [(1, .int (iI 0)), (0, .ref (a 0))]) hex hbc dX5_find_22 rfl hl (by decide) rfl (fun ls hl => ?_)
  have loop_23 : ∀ (N : Nat) (i1 : Int) (w1 : Int → Int), (0 ≤ i1 ∧ i1 ≤ (fbn (σ 0) (σ 0 2) (σ 4) (σ 0 0 - 1).toNat).1 ∧ ∀ k, w1 k = if k = 74 then (fbn (σ 0) (σ 0 2) (σ 4) (σ 0 0 - 1).toNat).1 else if 75 ≤ k ∧ k < 75 + i1 then (fbn (σ 0) (σ 0 2) (σ 4) (σ 0 0 - 1).toNat).2 (k - 75) else σ 0 k) → ((fbn (σ 0) (σ 0 2) (σ 4) (σ 0 0 - 1).toNat).1 - i1) < (N : Int) → ∀ (H : Heap) (locs : List Loc) (ls : Array Slot), va_P G vwCl (wm cx a (sc (sc (sc (sc σ 0 w1) 1 (mpast (σ 1) (σ 0) (σ 2 0))) 2 (ups (σ 2) 0 (mpm (σ 2 0)))) 4 ((fbn (σ 0) (σ 0 2) (σ 4) (σ 0 0 - 1).toNat).2))) H → va_D (MA a) (wm cx a (sc (sc (sc (sc σ 0 w1) 1 (mpast (σ 1) (σ 0) (σ 2 0))) 2 (ups (σ 2) 0 (mpm (σ 2 0)))) 4 ((fbn (σ 0) (σ 0 2) (σ 4) (σ 0 0 - 1).toNat).2))) → va_S (MA a) s.heap H locs → lv_has ls 2 [(1, .int (iI i1)), (0, .ref (a 0))] → W p l e (headSpec wsX5_find ({ frames := 1, cells := 0, slots := 0, locals := 23 })).room s m ([.ref (a 0)] : List Value).toArray below meth c H locs 0 0 (MQ below (va_Qi (fun r u => iI (fnd (σ 0) (σ 0 2)) = r ∧ MC_ σ u (spF (σ 0))) (gW G (tm cx) (MA a) (wm cx a)) (MA a)) ([.ref (a 0)] : List Value).toArray s 0 0 (MA a)) (F0 m 23 ls []) := by
    intro N
    induction N with
    | zero => intro i1 w1 hinv hlt; exfalso; omega
    | succ N ih_23 =>
      intro i1 w1 ⟨hi0, hi1, hw⟩ hlt_23 H locs ls hP hD hS hl
      refine lv_iload_n hex hbc dX5_find_23 rfl (lv_at hl 0 rfl) ?_
      refine lv_aload_n hex hbc dX5_find_24 rfl (lv_at hl 1 rfl) ?_
      refine va_get (v := .ref (a 1)) hex hbc hts hin5 hown hK hP 0 rfl rfl 0 (by decide) (hts _ (List.mem_of_getElem? (i := 1) rfl)) (fun _ h => h) rfl dX5_find_25 ?_
      refine lv_bipush (v := iI 74) hex hbc dX5_find_28 (by decide) ?_
      refine g_iald (f := w1) (v := (w1 74)) (i := 74) hex hbc hK hP 1 0 rfl rfl (by decide) (by omega) rfl dX5_find_30 ?_
      refine zt_nm (a := (w1 74)) (b := (fbn (σ 0) (σ 0 2) (σ 4) (σ 0 0 - 1).toNat).1) (by rw [hw]; exact if_pos rfl) ?_
      refine zt_icmp_ge (a := i1) (b := ((fbn (σ 0) (σ 0 2) (σ 4) (σ 0 0 - 1).toNat).1)) (tgt := 55) hex hbc (by omega) dX5_find_31 (by decide) (fun c31 => ?_) (fun c31 => ?_)
      · skip
        refine lv_aload_n hex hbc dX5_find_55 rfl (lv_at hl 1 rfl) ?_
        refine g_callv [] ⟨hex, hbc, hml, hown, hts⟩ (mX5_layOrder l G cx a (sc (sc (sc (sc σ 0 w1) 1 (mpast (σ 1) (σ 0) (σ 2 0))) 2 (ups (σ 2) 0 (mpm (σ 2 0)))) 4 ((fbn (σ 0) (σ 0 2) (σ 4) (σ 0 0 - 1).toNat).2))  ) (cwV 0 hts gX5_find_X5_layOrder rfl rfl rfl (by decide +kernel) ⟨Nat.le_of_ble_eq_true rfl, Nat.le_of_ble_eq_true rfl⟩) hK hP hD hS (fun _ h => h) 0 5 rfl rfl rfl rfl hl.1 (Nat.le_of_ble_eq_true rfl) dX5_find_56 ⟨Nat.zero_le _, Nat.zero_le _⟩ (fun u_56 H locs hw_56 hP hD hS hz_56 hk_56 => ?_)
        obtain rfl := hw_56
        have hP : va_P G vwCl (wm cx a (sc (sc (sc (sc σ 0 (spo (w1))) 1 (mpast (σ 1) (σ 0) (σ 2 0))) 2 (ups (σ 2) 0 (mpm (σ 2 0)))) 4 ((fbn (σ 0) (σ 0 2) (σ 4) (σ 0 0 - 1).toNat).2))) H := hP
        have hD : va_D (MA a) (wm cx a (sc (sc (sc (sc σ 0 (spo (w1))) 1 (mpast (σ 1) (σ 0) (σ 2 0))) 2 (ups (σ 2) 0 (mpm (σ 2 0)))) 4 ((fbn (σ 0) (σ 0 2) (σ 4) (σ 0 0 - 1).toNat).2))) := hD
        refine lv_aload_n hex hbc dX5_find_59 rfl (lv_at hl 1 rfl) ?_
        refine va_get (v := .ref (a 1)) hex hbc hts hin5 hown hK hP 0 rfl rfl 0 (by decide) (hts _ (List.mem_of_getElem? (i := 1) rfl)) (fun _ h => h) rfl dX5_find_60 ?_
        refine lv_bipush (v := iI 74) hex hbc dX5_find_63 (by decide) ?_
        refine g_iald (f := (spo (w1))) (v := ((spo (w1)) 74)) (i := 74) hex hbc hK hP 1 0 rfl rfl (by decide) (by omega) rfl dX5_find_65 ?_
        refine zt_nm (a := ((spo (w1)) 74)) (b := (fbn (σ 0) (σ 0 2) (σ 4) (σ 0 0 - 1).toNat).1) (show spo w1 74 = _ from by unfold spo; rw [if_neg (by omega), hw]; exact if_pos rfl) ?_
        exact g_iret hex hbc hrt hlocks hK hP hD hS ⟨congrArg iI hf1.1, ⟨(funext fun k => by show spo w1 k = _; unfold spo spF fnd; rw [hw k, hf1.1]; (repeat' split) <;> first | omega | rfl | (have h2 := hf1.2 (k - 75) (by omega) (by omega); omega) | (have h2 := hfk (k - 75) (by omega); rw [h2, show 75 + (k - 75) = k by omega])), rfl, (show ups (σ 2) 0 (mpm (σ 2 0)) 0 = mpm (σ 2 0) from ups_s _ _ _), (show ups (σ 2) 0 (mpm (σ 2 0)) 1 = σ 2 1 from ups_n _ _ (by decide)), rfl⟩⟩ dX5_find_66
      · skip
        refine lv_aload_n hex hbc dX5_find_34 rfl (lv_at hl 1 rfl) ?_
        refine va_get (v := .ref (a 1)) hex hbc hts hin5 hown hK hP 0 rfl rfl 0 (by decide) (hts _ (List.mem_of_getElem? (i := 1) rfl)) (fun _ h => h) rfl dX5_find_35 ?_
        refine lv_bipush (v := iI 75) hex hbc dX5_find_38 (by decide) ?_
        refine lv_iload_n hex hbc dX5_find_40 rfl (lv_at hl 0 rfl) ?_
        refine zt_iadd hex hbc dX5_find_41 ?_
        refine lv_aload_n hex hbc dX5_find_42 rfl (lv_at hl 1 rfl) ?_
        refine va_get (v := .ref (a 4)) hex hbc hts hin5 hown hK hP 0 rfl rfl 5 (by decide) (hts _ (List.mem_of_getElem? (i := 2) rfl)) (fun _ h => h) rfl dX5_find_43 ?_
        refine lv_iload_n hex hbc dX5_find_46 rfl (lv_at hl 0 rfl) ?_
        refine g_iald (f := ((fbn (σ 0) (σ 0 2) (σ 4) (σ 0 0 - 1).toNat).2)) (v := (((fbn (σ 0) (σ 0 2) (σ 4) (σ 0 0 - 1).toNat).2) i1)) (i := i1) hex hbc hK hP 4 0 rfl rfl (by decide) (by omega) rfl dX5_find_47 ?_
        have hi_48 : (0 : Int) ≤ (75 + i1) ∧ (75 + i1) < (107 : Int) := (by omega)
        refine g_iast (σ := (sc (sc (sc (sc σ 0 w1) 1 (mpast (σ 1) (σ 0) (σ 2 0))) 2 (ups (σ 2) 0 (mpm (σ 2 0)))) 4 ((fbn (σ 0) (σ 0 2) (σ 4) (σ 0 0 - 1).toNat).2))) (f := w1) (i := (75 + i1)) (v := (((fbn (σ 0) (σ 0 2) (σ 4) (σ 0 0 - 1).toNat).2) i1)) (τ := st (sc (sc (sc (sc σ 0 w1) 1 (mpast (σ 1) (σ 0) (σ 2 0))) 2 (ups (σ 2) 0 (mpm (σ 2 0)))) 4 ((fbn (σ 0) (σ 0 2) (σ 4) (σ 0 0 - 1).toNat).2)) 0 (75 + i1) (((fbn (σ 0) (σ 0 2) (σ 4) (σ 0 0 - 1).toNat).2) i1)) hex hbc hK hP hD hS 1 0 rfl rfl (by decide) hi_48 dX5_find_48 (wm_up_1 hi_48) (fun H locs hP hD hS => ?_)
        obtain ⟨f0_48, ef0_48⟩ : ∃ z : Int → Int, z = ups w1 (75 + i1) (((fbn (σ 0) (σ 0 2) (σ 4) (σ 0 0 - 1).toNat).2) i1) := ⟨_, rfl⟩
        have hP : va_P G vwCl (wm cx a (sc (sc (sc (sc σ 0 f0_48) 1 (mpast (σ 1) (σ 0) (σ 2 0))) 2 (ups (σ 2) 0 (mpm (σ 2 0)))) 4 ((fbn (σ 0) (σ 0 2) (σ 4) (σ 0 0 - 1).toNat).2))) H := by rw [ef0_48]; exact hP
        have hD : va_D (MA a) (wm cx a (sc (sc (sc (sc σ 0 f0_48) 1 (mpast (σ 1) (σ 0) (σ 2 0))) 2 (ups (σ 2) 0 (mpm (σ 2 0)))) 4 ((fbn (σ 0) (σ 0 2) (σ 4) (σ 0 0 - 1).toNat).2))) := by rw [ef0_48]; exact hD
        refine lv_iinc (v := iI (i1 + 1)) (lv' := [(1, .int (iI (i1 + 1))), (0, .ref (a 0))]) hex hbc dX5_find_49 hl (k := 0) rfl (iI_add _ _) (by decide) rfl (fun ls hl => ?_)
        refine lv_goto (tgt := 23) hex hbc dX5_find_52 (by decide) ?_
        exact ih_23 (i1 + 1) f0_48 ⟨by omega, by omega, fun k => by rw [ef0_48]; unfold ups; rw [hw k]; (repeat' split) <;> first | omega | exact congrArg _ (by omega)⟩ (by omega) _ _ _ hP hD hS (lv_sub hl [0, 1] rfl)
  exact loop_23 _ 0 f0_20 ⟨by omega, by omega, fun k => by rw [ef0_20]; unfold ups; (repeat' split) <;> first | omega | exact congrArg _ (by omega)⟩ (mz_lt _) _ _ _ hP hD hS (lv_sub hl [0, 1] rfl)
