/-! the reference: changes and small questions (rows laid by wip/gen) -/
theorem iX5_mark_X5 : ∀ w ∈ wsX50, w ∈ wsX5_mark := fun _ h => List.mem_cons_of_mem _ (List.mem_append_right _ h)
set_option maxHeartbeats 4000000 in
set_option maxRecDepth 100000 in
theorem mX5_mark (l : Launch) (G : va_G) (cx a : Nat → Nat) (σ : Nat → Int → Int)  (x : Int) (hx : -2147483648 ≤ x ∧ x < 2147483648) (hN : 0 ≤ σ 2 0 ∧ σ 2 0 ≤ 8) (hI : Inv (σ 0)) : Met l yX5_mark wsX5_mark ({ frames := 2, cells := 0, slots := 0, locals := 43 }) (va_Pc [.ref (a 0), .int (iI x)] (gW G (tm cx) (MA a) (wm cx a) σ)) (va_Qi (fun r u => Rmark (σ 0) x r (MQ_ σ u) (MC_ σ u)) (gW G (tm cx) (MA a) (wm cx a)) (MA a)) 0 0 (MA a) := by
  refine Met.ofW (cc := cX5_mark) (maxL := 4) (ret := some .int) (by decide) rfl ?_
  intro p e s m args below meth c s₁ B hml hv
  obtain ⟨rfl, hP, hK, hD⟩ := hv
  have hex := B.exec
  have hbc := B.bytes
  have hrt := B.returns
  have hts := atoms_spec (ws := wsX5_mark) B.pre
  have hown : s.vm.findClass RX5 = some m.cls := findClass_of_methodNamed B.named
  have hlocks := B.notSynchronized
  have hS : va_S (MA a) s.heap s.heap [] := va_S.rf
  have hin5 := iX5_mark_X5
  have hl := lv_entry ([.ref (a 0), .int (iI x)]) (n := 4) (Nat.le_of_ble_eq_true rfl)
  rw [lg_entry_eq]
  generalize (lg_sl ([.ref (a 0), .int (iI x)]) ++ List.replicate (4 - (lg_sl ([.ref (a 0), .int (iI x)])).length) Slot.unset).toArray = ls at hl ⊢
  have hl : lv_has ls 4 [(0, .ref (a 0)), (1, .int (iI x))] := hl
  obtain ⟨hB, hEn, hMk, hAs, hPm⟩ := id hI
  refine lv_aload_n hex hbc dX5_mark_0 rfl (lv_at hl 0 rfl) ?_
  refine lv_iload_n hex hbc dX5_mark_1 rfl (lv_at hl 1 rfl) ?_
  refine g_calli [.int (iI x)] ⟨hex, hbc, hml, hown, hts⟩ (mX5_isFrame l G cx a σ x (by omega) hI) (cwV 1 hts gX5_mark_X5_isFrame rfl rfl rfl (by decide +kernel) ⟨Nat.le_of_ble_eq_true rfl, Nat.le_of_ble_eq_true rfl⟩) hK hP hD hS (fun _ h => h) 0 5 rfl rfl rfl rfl hl.1 (Nat.le_of_ble_eq_true rfl) dX5_mark_2 ⟨Nat.zero_le _, Nat.zero_le _⟩ (fun r_2 u_2 H locs hw_2 hP hD hS hz_2 hk_2 => ?_)
  obtain ⟨rfl, vb2, rfl, hv2⟩ := hw_2
  refine zt_ifb_ne (P := (0 ≤ x ∧ x < σ 0 0)) (tgt := 10) hex hbc hv2 dX5_mark_5 (by decide) (fun c5 => ?_) (fun c5 => ?_)
  · skip
    refine lv_iconst (v := iI 0) hex hbc dX5_mark_10 rfl ?_
    refine lv_istore_n (lv' := [(2, .int (iI 0)), (0, .ref (a 0)), (1, .int (iI x))]) hex hbc dX5_mark_11 rfl hl (by decide) rfl (fun ls hl => ?_)
    have loop_12 : ∀ (N : Nat) (i1 : Int), (0 ≤ i1 ∧ i1 ≤ σ 0 74 ∧ ∀ k, 0 ≤ k → k < i1 → σ 0 (75 + k) < x) → (16 - i1) < (N : Int) → ∀ (H : Heap) (locs : List Loc) (ls : Array Slot), va_P G vwCl (wm cx a σ) H → va_D (MA a) (wm cx a σ) → va_S (MA a) s.heap H locs → lv_has ls 4 [(2, .int (iI i1)), (0, .ref (a 0)), (1, .int (iI x))] → W p l e (headSpec wsX5_mark ({ frames := 2, cells := 0, slots := 0, locals := 43 })).room s m ([.ref (a 0), .int (iI x)] : List Value).toArray below meth c H locs 0 0 (MQ below (va_Qi (fun r u => Rmark (σ 0) x r (MQ_ σ u) (MC_ σ u)) (gW G (tm cx) (MA a) (wm cx a)) (MA a)) ([.ref (a 0), .int (iI x)] : List Value).toArray s 0 0 (MA a)) (F0 m 12 ls []) := by
      intro N
      induction N with
      | zero => intro i1 hinv hlt; exfalso; omega
      | succ N ih_12 =>
        intro i1 ⟨hi0, hi1, hw⟩ hlt_12 H locs ls hP hD hS hl
        refine lv_iload_n hex hbc dX5_mark_12 rfl (lv_at hl 0 rfl) ?_
        refine lv_aload_n hex hbc dX5_mark_13 rfl (lv_at hl 1 rfl) ?_
        refine va_get (v := .ref (a 1)) hex hbc hts hin5 hown hK hP 0 rfl rfl 0 (by decide) (hts _ (List.mem_of_getElem? (i := 1) rfl)) (fun _ h => h) rfl dX5_mark_14 ?_
        refine lv_bipush (v := iI 74) hex hbc dX5_mark_17 (by decide) ?_
        refine g_iald (f := (σ 0)) (v := (σ 0 74)) (i := 74) hex hbc hK hP 1 0 rfl rfl (by decide) (by omega) rfl dX5_mark_19 ?_
        refine zt_icmp_ge (a := i1) (b := (σ 0 74)) (tgt := 42) hex hbc (by omega) dX5_mark_20 (by decide) (fun c20 => ?_) (fun c20 => ?_)
        · skip
          have hbf : Bef (σ 0) x i1 := ⟨hi0, hi1, hw, fun h => by omega⟩
          refine lv_iload_n hex hbc dX5_mark_42 rfl (lv_at hl 0 rfl) ?_
          refine lv_aload_n hex hbc dX5_mark_43 rfl (lv_at hl 1 rfl) ?_
          refine va_get (v := .ref (a 1)) hex hbc hts hin5 hown hK hP 0 rfl rfl 0 (by decide) (hts _ (List.mem_of_getElem? (i := 1) rfl)) (fun _ h => h) rfl dX5_mark_44 ?_
          refine lv_bipush (v := iI 74) hex hbc dX5_mark_47 (by decide) ?_
          refine g_iald (f := (σ 0)) (v := (σ 0 74)) (i := 74) hex hbc hK hP 1 0 rfl rfl (by decide) (by omega) rfl dX5_mark_49 ?_
          refine zt_icmp_ge (a := i1) (b := (σ 0 74)) (tgt := 69) hex hbc (by omega) dX5_mark_50 (by decide) (fun c50 => ?_) (fun c50 => ?_)
          · skip
            refine lv_aload_n hex hbc dX5_mark_69 rfl (lv_at hl 1 rfl) ?_
            refine va_get (v := .ref (a 1)) hex hbc hts hin5 hown hK hP 0 rfl rfl 0 (by decide) (hts _ (List.mem_of_getElem? (i := 1) rfl)) (fun _ h => h) rfl dX5_mark_70 ?_
            refine lv_bipush (v := iI 74) hex hbc dX5_mark_73 (by decide) ?_
            refine g_iald (f := (σ 0)) (v := (σ 0 74)) (i := 74) hex hbc hK hP 1 0 rfl rfl (by decide) (by omega) rfl dX5_mark_75 ?_
            refine lv_bipush (v := iI 16) hex hbc dX5_mark_76 (by decide) ?_
            refine zt_icmp_ne (a := (σ 0 74)) (b := 16) (tgt := 84) hex hbc (by omega) dX5_mark_78 (by decide) (fun c78 => ?_) (fun c78 => ?_)
            · skip
              refine lv_aload_n hex hbc dX5_mark_84 rfl (lv_at hl 1 rfl) ?_
              refine g_callv [] ⟨hex, hbc, hml, hown, hts⟩ (mX5_remember l G cx a σ  hN) (cwV 0 hts gX5_mark_X5_remember rfl rfl rfl (by decide +kernel) ⟨Nat.le_of_ble_eq_true rfl, Nat.le_of_ble_eq_true rfl⟩) hK hP hD hS (fun _ h => h) 0 5 rfl rfl rfl rfl hl.1 (Nat.le_of_ble_eq_true rfl) dX5_mark_85 ⟨Nat.zero_le _, Nat.zero_le _⟩ (fun u_85 H locs hw_85 hP hD hS hz_85 hk_85 => ?_)
              obtain rfl := hw_85
              have hP : va_P G vwCl (wm cx a (sc (sc σ 1 (mpast (σ 1) (σ 0) (σ 2 0))) 2 (ups (σ 2) 0 (mpm (σ 2 0))))) H := hP
              have hD : va_D (MA a) (wm cx a (sc (sc σ 1 (mpast (σ 1) (σ 0) (σ 2 0))) 2 (ups (σ 2) 0 (mpm (σ 2 0))))) := hD
              refine lv_aload_n hex hbc dX5_mark_88 rfl (lv_at hl 1 rfl) ?_
              refine va_get (v := .ref (a 1)) hex hbc hts hin5 hown hK hP 0 rfl rfl 0 (by decide) (hts _ (List.mem_of_getElem? (i := 1) rfl)) (fun _ h => h) rfl dX5_mark_89 ?_
              refine lv_bipush (v := iI 74) hex hbc dX5_mark_92 (by decide) ?_
              refine g_iald (f := (σ 0)) (v := (σ 0 74)) (i := 74) hex hbc hK hP 1 0 rfl rfl (by decide) (by omega) rfl dX5_mark_94 ?_
              refine lv_istore_n (lv' := [(3, .int (iI (σ 0 74))), (2, .int (iI i1)), (0, .ref (a 0)), (1, .int (iI x))]) hex hbc dX5_mark_95 rfl hl (by decide) rfl (fun ls hl => ?_)
              have loop_96 : ∀ (N : Nat) (i2 : Int) (w1 : Int → Int), (i1 ≤ i2 ∧ i2 ≤ σ 0 74 ∧ ∀ k, w1 k = if 75 + i2 < k ∧ k ≤ 75 + σ 0 74 then σ 0 (k - 1) else σ 0 k) → (i2 - i1) < (N : Int) → ∀ (H : Heap) (locs : List Loc) (ls : Array Slot), va_P G vwCl (wm cx a (sc (sc (sc σ 0 w1) 1 (mpast (σ 1) (σ 0) (σ 2 0))) 2 (ups (σ 2) 0 (mpm (σ 2 0))))) H → va_D (MA a) (wm cx a (sc (sc (sc σ 0 w1) 1 (mpast (σ 1) (σ 0) (σ 2 0))) 2 (ups (σ 2) 0 (mpm (σ 2 0))))) → va_S (MA a) s.heap H locs → lv_has ls 4 [(3, .int (iI i2)), (2, .int (iI i1)), (0, .ref (a 0)), (1, .int (iI x))] → W p l e (headSpec wsX5_mark ({ frames := 2, cells := 0, slots := 0, locals := 43 })).room s m ([.ref (a 0), .int (iI x)] : List Value).toArray below meth c H locs 0 0 (MQ below (va_Qi (fun r u => Rmark (σ 0) x r (MQ_ σ u) (MC_ σ u)) (gW G (tm cx) (MA a) (wm cx a)) (MA a)) ([.ref (a 0), .int (iI x)] : List Value).toArray s 0 0 (MA a)) (F0 m 96 ls []) := by
                intro N
                induction N with
                | zero => intro i2 w1 hinv hlt; exfalso; omega
                | succ N ih_96 =>
                  intro i2 w1 ⟨hj0, hj1, hv⟩ hlt_96 H locs ls hP hD hS hl
                  refine lv_iload_n hex hbc dX5_mark_96 rfl (lv_at hl 0 rfl) ?_
                  refine lv_iload_n hex hbc dX5_mark_97 rfl (lv_at hl 1 rfl) ?_
                  refine zt_icmp_le (a := i2) (b := i1) (tgt := 127) hex hbc (by omega) dX5_mark_98 (by decide) (fun c98 => ?_) (fun c98 => ?_)
                  · skip
                    refine lv_aload_n hex hbc dX5_mark_127 rfl (lv_at hl 2 rfl) ?_
                    refine va_get (v := .ref (a 1)) hex hbc hts hin5 hown hK hP 0 rfl rfl 0 (by decide) (hts _ (List.mem_of_getElem? (i := 1) rfl)) (fun _ h => h) rfl dX5_mark_128 ?_
                    refine lv_bipush (v := iI 75) hex hbc dX5_mark_131 (by decide) ?_
                    refine lv_iload_n hex hbc dX5_mark_133 rfl (lv_at hl 1 rfl) ?_
                    refine zt_iadd hex hbc dX5_mark_134 ?_
                    refine lv_iload_n hex hbc dX5_mark_135 rfl (lv_at hl 3 rfl) ?_
                    have hi_136 : (0 : Int) ≤ (75 + i1) ∧ (75 + i1) < (107 : Int) := (by omega)
                    refine g_iast (σ := (sc (sc (sc σ 0 w1) 1 (mpast (σ 1) (σ 0) (σ 2 0))) 2 (ups (σ 2) 0 (mpm (σ 2 0))))) (f := w1) (i := (75 + i1)) (v := x) (τ := st (sc (sc (sc σ 0 w1) 1 (mpast (σ 1) (σ 0) (σ 2 0))) 2 (ups (σ 2) 0 (mpm (σ 2 0)))) 0 (75 + i1) x) hex hbc hK hP hD hS 1 0 rfl rfl (by decide) hi_136 dX5_mark_136 (wm_up_1 hi_136) (fun H locs hP hD hS => ?_)
                    obtain ⟨f0_136, ef0_136⟩ : ∃ z : Int → Int, z = ups w1 (75 + i1) x := ⟨_, rfl⟩
                    have hP : va_P G vwCl (wm cx a (sc (sc (sc σ 0 f0_136) 1 (mpast (σ 1) (σ 0) (σ 2 0))) 2 (ups (σ 2) 0 (mpm (σ 2 0))))) H := by rw [ef0_136]; exact hP
                    have hD : va_D (MA a) (wm cx a (sc (sc (sc σ 0 f0_136) 1 (mpast (σ 1) (σ 0) (σ 2 0))) 2 (ups (σ 2) 0 (mpm (σ 2 0))))) := by rw [ef0_136]; exact hD
                    refine lv_aload_n hex hbc dX5_mark_137 rfl (lv_at hl 2 rfl) ?_
                    refine va_get (v := .ref (a 1)) hex hbc hts hin5 hown hK hP 0 rfl rfl 0 (by decide) (hts _ (List.mem_of_getElem? (i := 1) rfl)) (fun _ h => h) rfl dX5_mark_138 ?_
                    refine lv_bipush (v := iI 74) hex hbc dX5_mark_141 (by decide) ?_
                    refine lv_dup2_11 hex hbc dX5_mark_143 rfl rfl ?_
                    refine g_iald (f := f0_136) (v := (f0_136 74)) (i := 74) hex hbc hK hP 1 0 rfl rfl (by decide) (by omega) rfl dX5_mark_144 ?_
                    refine zt_nm (a := (f0_136 74)) (b := (σ 0 74)) (by rw [ef0_136, ups_n _ _ (by omega), hv]; exact if_neg (by omega)) ?_
                    refine lv_iconst (v := iI 1) hex hbc dX5_mark_145 rfl ?_
                    refine zt_iadd hex hbc dX5_mark_146 ?_
                    have hi_147 : (0 : Int) ≤ 74 ∧ 74 < (107 : Int) := (by omega)
                    refine g_iast (σ := (sc (sc (sc σ 0 f0_136) 1 (mpast (σ 1) (σ 0) (σ 2 0))) 2 (ups (σ 2) 0 (mpm (σ 2 0))))) (f := f0_136) (i := 74) (v := ((σ 0 74) + 1)) (τ := st (sc (sc (sc σ 0 f0_136) 1 (mpast (σ 1) (σ 0) (σ 2 0))) 2 (ups (σ 2) 0 (mpm (σ 2 0)))) 0 74 ((σ 0 74) + 1)) hex hbc hK hP hD hS 1 0 rfl rfl (by decide) hi_147 dX5_mark_147 (wm_up_1 hi_147) (fun H locs hP hD hS => ?_)
                    obtain ⟨f0_147, ef0_147⟩ : ∃ z : Int → Int, z = ups f0_136 74 ((σ 0 74) + 1) := ⟨_, rfl⟩
                    have hP : va_P G vwCl (wm cx a (sc (sc (sc σ 0 f0_147) 1 (mpast (σ 1) (σ 0) (σ 2 0))) 2 (ups (σ 2) 0 (mpm (σ 2 0))))) H := by rw [ef0_147]; exact hP
                    have hD : va_D (MA a) (wm cx a (sc (sc (sc σ 0 f0_147) 1 (mpast (σ 1) (σ 0) (σ 2 0))) 2 (ups (σ 2) 0 (mpm (σ 2 0))))) := by rw [ef0_147]; exact hD
                    refine lv_aload_n hex hbc dX5_mark_148 rfl (lv_at hl 2 rfl) ?_
                    refine g_callv [] ⟨hex, hbc, hml, hown, hts⟩ (mX5_layOrder l G cx a (sc (sc (sc σ 0 f0_147) 1 (mpast (σ 1) (σ 0) (σ 2 0))) 2 (ups (σ 2) 0 (mpm (σ 2 0))))  ) (cwV 0 hts gX5_mark_X5_layOrder rfl rfl rfl (by decide +kernel) ⟨Nat.le_of_ble_eq_true rfl, Nat.le_of_ble_eq_true rfl⟩) hK hP hD hS (fun _ h => h) 0 5 rfl rfl rfl rfl hl.1 (Nat.le_of_ble_eq_true rfl) dX5_mark_149 ⟨Nat.zero_le _, Nat.zero_le _⟩ (fun u_149 H locs hw_149 hP hD hS hz_149 hk_149 => ?_)
                    obtain rfl := hw_149
                    have hP : va_P G vwCl (wm cx a (sc (sc (sc σ 0 (spo (f0_147))) 1 (mpast (σ 1) (σ 0) (σ 2 0))) 2 (ups (σ 2) 0 (mpm (σ 2 0))))) H := hP
                    have hD : va_D (MA a) (wm cx a (sc (sc (sc σ 0 (spo (f0_147))) 1 (mpast (σ 1) (σ 0) (σ 2 0))) 2 (ups (σ 2) 0 (mpm (σ 2 0))))) := hD
                    refine lv_iload_n hex hbc dX5_mark_152 rfl (lv_at hl 1 rfl) ?_
                    exact g_iret hex hbc hrt hlocks hK hP hD hS ⟨fun h => absurd c5 h, fun _ => ⟨i1, hbf, fun h => (by exfalso; omega), fun _ => ⟨fun h => (by exfalso; omega), fun _ => ⟨rfl, ⟨(funext fun k => by show spo _ k = _; unfold spo spi; rw [ef0_147]; unfold ups; rw [ef0_136]; unfold ups; rw [hv k]; (repeat' split) <;> first | omega | exact congrArg _ (by omega)), rfl, (show ups (σ 2) 0 (mpm (σ 2 0)) 0 = mpm (σ 2 0) from ups_s _ _ _), (show ups (σ 2) 0 (mpm (σ 2 0)) 1 = σ 2 1 from ups_n _ _ (by decide)), rfl⟩⟩⟩⟩⟩ dX5_mark_153
                  · skip
                    refine lv_aload_n hex hbc dX5_mark_101 rfl (lv_at hl 2 rfl) ?_
                    refine va_get (v := .ref (a 1)) hex hbc hts hin5 hown hK hP 0 rfl rfl 0 (by decide) (hts _ (List.mem_of_getElem? (i := 1) rfl)) (fun _ h => h) rfl dX5_mark_102 ?_
                    refine lv_bipush (v := iI 75) hex hbc dX5_mark_105 (by decide) ?_
                    refine lv_iload_n hex hbc dX5_mark_107 rfl (lv_at hl 0 rfl) ?_
                    refine zt_iadd hex hbc dX5_mark_108 ?_
                    refine lv_aload_n hex hbc dX5_mark_109 rfl (lv_at hl 2 rfl) ?_
                    refine va_get (v := .ref (a 1)) hex hbc hts hin5 hown hK hP 0 rfl rfl 0 (by decide) (hts _ (List.mem_of_getElem? (i := 1) rfl)) (fun _ h => h) rfl dX5_mark_110 ?_
                    refine lv_bipush (v := iI 75) hex hbc dX5_mark_113 (by decide) ?_
                    refine lv_iload_n hex hbc dX5_mark_115 rfl (lv_at hl 0 rfl) ?_
                    refine zt_iadd hex hbc dX5_mark_116 ?_
                    refine lv_iconst (v := iI 1) hex hbc dX5_mark_117 rfl ?_
                    refine zt_isub hex hbc dX5_mark_118 ?_
                    refine g_iald (f := w1) (v := (w1 ((75 + i2) - 1))) (i := ((75 + i2) - 1)) hex hbc hK hP 1 0 rfl rfl (by decide) (by omega) rfl dX5_mark_119 ?_
                    refine zt_nm (a := (w1 ((75 + i2) - 1))) (b := (σ 0 (75 + i2 - 1))) (by rw [hv]; exact if_neg (by omega)) ?_
                    have hi_120 : (0 : Int) ≤ (75 + i2) ∧ (75 + i2) < (107 : Int) := (by omega)
                    refine g_iast (σ := (sc (sc (sc σ 0 w1) 1 (mpast (σ 1) (σ 0) (σ 2 0))) 2 (ups (σ 2) 0 (mpm (σ 2 0))))) (f := w1) (i := (75 + i2)) (v := (σ 0 (75 + i2 - 1))) (τ := st (sc (sc (sc σ 0 w1) 1 (mpast (σ 1) (σ 0) (σ 2 0))) 2 (ups (σ 2) 0 (mpm (σ 2 0)))) 0 (75 + i2) (σ 0 (75 + i2 - 1))) hex hbc hK hP hD hS 1 0 rfl rfl (by decide) hi_120 dX5_mark_120 (wm_up_1 hi_120) (fun H locs hP hD hS => ?_)
                    obtain ⟨f0_120, ef0_120⟩ : ∃ z : Int → Int, z = ups w1 (75 + i2) (σ 0 (75 + i2 - 1)) := ⟨_, rfl⟩
                    have hP : va_P G vwCl (wm cx a (sc (sc (sc σ 0 f0_120) 1 (mpast (σ 1) (σ 0) (σ 2 0))) 2 (ups (σ 2) 0 (mpm (σ 2 0))))) H := by rw [ef0_120]; exact hP
                    have hD : va_D (MA a) (wm cx a (sc (sc (sc σ 0 f0_120) 1 (mpast (σ 1) (σ 0) (σ 2 0))) 2 (ups (σ 2) 0 (mpm (σ 2 0))))) := by rw [ef0_120]; exact hD
                    refine lv_iinc (v := iI (i2 + (-1))) (lv' := [(3, .int (iI (i2 + (-1)))), (2, .int (iI i1)), (0, .ref (a 0)), (1, .int (iI x))]) hex hbc dX5_mark_121 hl (k := 0) rfl (iI_add _ _) (by decide) rfl (fun ls hl => ?_)
                    refine lv_goto (tgt := 96) hex hbc dX5_mark_124 (by decide) ?_
                    exact ih_96 (i2 + (-1)) f0_120 ⟨by omega, by omega, fun k => by rw [ef0_120]; unfold ups; rw [hv k]; (repeat' split) <;> first | omega | exact congrArg _ (by omega)⟩ (by omega) _ _ _ hP hD hS (lv_sub hl [0, 1, 2, 3] rfl)
              exact loop_96 _ (σ 0 74) (σ 0) ⟨by omega, by omega, fun k => (if_neg (by omega)).symm⟩ (mz_lt _) _ _ _ hP hD hS (lv_sub hl [0, 1, 2, 3] rfl)
            · skip
              refine lv_bipush (v := iI (-3)) hex hbc dX5_mark_81 (by decide) ?_
              exact g_iret hex hbc hrt hlocks hK hP hD hS ⟨fun h => absurd c5 h, fun _ => ⟨i1, hbf, fun h => (by exfalso; omega), fun _ => ⟨fun _ => ⟨rfl, ⟨rfl, rfl, rfl, rfl, rfl⟩⟩, fun h => (by exfalso; omega)⟩⟩⟩ dX5_mark_83
          · skip
            have hm := hMk i1 hi0 (by omega)
            refine lv_aload_n hex hbc dX5_mark_53 rfl (lv_at hl 1 rfl) ?_
            refine va_get (v := .ref (a 1)) hex hbc hts hin5 hown hK hP 0 rfl rfl 0 (by decide) (hts _ (List.mem_of_getElem? (i := 1) rfl)) (fun _ h => h) rfl dX5_mark_54 ?_
            refine lv_bipush (v := iI 75) hex hbc dX5_mark_57 (by decide) ?_
            refine lv_iload_n hex hbc dX5_mark_59 rfl (lv_at hl 0 rfl) ?_
            refine zt_iadd hex hbc dX5_mark_60 ?_
            refine g_iald (f := (σ 0)) (v := (σ 0 (75 + i1))) (i := (75 + i1)) hex hbc hK hP 1 0 rfl rfl (by decide) (by omega) rfl dX5_mark_61 ?_
            refine lv_iload_n hex hbc dX5_mark_62 rfl (lv_at hl 2 rfl) ?_
            refine zt_icmp_ne (a := (σ 0 (75 + i1))) (b := x) (tgt := 69) hex hbc (by omega) dX5_mark_63 (by decide) (fun c63 => ?_) (fun c63 => ?_)
            · skip
              refine lv_aload_n hex hbc dX5_mark_69 rfl (lv_at hl 1 rfl) ?_
              refine va_get (v := .ref (a 1)) hex hbc hts hin5 hown hK hP 0 rfl rfl 0 (by decide) (hts _ (List.mem_of_getElem? (i := 1) rfl)) (fun _ h => h) rfl dX5_mark_70 ?_
              refine lv_bipush (v := iI 74) hex hbc dX5_mark_73 (by decide) ?_
              refine g_iald (f := (σ 0)) (v := (σ 0 74)) (i := 74) hex hbc hK hP 1 0 rfl rfl (by decide) (by omega) rfl dX5_mark_75 ?_
              refine lv_bipush (v := iI 16) hex hbc dX5_mark_76 (by decide) ?_
              refine zt_icmp_ne (a := (σ 0 74)) (b := 16) (tgt := 84) hex hbc (by omega) dX5_mark_78 (by decide) (fun c78 => ?_) (fun c78 => ?_)
              · skip
                refine lv_aload_n hex hbc dX5_mark_84 rfl (lv_at hl 1 rfl) ?_
                refine g_callv [] ⟨hex, hbc, hml, hown, hts⟩ (mX5_remember l G cx a σ  hN) (cwV 0 hts gX5_mark_X5_remember rfl rfl rfl (by decide +kernel) ⟨Nat.le_of_ble_eq_true rfl, Nat.le_of_ble_eq_true rfl⟩) hK hP hD hS (fun _ h => h) 0 5 rfl rfl rfl rfl hl.1 (Nat.le_of_ble_eq_true rfl) dX5_mark_85 ⟨Nat.zero_le _, Nat.zero_le _⟩ (fun u_85 H locs hw_85 hP hD hS hz_85 hk_85 => ?_)
                obtain rfl := hw_85
                have hP : va_P G vwCl (wm cx a (sc (sc σ 1 (mpast (σ 1) (σ 0) (σ 2 0))) 2 (ups (σ 2) 0 (mpm (σ 2 0))))) H := hP
                have hD : va_D (MA a) (wm cx a (sc (sc σ 1 (mpast (σ 1) (σ 0) (σ 2 0))) 2 (ups (σ 2) 0 (mpm (σ 2 0))))) := hD
                refine lv_aload_n hex hbc dX5_mark_88 rfl (lv_at hl 1 rfl) ?_
                refine va_get (v := .ref (a 1)) hex hbc hts hin5 hown hK hP 0 rfl rfl 0 (by decide) (hts _ (List.mem_of_getElem? (i := 1) rfl)) (fun _ h => h) rfl dX5_mark_89 ?_
                refine lv_bipush (v := iI 74) hex hbc dX5_mark_92 (by decide) ?_
                refine g_iald (f := (σ 0)) (v := (σ 0 74)) (i := 74) hex hbc hK hP 1 0 rfl rfl (by decide) (by omega) rfl dX5_mark_94 ?_
                refine lv_istore_n (lv' := [(3, .int (iI (σ 0 74))), (2, .int (iI i1)), (0, .ref (a 0)), (1, .int (iI x))]) hex hbc dX5_mark_95 rfl hl (by decide) rfl (fun ls hl => ?_)
                have loop_96 : ∀ (N : Nat) (i2 : Int) (w1 : Int → Int), (i1 ≤ i2 ∧ i2 ≤ σ 0 74 ∧ ∀ k, w1 k = if 75 + i2 < k ∧ k ≤ 75 + σ 0 74 then σ 0 (k - 1) else σ 0 k) → (i2 - i1) < (N : Int) → ∀ (H : Heap) (locs : List Loc) (ls : Array Slot), va_P G vwCl (wm cx a (sc (sc (sc σ 0 w1) 1 (mpast (σ 1) (σ 0) (σ 2 0))) 2 (ups (σ 2) 0 (mpm (σ 2 0))))) H → va_D (MA a) (wm cx a (sc (sc (sc σ 0 w1) 1 (mpast (σ 1) (σ 0) (σ 2 0))) 2 (ups (σ 2) 0 (mpm (σ 2 0))))) → va_S (MA a) s.heap H locs → lv_has ls 4 [(3, .int (iI i2)), (2, .int (iI i1)), (0, .ref (a 0)), (1, .int (iI x))] → W p l e (headSpec wsX5_mark ({ frames := 2, cells := 0, slots := 0, locals := 43 })).room s m ([.ref (a 0), .int (iI x)] : List Value).toArray below meth c H locs 0 0 (MQ below (va_Qi (fun r u => Rmark (σ 0) x r (MQ_ σ u) (MC_ σ u)) (gW G (tm cx) (MA a) (wm cx a)) (MA a)) ([.ref (a 0), .int (iI x)] : List Value).toArray s 0 0 (MA a)) (F0 m 96 ls []) := by
                  intro N
                  induction N with
                  | zero => intro i2 w1 hinv hlt; exfalso; omega
                  | succ N ih_96 =>
                    intro i2 w1 ⟨hj0, hj1, hv⟩ hlt_96 H locs ls hP hD hS hl
                    refine lv_iload_n hex hbc dX5_mark_96 rfl (lv_at hl 0 rfl) ?_
                    refine lv_iload_n hex hbc dX5_mark_97 rfl (lv_at hl 1 rfl) ?_
                    refine zt_icmp_le (a := i2) (b := i1) (tgt := 127) hex hbc (by omega) dX5_mark_98 (by decide) (fun c98 => ?_) (fun c98 => ?_)
                    · skip
                      refine lv_aload_n hex hbc dX5_mark_127 rfl (lv_at hl 2 rfl) ?_
                      refine va_get (v := .ref (a 1)) hex hbc hts hin5 hown hK hP 0 rfl rfl 0 (by decide) (hts _ (List.mem_of_getElem? (i := 1) rfl)) (fun _ h => h) rfl dX5_mark_128 ?_
                      refine lv_bipush (v := iI 75) hex hbc dX5_mark_131 (by decide) ?_
                      refine lv_iload_n hex hbc dX5_mark_133 rfl (lv_at hl 1 rfl) ?_
                      refine zt_iadd hex hbc dX5_mark_134 ?_
                      refine lv_iload_n hex hbc dX5_mark_135 rfl (lv_at hl 3 rfl) ?_
                      have hi_136 : (0 : Int) ≤ (75 + i1) ∧ (75 + i1) < (107 : Int) := (by omega)
                      refine g_iast (σ := (sc (sc (sc σ 0 w1) 1 (mpast (σ 1) (σ 0) (σ 2 0))) 2 (ups (σ 2) 0 (mpm (σ 2 0))))) (f := w1) (i := (75 + i1)) (v := x) (τ := st (sc (sc (sc σ 0 w1) 1 (mpast (σ 1) (σ 0) (σ 2 0))) 2 (ups (σ 2) 0 (mpm (σ 2 0)))) 0 (75 + i1) x) hex hbc hK hP hD hS 1 0 rfl rfl (by decide) hi_136 dX5_mark_136 (wm_up_1 hi_136) (fun H locs hP hD hS => ?_)
                      obtain ⟨f0_136, ef0_136⟩ : ∃ z : Int → Int, z = ups w1 (75 + i1) x := ⟨_, rfl⟩
                      have hP : va_P G vwCl (wm cx a (sc (sc (sc σ 0 f0_136) 1 (mpast (σ 1) (σ 0) (σ 2 0))) 2 (ups (σ 2) 0 (mpm (σ 2 0))))) H := by rw [ef0_136]; exact hP
                      have hD : va_D (MA a) (wm cx a (sc (sc (sc σ 0 f0_136) 1 (mpast (σ 1) (σ 0) (σ 2 0))) 2 (ups (σ 2) 0 (mpm (σ 2 0))))) := by rw [ef0_136]; exact hD
                      refine lv_aload_n hex hbc dX5_mark_137 rfl (lv_at hl 2 rfl) ?_
                      refine va_get (v := .ref (a 1)) hex hbc hts hin5 hown hK hP 0 rfl rfl 0 (by decide) (hts _ (List.mem_of_getElem? (i := 1) rfl)) (fun _ h => h) rfl dX5_mark_138 ?_
                      refine lv_bipush (v := iI 74) hex hbc dX5_mark_141 (by decide) ?_
                      refine lv_dup2_11 hex hbc dX5_mark_143 rfl rfl ?_
                      refine g_iald (f := f0_136) (v := (f0_136 74)) (i := 74) hex hbc hK hP 1 0 rfl rfl (by decide) (by omega) rfl dX5_mark_144 ?_
                      refine zt_nm (a := (f0_136 74)) (b := (σ 0 74)) (by rw [ef0_136, ups_n _ _ (by omega), hv]; exact if_neg (by omega)) ?_
                      refine lv_iconst (v := iI 1) hex hbc dX5_mark_145 rfl ?_
                      refine zt_iadd hex hbc dX5_mark_146 ?_
                      have hi_147 : (0 : Int) ≤ 74 ∧ 74 < (107 : Int) := (by omega)
                      refine g_iast (σ := (sc (sc (sc σ 0 f0_136) 1 (mpast (σ 1) (σ 0) (σ 2 0))) 2 (ups (σ 2) 0 (mpm (σ 2 0))))) (f := f0_136) (i := 74) (v := ((σ 0 74) + 1)) (τ := st (sc (sc (sc σ 0 f0_136) 1 (mpast (σ 1) (σ 0) (σ 2 0))) 2 (ups (σ 2) 0 (mpm (σ 2 0)))) 0 74 ((σ 0 74) + 1)) hex hbc hK hP hD hS 1 0 rfl rfl (by decide) hi_147 dX5_mark_147 (wm_up_1 hi_147) (fun H locs hP hD hS => ?_)
                      obtain ⟨f0_147, ef0_147⟩ : ∃ z : Int → Int, z = ups f0_136 74 ((σ 0 74) + 1) := ⟨_, rfl⟩
                      have hP : va_P G vwCl (wm cx a (sc (sc (sc σ 0 f0_147) 1 (mpast (σ 1) (σ 0) (σ 2 0))) 2 (ups (σ 2) 0 (mpm (σ 2 0))))) H := by rw [ef0_147]; exact hP
                      have hD : va_D (MA a) (wm cx a (sc (sc (sc σ 0 f0_147) 1 (mpast (σ 1) (σ 0) (σ 2 0))) 2 (ups (σ 2) 0 (mpm (σ 2 0))))) := by rw [ef0_147]; exact hD
                      refine lv_aload_n hex hbc dX5_mark_148 rfl (lv_at hl 2 rfl) ?_
                      refine g_callv [] ⟨hex, hbc, hml, hown, hts⟩ (mX5_layOrder l G cx a (sc (sc (sc σ 0 f0_147) 1 (mpast (σ 1) (σ 0) (σ 2 0))) 2 (ups (σ 2) 0 (mpm (σ 2 0))))  ) (cwV 0 hts gX5_mark_X5_layOrder rfl rfl rfl (by decide +kernel) ⟨Nat.le_of_ble_eq_true rfl, Nat.le_of_ble_eq_true rfl⟩) hK hP hD hS (fun _ h => h) 0 5 rfl rfl rfl rfl hl.1 (Nat.le_of_ble_eq_true rfl) dX5_mark_149 ⟨Nat.zero_le _, Nat.zero_le _⟩ (fun u_149 H locs hw_149 hP hD hS hz_149 hk_149 => ?_)
                      obtain rfl := hw_149
                      have hP : va_P G vwCl (wm cx a (sc (sc (sc σ 0 (spo (f0_147))) 1 (mpast (σ 1) (σ 0) (σ 2 0))) 2 (ups (σ 2) 0 (mpm (σ 2 0))))) H := hP
                      have hD : va_D (MA a) (wm cx a (sc (sc (sc σ 0 (spo (f0_147))) 1 (mpast (σ 1) (σ 0) (σ 2 0))) 2 (ups (σ 2) 0 (mpm (σ 2 0))))) := hD
                      refine lv_iload_n hex hbc dX5_mark_152 rfl (lv_at hl 1 rfl) ?_
                      exact g_iret hex hbc hrt hlocks hK hP hD hS ⟨fun h => absurd c5 h, fun _ => ⟨i1, hbf, fun h => (by exfalso; omega), fun _ => ⟨fun h => (by exfalso; omega), fun _ => ⟨rfl, ⟨(funext fun k => by show spo _ k = _; unfold spo spi; rw [ef0_147]; unfold ups; rw [ef0_136]; unfold ups; rw [hv k]; (repeat' split) <;> first | omega | exact congrArg _ (by omega)), rfl, (show ups (σ 2) 0 (mpm (σ 2 0)) 0 = mpm (σ 2 0) from ups_s _ _ _), (show ups (σ 2) 0 (mpm (σ 2 0)) 1 = σ 2 1 from ups_n _ _ (by decide)), rfl⟩⟩⟩⟩⟩ dX5_mark_153
                    · skip
                      refine lv_aload_n hex hbc dX5_mark_101 rfl (lv_at hl 2 rfl) ?_
                      refine va_get (v := .ref (a 1)) hex hbc hts hin5 hown hK hP 0 rfl rfl 0 (by decide) (hts _ (List.mem_of_getElem? (i := 1) rfl)) (fun _ h => h) rfl dX5_mark_102 ?_
                      refine lv_bipush (v := iI 75) hex hbc dX5_mark_105 (by decide) ?_
                      refine lv_iload_n hex hbc dX5_mark_107 rfl (lv_at hl 0 rfl) ?_
                      refine zt_iadd hex hbc dX5_mark_108 ?_
                      refine lv_aload_n hex hbc dX5_mark_109 rfl (lv_at hl 2 rfl) ?_
                      refine va_get (v := .ref (a 1)) hex hbc hts hin5 hown hK hP 0 rfl rfl 0 (by decide) (hts _ (List.mem_of_getElem? (i := 1) rfl)) (fun _ h => h) rfl dX5_mark_110 ?_
                      refine lv_bipush (v := iI 75) hex hbc dX5_mark_113 (by decide) ?_
                      refine lv_iload_n hex hbc dX5_mark_115 rfl (lv_at hl 0 rfl) ?_
                      refine zt_iadd hex hbc dX5_mark_116 ?_
                      refine lv_iconst (v := iI 1) hex hbc dX5_mark_117 rfl ?_
                      refine zt_isub hex hbc dX5_mark_118 ?_
                      refine g_iald (f := w1) (v := (w1 ((75 + i2) - 1))) (i := ((75 + i2) - 1)) hex hbc hK hP 1 0 rfl rfl (by decide) (by omega) rfl dX5_mark_119 ?_
                      refine zt_nm (a := (w1 ((75 + i2) - 1))) (b := (σ 0 (75 + i2 - 1))) (by rw [hv]; exact if_neg (by omega)) ?_
                      have hi_120 : (0 : Int) ≤ (75 + i2) ∧ (75 + i2) < (107 : Int) := (by omega)
                      refine g_iast (σ := (sc (sc (sc σ 0 w1) 1 (mpast (σ 1) (σ 0) (σ 2 0))) 2 (ups (σ 2) 0 (mpm (σ 2 0))))) (f := w1) (i := (75 + i2)) (v := (σ 0 (75 + i2 - 1))) (τ := st (sc (sc (sc σ 0 w1) 1 (mpast (σ 1) (σ 0) (σ 2 0))) 2 (ups (σ 2) 0 (mpm (σ 2 0)))) 0 (75 + i2) (σ 0 (75 + i2 - 1))) hex hbc hK hP hD hS 1 0 rfl rfl (by decide) hi_120 dX5_mark_120 (wm_up_1 hi_120) (fun H locs hP hD hS => ?_)
                      obtain ⟨f0_120, ef0_120⟩ : ∃ z : Int → Int, z = ups w1 (75 + i2) (σ 0 (75 + i2 - 1)) := ⟨_, rfl⟩
                      have hP : va_P G vwCl (wm cx a (sc (sc (sc σ 0 f0_120) 1 (mpast (σ 1) (σ 0) (σ 2 0))) 2 (ups (σ 2) 0 (mpm (σ 2 0))))) H := by rw [ef0_120]; exact hP
                      have hD : va_D (MA a) (wm cx a (sc (sc (sc σ 0 f0_120) 1 (mpast (σ 1) (σ 0) (σ 2 0))) 2 (ups (σ 2) 0 (mpm (σ 2 0))))) := by rw [ef0_120]; exact hD
                      refine lv_iinc (v := iI (i2 + (-1))) (lv' := [(3, .int (iI (i2 + (-1)))), (2, .int (iI i1)), (0, .ref (a 0)), (1, .int (iI x))]) hex hbc dX5_mark_121 hl (k := 0) rfl (iI_add _ _) (by decide) rfl (fun ls hl => ?_)
                      refine lv_goto (tgt := 96) hex hbc dX5_mark_124 (by decide) ?_
                      exact ih_96 (i2 + (-1)) f0_120 ⟨by omega, by omega, fun k => by rw [ef0_120]; unfold ups; rw [hv k]; (repeat' split) <;> first | omega | exact congrArg _ (by omega)⟩ (by omega) _ _ _ hP hD hS (lv_sub hl [0, 1, 2, 3] rfl)
                exact loop_96 _ (σ 0 74) (σ 0) ⟨by omega, by omega, fun k => (if_neg (by omega)).symm⟩ (mz_lt _) _ _ _ hP hD hS (lv_sub hl [0, 1, 2, 3] rfl)
              · skip
                refine lv_bipush (v := iI (-3)) hex hbc dX5_mark_81 (by decide) ?_
                exact g_iret hex hbc hrt hlocks hK hP hD hS ⟨fun h => absurd c5 h, fun _ => ⟨i1, hbf, fun h => (by exfalso; omega), fun _ => ⟨fun _ => ⟨rfl, ⟨rfl, rfl, rfl, rfl, rfl⟩⟩, fun h => (by exfalso; omega)⟩⟩⟩ dX5_mark_83
            · skip
              refine lv_bipush (v := iI (-2)) hex hbc dX5_mark_66 (by decide) ?_
              exact g_iret hex hbc hrt hlocks hK hP hD hS ⟨fun h => absurd c5 h, fun _ => ⟨i1, hbf, fun _ => ⟨rfl, ⟨rfl, rfl, rfl, rfl, rfl⟩⟩, fun h => absurd ⟨by omega, by omega⟩ h⟩⟩ dX5_mark_68
        · skip
          have hm := hMk i1 hi0 (by omega)
          refine lv_aload_n hex hbc dX5_mark_23 rfl (lv_at hl 1 rfl) ?_
          refine va_get (v := .ref (a 1)) hex hbc hts hin5 hown hK hP 0 rfl rfl 0 (by decide) (hts _ (List.mem_of_getElem? (i := 1) rfl)) (fun _ h => h) rfl dX5_mark_24 ?_
          refine lv_bipush (v := iI 75) hex hbc dX5_mark_27 (by decide) ?_
          refine lv_iload_n hex hbc dX5_mark_29 rfl (lv_at hl 0 rfl) ?_
          refine zt_iadd hex hbc dX5_mark_30 ?_
          refine g_iald (f := (σ 0)) (v := (σ 0 (75 + i1))) (i := (75 + i1)) hex hbc hK hP 1 0 rfl rfl (by decide) (by omega) rfl dX5_mark_31 ?_
          refine lv_iload_n hex hbc dX5_mark_32 rfl (lv_at hl 2 rfl) ?_
          refine zt_icmp_ge (a := (σ 0 (75 + i1))) (b := x) (tgt := 42) hex hbc (by omega) dX5_mark_33 (by decide) (fun c33 => ?_) (fun c33 => ?_)
          · skip
            have hbf : Bef (σ 0) x i1 := ⟨hi0, hi1, hw, fun h => by omega⟩
            refine lv_iload_n hex hbc dX5_mark_42 rfl (lv_at hl 0 rfl) ?_
            refine lv_aload_n hex hbc dX5_mark_43 rfl (lv_at hl 1 rfl) ?_
            refine va_get (v := .ref (a 1)) hex hbc hts hin5 hown hK hP 0 rfl rfl 0 (by decide) (hts _ (List.mem_of_getElem? (i := 1) rfl)) (fun _ h => h) rfl dX5_mark_44 ?_
            refine lv_bipush (v := iI 74) hex hbc dX5_mark_47 (by decide) ?_
            refine g_iald (f := (σ 0)) (v := (σ 0 74)) (i := 74) hex hbc hK hP 1 0 rfl rfl (by decide) (by omega) rfl dX5_mark_49 ?_
            refine zt_icmp_ge (a := i1) (b := (σ 0 74)) (tgt := 69) hex hbc (by omega) dX5_mark_50 (by decide) (fun c50 => ?_) (fun c50 => ?_)
            · skip
              refine lv_aload_n hex hbc dX5_mark_69 rfl (lv_at hl 1 rfl) ?_
              refine va_get (v := .ref (a 1)) hex hbc hts hin5 hown hK hP 0 rfl rfl 0 (by decide) (hts _ (List.mem_of_getElem? (i := 1) rfl)) (fun _ h => h) rfl dX5_mark_70 ?_
              refine lv_bipush (v := iI 74) hex hbc dX5_mark_73 (by decide) ?_
              refine g_iald (f := (σ 0)) (v := (σ 0 74)) (i := 74) hex hbc hK hP 1 0 rfl rfl (by decide) (by omega) rfl dX5_mark_75 ?_
              refine lv_bipush (v := iI 16) hex hbc dX5_mark_76 (by decide) ?_
              refine zt_icmp_ne (a := (σ 0 74)) (b := 16) (tgt := 84) hex hbc (by omega) dX5_mark_78 (by decide) (fun c78 => ?_) (fun c78 => ?_)
              · skip
                refine lv_aload_n hex hbc dX5_mark_84 rfl (lv_at hl 1 rfl) ?_
                refine g_callv [] ⟨hex, hbc, hml, hown, hts⟩ (mX5_remember l G cx a σ  hN) (cwV 0 hts gX5_mark_X5_remember rfl rfl rfl (by decide +kernel) ⟨Nat.le_of_ble_eq_true rfl, Nat.le_of_ble_eq_true rfl⟩) hK hP hD hS (fun _ h => h) 0 5 rfl rfl rfl rfl hl.1 (Nat.le_of_ble_eq_true rfl) dX5_mark_85 ⟨Nat.zero_le _, Nat.zero_le _⟩ (fun u_85 H locs hw_85 hP hD hS hz_85 hk_85 => ?_)
                obtain rfl := hw_85
                have hP : va_P G vwCl (wm cx a (sc (sc σ 1 (mpast (σ 1) (σ 0) (σ 2 0))) 2 (ups (σ 2) 0 (mpm (σ 2 0))))) H := hP
                have hD : va_D (MA a) (wm cx a (sc (sc σ 1 (mpast (σ 1) (σ 0) (σ 2 0))) 2 (ups (σ 2) 0 (mpm (σ 2 0))))) := hD
                refine lv_aload_n hex hbc dX5_mark_88 rfl (lv_at hl 1 rfl) ?_
                refine va_get (v := .ref (a 1)) hex hbc hts hin5 hown hK hP 0 rfl rfl 0 (by decide) (hts _ (List.mem_of_getElem? (i := 1) rfl)) (fun _ h => h) rfl dX5_mark_89 ?_
                refine lv_bipush (v := iI 74) hex hbc dX5_mark_92 (by decide) ?_
                refine g_iald (f := (σ 0)) (v := (σ 0 74)) (i := 74) hex hbc hK hP 1 0 rfl rfl (by decide) (by omega) rfl dX5_mark_94 ?_
                refine lv_istore_n (lv' := [(3, .int (iI (σ 0 74))), (2, .int (iI i1)), (0, .ref (a 0)), (1, .int (iI x))]) hex hbc dX5_mark_95 rfl hl (by decide) rfl (fun ls hl => ?_)
                have loop_96 : ∀ (N : Nat) (i2 : Int) (w1 : Int → Int), (i1 ≤ i2 ∧ i2 ≤ σ 0 74 ∧ ∀ k, w1 k = if 75 + i2 < k ∧ k ≤ 75 + σ 0 74 then σ 0 (k - 1) else σ 0 k) → (i2 - i1) < (N : Int) → ∀ (H : Heap) (locs : List Loc) (ls : Array Slot), va_P G vwCl (wm cx a (sc (sc (sc σ 0 w1) 1 (mpast (σ 1) (σ 0) (σ 2 0))) 2 (ups (σ 2) 0 (mpm (σ 2 0))))) H → va_D (MA a) (wm cx a (sc (sc (sc σ 0 w1) 1 (mpast (σ 1) (σ 0) (σ 2 0))) 2 (ups (σ 2) 0 (mpm (σ 2 0))))) → va_S (MA a) s.heap H locs → lv_has ls 4 [(3, .int (iI i2)), (2, .int (iI i1)), (0, .ref (a 0)), (1, .int (iI x))] → W p l e (headSpec wsX5_mark ({ frames := 2, cells := 0, slots := 0, locals := 43 })).room s m ([.ref (a 0), .int (iI x)] : List Value).toArray below meth c H locs 0 0 (MQ below (va_Qi (fun r u => Rmark (σ 0) x r (MQ_ σ u) (MC_ σ u)) (gW G (tm cx) (MA a) (wm cx a)) (MA a)) ([.ref (a 0), .int (iI x)] : List Value).toArray s 0 0 (MA a)) (F0 m 96 ls []) := by
                  intro N
                  induction N with
                  | zero => intro i2 w1 hinv hlt; exfalso; omega
                  | succ N ih_96 =>
                    intro i2 w1 ⟨hj0, hj1, hv⟩ hlt_96 H locs ls hP hD hS hl
                    refine lv_iload_n hex hbc dX5_mark_96 rfl (lv_at hl 0 rfl) ?_
                    refine lv_iload_n hex hbc dX5_mark_97 rfl (lv_at hl 1 rfl) ?_
                    refine zt_icmp_le (a := i2) (b := i1) (tgt := 127) hex hbc (by omega) dX5_mark_98 (by decide) (fun c98 => ?_) (fun c98 => ?_)
                    · skip
                      refine lv_aload_n hex hbc dX5_mark_127 rfl (lv_at hl 2 rfl) ?_
                      refine va_get (v := .ref (a 1)) hex hbc hts hin5 hown hK hP 0 rfl rfl 0 (by decide) (hts _ (List.mem_of_getElem? (i := 1) rfl)) (fun _ h => h) rfl dX5_mark_128 ?_
                      refine lv_bipush (v := iI 75) hex hbc dX5_mark_131 (by decide) ?_
                      refine lv_iload_n hex hbc dX5_mark_133 rfl (lv_at hl 1 rfl) ?_
                      refine zt_iadd hex hbc dX5_mark_134 ?_
                      refine lv_iload_n hex hbc dX5_mark_135 rfl (lv_at hl 3 rfl) ?_
                      have hi_136 : (0 : Int) ≤ (75 + i1) ∧ (75 + i1) < (107 : Int) := (by omega)
                      refine g_iast (σ := (sc (sc (sc σ 0 w1) 1 (mpast (σ 1) (σ 0) (σ 2 0))) 2 (ups (σ 2) 0 (mpm (σ 2 0))))) (f := w1) (i := (75 + i1)) (v := x) (τ := st (sc (sc (sc σ 0 w1) 1 (mpast (σ 1) (σ 0) (σ 2 0))) 2 (ups (σ 2) 0 (mpm (σ 2 0)))) 0 (75 + i1) x) hex hbc hK hP hD hS 1 0 rfl rfl (by decide) hi_136 dX5_mark_136 (wm_up_1 hi_136) (fun H locs hP hD hS => ?_)
                      obtain ⟨f0_136, ef0_136⟩ : ∃ z : Int → Int, z = ups w1 (75 + i1) x := ⟨_, rfl⟩
                      have hP : va_P G vwCl (wm cx a (sc (sc (sc σ 0 f0_136) 1 (mpast (σ 1) (σ 0) (σ 2 0))) 2 (ups (σ 2) 0 (mpm (σ 2 0))))) H := by rw [ef0_136]; exact hP
                      have hD : va_D (MA a) (wm cx a (sc (sc (sc σ 0 f0_136) 1 (mpast (σ 1) (σ 0) (σ 2 0))) 2 (ups (σ 2) 0 (mpm (σ 2 0))))) := by rw [ef0_136]; exact hD
                      refine lv_aload_n hex hbc dX5_mark_137 rfl (lv_at hl 2 rfl) ?_
                      refine va_get (v := .ref (a 1)) hex hbc hts hin5 hown hK hP 0 rfl rfl 0 (by decide) (hts _ (List.mem_of_getElem? (i := 1) rfl)) (fun _ h => h) rfl dX5_mark_138 ?_
                      refine lv_bipush (v := iI 74) hex hbc dX5_mark_141 (by decide) ?_
                      refine lv_dup2_11 hex hbc dX5_mark_143 rfl rfl ?_
                      refine g_iald (f := f0_136) (v := (f0_136 74)) (i := 74) hex hbc hK hP 1 0 rfl rfl (by decide) (by omega) rfl dX5_mark_144 ?_
                      refine zt_nm (a := (f0_136 74)) (b := (σ 0 74)) (by rw [ef0_136, ups_n _ _ (by omega), hv]; exact if_neg (by omega)) ?_
                      refine lv_iconst (v := iI 1) hex hbc dX5_mark_145 rfl ?_
                      refine zt_iadd hex hbc dX5_mark_146 ?_
                      have hi_147 : (0 : Int) ≤ 74 ∧ 74 < (107 : Int) := (by omega)
                      refine g_iast (σ := (sc (sc (sc σ 0 f0_136) 1 (mpast (σ 1) (σ 0) (σ 2 0))) 2 (ups (σ 2) 0 (mpm (σ 2 0))))) (f := f0_136) (i := 74) (v := ((σ 0 74) + 1)) (τ := st (sc (sc (sc σ 0 f0_136) 1 (mpast (σ 1) (σ 0) (σ 2 0))) 2 (ups (σ 2) 0 (mpm (σ 2 0)))) 0 74 ((σ 0 74) + 1)) hex hbc hK hP hD hS 1 0 rfl rfl (by decide) hi_147 dX5_mark_147 (wm_up_1 hi_147) (fun H locs hP hD hS => ?_)
                      obtain ⟨f0_147, ef0_147⟩ : ∃ z : Int → Int, z = ups f0_136 74 ((σ 0 74) + 1) := ⟨_, rfl⟩
                      have hP : va_P G vwCl (wm cx a (sc (sc (sc σ 0 f0_147) 1 (mpast (σ 1) (σ 0) (σ 2 0))) 2 (ups (σ 2) 0 (mpm (σ 2 0))))) H := by rw [ef0_147]; exact hP
                      have hD : va_D (MA a) (wm cx a (sc (sc (sc σ 0 f0_147) 1 (mpast (σ 1) (σ 0) (σ 2 0))) 2 (ups (σ 2) 0 (mpm (σ 2 0))))) := by rw [ef0_147]; exact hD
                      refine lv_aload_n hex hbc dX5_mark_148 rfl (lv_at hl 2 rfl) ?_
                      refine g_callv [] ⟨hex, hbc, hml, hown, hts⟩ (mX5_layOrder l G cx a (sc (sc (sc σ 0 f0_147) 1 (mpast (σ 1) (σ 0) (σ 2 0))) 2 (ups (σ 2) 0 (mpm (σ 2 0))))  ) (cwV 0 hts gX5_mark_X5_layOrder rfl rfl rfl (by decide +kernel) ⟨Nat.le_of_ble_eq_true rfl, Nat.le_of_ble_eq_true rfl⟩) hK hP hD hS (fun _ h => h) 0 5 rfl rfl rfl rfl hl.1 (Nat.le_of_ble_eq_true rfl) dX5_mark_149 ⟨Nat.zero_le _, Nat.zero_le _⟩ (fun u_149 H locs hw_149 hP hD hS hz_149 hk_149 => ?_)
                      obtain rfl := hw_149
                      have hP : va_P G vwCl (wm cx a (sc (sc (sc σ 0 (spo (f0_147))) 1 (mpast (σ 1) (σ 0) (σ 2 0))) 2 (ups (σ 2) 0 (mpm (σ 2 0))))) H := hP
                      have hD : va_D (MA a) (wm cx a (sc (sc (sc σ 0 (spo (f0_147))) 1 (mpast (σ 1) (σ 0) (σ 2 0))) 2 (ups (σ 2) 0 (mpm (σ 2 0))))) := hD
                      refine lv_iload_n hex hbc dX5_mark_152 rfl (lv_at hl 1 rfl) ?_
                      exact g_iret hex hbc hrt hlocks hK hP hD hS ⟨fun h => absurd c5 h, fun _ => ⟨i1, hbf, fun h => (by exfalso; omega), fun _ => ⟨fun h => (by exfalso; omega), fun _ => ⟨rfl, ⟨(funext fun k => by show spo _ k = _; unfold spo spi; rw [ef0_147]; unfold ups; rw [ef0_136]; unfold ups; rw [hv k]; (repeat' split) <;> first | omega | exact congrArg _ (by omega)), rfl, (show ups (σ 2) 0 (mpm (σ 2 0)) 0 = mpm (σ 2 0) from ups_s _ _ _), (show ups (σ 2) 0 (mpm (σ 2 0)) 1 = σ 2 1 from ups_n _ _ (by decide)), rfl⟩⟩⟩⟩⟩ dX5_mark_153
                    · skip
                      refine lv_aload_n hex hbc dX5_mark_101 rfl (lv_at hl 2 rfl) ?_
                      refine va_get (v := .ref (a 1)) hex hbc hts hin5 hown hK hP 0 rfl rfl 0 (by decide) (hts _ (List.mem_of_getElem? (i := 1) rfl)) (fun _ h => h) rfl dX5_mark_102 ?_
                      refine lv_bipush (v := iI 75) hex hbc dX5_mark_105 (by decide) ?_
                      refine lv_iload_n hex hbc dX5_mark_107 rfl (lv_at hl 0 rfl) ?_
                      refine zt_iadd hex hbc dX5_mark_108 ?_
                      refine lv_aload_n hex hbc dX5_mark_109 rfl (lv_at hl 2 rfl) ?_
                      refine va_get (v := .ref (a 1)) hex hbc hts hin5 hown hK hP 0 rfl rfl 0 (by decide) (hts _ (List.mem_of_getElem? (i := 1) rfl)) (fun _ h => h) rfl dX5_mark_110 ?_
                      refine lv_bipush (v := iI 75) hex hbc dX5_mark_113 (by decide) ?_
                      refine lv_iload_n hex hbc dX5_mark_115 rfl (lv_at hl 0 rfl) ?_
                      refine zt_iadd hex hbc dX5_mark_116 ?_
                      refine lv_iconst (v := iI 1) hex hbc dX5_mark_117 rfl ?_
                      refine zt_isub hex hbc dX5_mark_118 ?_
                      refine g_iald (f := w1) (v := (w1 ((75 + i2) - 1))) (i := ((75 + i2) - 1)) hex hbc hK hP 1 0 rfl rfl (by decide) (by omega) rfl dX5_mark_119 ?_
                      refine zt_nm (a := (w1 ((75 + i2) - 1))) (b := (σ 0 (75 + i2 - 1))) (by rw [hv]; exact if_neg (by omega)) ?_
                      have hi_120 : (0 : Int) ≤ (75 + i2) ∧ (75 + i2) < (107 : Int) := (by omega)
                      refine g_iast (σ := (sc (sc (sc σ 0 w1) 1 (mpast (σ 1) (σ 0) (σ 2 0))) 2 (ups (σ 2) 0 (mpm (σ 2 0))))) (f := w1) (i := (75 + i2)) (v := (σ 0 (75 + i2 - 1))) (τ := st (sc (sc (sc σ 0 w1) 1 (mpast (σ 1) (σ 0) (σ 2 0))) 2 (ups (σ 2) 0 (mpm (σ 2 0)))) 0 (75 + i2) (σ 0 (75 + i2 - 1))) hex hbc hK hP hD hS 1 0 rfl rfl (by decide) hi_120 dX5_mark_120 (wm_up_1 hi_120) (fun H locs hP hD hS => ?_)
                      obtain ⟨f0_120, ef0_120⟩ : ∃ z : Int → Int, z = ups w1 (75 + i2) (σ 0 (75 + i2 - 1)) := ⟨_, rfl⟩
                      have hP : va_P G vwCl (wm cx a (sc (sc (sc σ 0 f0_120) 1 (mpast (σ 1) (σ 0) (σ 2 0))) 2 (ups (σ 2) 0 (mpm (σ 2 0))))) H := by rw [ef0_120]; exact hP
                      have hD : va_D (MA a) (wm cx a (sc (sc (sc σ 0 f0_120) 1 (mpast (σ 1) (σ 0) (σ 2 0))) 2 (ups (σ 2) 0 (mpm (σ 2 0))))) := by rw [ef0_120]; exact hD
                      refine lv_iinc (v := iI (i2 + (-1))) (lv' := [(3, .int (iI (i2 + (-1)))), (2, .int (iI i1)), (0, .ref (a 0)), (1, .int (iI x))]) hex hbc dX5_mark_121 hl (k := 0) rfl (iI_add _ _) (by decide) rfl (fun ls hl => ?_)
                      refine lv_goto (tgt := 96) hex hbc dX5_mark_124 (by decide) ?_
                      exact ih_96 (i2 + (-1)) f0_120 ⟨by omega, by omega, fun k => by rw [ef0_120]; unfold ups; rw [hv k]; (repeat' split) <;> first | omega | exact congrArg _ (by omega)⟩ (by omega) _ _ _ hP hD hS (lv_sub hl [0, 1, 2, 3] rfl)
                exact loop_96 _ (σ 0 74) (σ 0) ⟨by omega, by omega, fun k => (if_neg (by omega)).symm⟩ (mz_lt _) _ _ _ hP hD hS (lv_sub hl [0, 1, 2, 3] rfl)
              · skip
                refine lv_bipush (v := iI (-3)) hex hbc dX5_mark_81 (by decide) ?_
                exact g_iret hex hbc hrt hlocks hK hP hD hS ⟨fun h => absurd c5 h, fun _ => ⟨i1, hbf, fun h => (by exfalso; omega), fun _ => ⟨fun _ => ⟨rfl, ⟨rfl, rfl, rfl, rfl, rfl⟩⟩, fun h => (by exfalso; omega)⟩⟩⟩ dX5_mark_83
            · skip
              have hm := hMk i1 hi0 (by omega)
              refine lv_aload_n hex hbc dX5_mark_53 rfl (lv_at hl 1 rfl) ?_
              refine va_get (v := .ref (a 1)) hex hbc hts hin5 hown hK hP 0 rfl rfl 0 (by decide) (hts _ (List.mem_of_getElem? (i := 1) rfl)) (fun _ h => h) rfl dX5_mark_54 ?_
              refine lv_bipush (v := iI 75) hex hbc dX5_mark_57 (by decide) ?_
              refine lv_iload_n hex hbc dX5_mark_59 rfl (lv_at hl 0 rfl) ?_
              refine zt_iadd hex hbc dX5_mark_60 ?_
              refine g_iald (f := (σ 0)) (v := (σ 0 (75 + i1))) (i := (75 + i1)) hex hbc hK hP 1 0 rfl rfl (by decide) (by omega) rfl dX5_mark_61 ?_
              refine lv_iload_n hex hbc dX5_mark_62 rfl (lv_at hl 2 rfl) ?_
              refine zt_icmp_ne (a := (σ 0 (75 + i1))) (b := x) (tgt := 69) hex hbc (by omega) dX5_mark_63 (by decide) (fun c63 => ?_) (fun c63 => ?_)
              · skip
                refine lv_aload_n hex hbc dX5_mark_69 rfl (lv_at hl 1 rfl) ?_
                refine va_get (v := .ref (a 1)) hex hbc hts hin5 hown hK hP 0 rfl rfl 0 (by decide) (hts _ (List.mem_of_getElem? (i := 1) rfl)) (fun _ h => h) rfl dX5_mark_70 ?_
                refine lv_bipush (v := iI 74) hex hbc dX5_mark_73 (by decide) ?_
                refine g_iald (f := (σ 0)) (v := (σ 0 74)) (i := 74) hex hbc hK hP 1 0 rfl rfl (by decide) (by omega) rfl dX5_mark_75 ?_
                refine lv_bipush (v := iI 16) hex hbc dX5_mark_76 (by decide) ?_
                refine zt_icmp_ne (a := (σ 0 74)) (b := 16) (tgt := 84) hex hbc (by omega) dX5_mark_78 (by decide) (fun c78 => ?_) (fun c78 => ?_)
                · skip
                  refine lv_aload_n hex hbc dX5_mark_84 rfl (lv_at hl 1 rfl) ?_
                  refine g_callv [] ⟨hex, hbc, hml, hown, hts⟩ (mX5_remember l G cx a σ  hN) (cwV 0 hts gX5_mark_X5_remember rfl rfl rfl (by decide +kernel) ⟨Nat.le_of_ble_eq_true rfl, Nat.le_of_ble_eq_true rfl⟩) hK hP hD hS (fun _ h => h) 0 5 rfl rfl rfl rfl hl.1 (Nat.le_of_ble_eq_true rfl) dX5_mark_85 ⟨Nat.zero_le _, Nat.zero_le _⟩ (fun u_85 H locs hw_85 hP hD hS hz_85 hk_85 => ?_)
                  obtain rfl := hw_85
                  have hP : va_P G vwCl (wm cx a (sc (sc σ 1 (mpast (σ 1) (σ 0) (σ 2 0))) 2 (ups (σ 2) 0 (mpm (σ 2 0))))) H := hP
                  have hD : va_D (MA a) (wm cx a (sc (sc σ 1 (mpast (σ 1) (σ 0) (σ 2 0))) 2 (ups (σ 2) 0 (mpm (σ 2 0))))) := hD
                  refine lv_aload_n hex hbc dX5_mark_88 rfl (lv_at hl 1 rfl) ?_
                  refine va_get (v := .ref (a 1)) hex hbc hts hin5 hown hK hP 0 rfl rfl 0 (by decide) (hts _ (List.mem_of_getElem? (i := 1) rfl)) (fun _ h => h) rfl dX5_mark_89 ?_
                  refine lv_bipush (v := iI 74) hex hbc dX5_mark_92 (by decide) ?_
                  refine g_iald (f := (σ 0)) (v := (σ 0 74)) (i := 74) hex hbc hK hP 1 0 rfl rfl (by decide) (by omega) rfl dX5_mark_94 ?_
                  refine lv_istore_n (lv' := [(3, .int (iI (σ 0 74))), (2, .int (iI i1)), (0, .ref (a 0)), (1, .int (iI x))]) hex hbc dX5_mark_95 rfl hl (by decide) rfl (fun ls hl => ?_)
                  have loop_96 : ∀ (N : Nat) (i2 : Int) (w1 : Int → Int), (i1 ≤ i2 ∧ i2 ≤ σ 0 74 ∧ ∀ k, w1 k = if 75 + i2 < k ∧ k ≤ 75 + σ 0 74 then σ 0 (k - 1) else σ 0 k) → (i2 - i1) < (N : Int) → ∀ (H : Heap) (locs : List Loc) (ls : Array Slot), va_P G vwCl (wm cx a (sc (sc (sc σ 0 w1) 1 (mpast (σ 1) (σ 0) (σ 2 0))) 2 (ups (σ 2) 0 (mpm (σ 2 0))))) H → va_D (MA a) (wm cx a (sc (sc (sc σ 0 w1) 1 (mpast (σ 1) (σ 0) (σ 2 0))) 2 (ups (σ 2) 0 (mpm (σ 2 0))))) → va_S (MA a) s.heap H locs → lv_has ls 4 [(3, .int (iI i2)), (2, .int (iI i1)), (0, .ref (a 0)), (1, .int (iI x))] → W p l e (headSpec wsX5_mark ({ frames := 2, cells := 0, slots := 0, locals := 43 })).room s m ([.ref (a 0), .int (iI x)] : List Value).toArray below meth c H locs 0 0 (MQ below (va_Qi (fun r u => Rmark (σ 0) x r (MQ_ σ u) (MC_ σ u)) (gW G (tm cx) (MA a) (wm cx a)) (MA a)) ([.ref (a 0), .int (iI x)] : List Value).toArray s 0 0 (MA a)) (F0 m 96 ls []) := by
                    intro N
                    induction N with
                    | zero => intro i2 w1 hinv hlt; exfalso; omega
                    | succ N ih_96 =>
                      intro i2 w1 ⟨hj0, hj1, hv⟩ hlt_96 H locs ls hP hD hS hl
                      refine lv_iload_n hex hbc dX5_mark_96 rfl (lv_at hl 0 rfl) ?_
                      refine lv_iload_n hex hbc dX5_mark_97 rfl (lv_at hl 1 rfl) ?_
                      refine zt_icmp_le (a := i2) (b := i1) (tgt := 127) hex hbc (by omega) dX5_mark_98 (by decide) (fun c98 => ?_) (fun c98 => ?_)
                      · skip
                        refine lv_aload_n hex hbc dX5_mark_127 rfl (lv_at hl 2 rfl) ?_
                        refine va_get (v := .ref (a 1)) hex hbc hts hin5 hown hK hP 0 rfl rfl 0 (by decide) (hts _ (List.mem_of_getElem? (i := 1) rfl)) (fun _ h => h) rfl dX5_mark_128 ?_
                        refine lv_bipush (v := iI 75) hex hbc dX5_mark_131 (by decide) ?_
                        refine lv_iload_n hex hbc dX5_mark_133 rfl (lv_at hl 1 rfl) ?_
                        refine zt_iadd hex hbc dX5_mark_134 ?_
                        refine lv_iload_n hex hbc dX5_mark_135 rfl (lv_at hl 3 rfl) ?_
                        have hi_136 : (0 : Int) ≤ (75 + i1) ∧ (75 + i1) < (107 : Int) := (by omega)
                        refine g_iast (σ := (sc (sc (sc σ 0 w1) 1 (mpast (σ 1) (σ 0) (σ 2 0))) 2 (ups (σ 2) 0 (mpm (σ 2 0))))) (f := w1) (i := (75 + i1)) (v := x) (τ := st (sc (sc (sc σ 0 w1) 1 (mpast (σ 1) (σ 0) (σ 2 0))) 2 (ups (σ 2) 0 (mpm (σ 2 0)))) 0 (75 + i1) x) hex hbc hK hP hD hS 1 0 rfl rfl (by decide) hi_136 dX5_mark_136 (wm_up_1 hi_136) (fun H locs hP hD hS => ?_)
                        obtain ⟨f0_136, ef0_136⟩ : ∃ z : Int → Int, z = ups w1 (75 + i1) x := ⟨_, rfl⟩
                        have hP : va_P G vwCl (wm cx a (sc (sc (sc σ 0 f0_136) 1 (mpast (σ 1) (σ 0) (σ 2 0))) 2 (ups (σ 2) 0 (mpm (σ 2 0))))) H := by rw [ef0_136]; exact hP
                        have hD : va_D (MA a) (wm cx a (sc (sc (sc σ 0 f0_136) 1 (mpast (σ 1) (σ 0) (σ 2 0))) 2 (ups (σ 2) 0 (mpm (σ 2 0))))) := by rw [ef0_136]; exact hD
                        refine lv_aload_n hex hbc dX5_mark_137 rfl (lv_at hl 2 rfl) ?_
                        refine va_get (v := .ref (a 1)) hex hbc hts hin5 hown hK hP 0 rfl rfl 0 (by decide) (hts _ (List.mem_of_getElem? (i := 1) rfl)) (fun _ h => h) rfl dX5_mark_138 ?_
                        refine lv_bipush (v := iI 74) hex hbc dX5_mark_141 (by decide) ?_
                        refine lv_dup2_11 hex hbc dX5_mark_143 rfl rfl ?_
                        refine g_iald (f := f0_136) (v := (f0_136 74)) (i := 74) hex hbc hK hP 1 0 rfl rfl (by decide) (by omega) rfl dX5_mark_144 ?_
                        refine zt_nm (a := (f0_136 74)) (b := (σ 0 74)) (by rw [ef0_136, ups_n _ _ (by omega), hv]; exact if_neg (by omega)) ?_
                        refine lv_iconst (v := iI 1) hex hbc dX5_mark_145 rfl ?_
                        refine zt_iadd hex hbc dX5_mark_146 ?_
                        have hi_147 : (0 : Int) ≤ 74 ∧ 74 < (107 : Int) := (by omega)
                        refine g_iast (σ := (sc (sc (sc σ 0 f0_136) 1 (mpast (σ 1) (σ 0) (σ 2 0))) 2 (ups (σ 2) 0 (mpm (σ 2 0))))) (f := f0_136) (i := 74) (v := ((σ 0 74) + 1)) (τ := st (sc (sc (sc σ 0 f0_136) 1 (mpast (σ 1) (σ 0) (σ 2 0))) 2 (ups (σ 2) 0 (mpm (σ 2 0)))) 0 74 ((σ 0 74) + 1)) hex hbc hK hP hD hS 1 0 rfl rfl (by decide) hi_147 dX5_mark_147 (wm_up_1 hi_147) (fun H locs hP hD hS => ?_)
                        obtain ⟨f0_147, ef0_147⟩ : ∃ z : Int → Int, z = ups f0_136 74 ((σ 0 74) + 1) := ⟨_, rfl⟩
                        have hP : va_P G vwCl (wm cx a (sc (sc (sc σ 0 f0_147) 1 (mpast (σ 1) (σ 0) (σ 2 0))) 2 (ups (σ 2) 0 (mpm (σ 2 0))))) H := by rw [ef0_147]; exact hP
                        have hD : va_D (MA a) (wm cx a (sc (sc (sc σ 0 f0_147) 1 (mpast (σ 1) (σ 0) (σ 2 0))) 2 (ups (σ 2) 0 (mpm (σ 2 0))))) := by rw [ef0_147]; exact hD
                        refine lv_aload_n hex hbc dX5_mark_148 rfl (lv_at hl 2 rfl) ?_
                        refine g_callv [] ⟨hex, hbc, hml, hown, hts⟩ (mX5_layOrder l G cx a (sc (sc (sc σ 0 f0_147) 1 (mpast (σ 1) (σ 0) (σ 2 0))) 2 (ups (σ 2) 0 (mpm (σ 2 0))))  ) (cwV 0 hts gX5_mark_X5_layOrder rfl rfl rfl (by decide +kernel) ⟨Nat.le_of_ble_eq_true rfl, Nat.le_of_ble_eq_true rfl⟩) hK hP hD hS (fun _ h => h) 0 5 rfl rfl rfl rfl hl.1 (Nat.le_of_ble_eq_true rfl) dX5_mark_149 ⟨Nat.zero_le _, Nat.zero_le _⟩ (fun u_149 H locs hw_149 hP hD hS hz_149 hk_149 => ?_)
                        obtain rfl := hw_149
                        have hP : va_P G vwCl (wm cx a (sc (sc (sc σ 0 (spo (f0_147))) 1 (mpast (σ 1) (σ 0) (σ 2 0))) 2 (ups (σ 2) 0 (mpm (σ 2 0))))) H := hP
                        have hD : va_D (MA a) (wm cx a (sc (sc (sc σ 0 (spo (f0_147))) 1 (mpast (σ 1) (σ 0) (σ 2 0))) 2 (ups (σ 2) 0 (mpm (σ 2 0))))) := hD
                        refine lv_iload_n hex hbc dX5_mark_152 rfl (lv_at hl 1 rfl) ?_
                        exact g_iret hex hbc hrt hlocks hK hP hD hS ⟨fun h => absurd c5 h, fun _ => ⟨i1, hbf, fun h => (by exfalso; omega), fun _ => ⟨fun h => (by exfalso; omega), fun _ => ⟨rfl, ⟨(funext fun k => by show spo _ k = _; unfold spo spi; rw [ef0_147]; unfold ups; rw [ef0_136]; unfold ups; rw [hv k]; (repeat' split) <;> first | omega | exact congrArg _ (by omega)), rfl, (show ups (σ 2) 0 (mpm (σ 2 0)) 0 = mpm (σ 2 0) from ups_s _ _ _), (show ups (σ 2) 0 (mpm (σ 2 0)) 1 = σ 2 1 from ups_n _ _ (by decide)), rfl⟩⟩⟩⟩⟩ dX5_mark_153
                      · skip
                        refine lv_aload_n hex hbc dX5_mark_101 rfl (lv_at hl 2 rfl) ?_
                        refine va_get (v := .ref (a 1)) hex hbc hts hin5 hown hK hP 0 rfl rfl 0 (by decide) (hts _ (List.mem_of_getElem? (i := 1) rfl)) (fun _ h => h) rfl dX5_mark_102 ?_
                        refine lv_bipush (v := iI 75) hex hbc dX5_mark_105 (by decide) ?_
                        refine lv_iload_n hex hbc dX5_mark_107 rfl (lv_at hl 0 rfl) ?_
                        refine zt_iadd hex hbc dX5_mark_108 ?_
                        refine lv_aload_n hex hbc dX5_mark_109 rfl (lv_at hl 2 rfl) ?_
                        refine va_get (v := .ref (a 1)) hex hbc hts hin5 hown hK hP 0 rfl rfl 0 (by decide) (hts _ (List.mem_of_getElem? (i := 1) rfl)) (fun _ h => h) rfl dX5_mark_110 ?_
                        refine lv_bipush (v := iI 75) hex hbc dX5_mark_113 (by decide) ?_
                        refine lv_iload_n hex hbc dX5_mark_115 rfl (lv_at hl 0 rfl) ?_
                        refine zt_iadd hex hbc dX5_mark_116 ?_
                        refine lv_iconst (v := iI 1) hex hbc dX5_mark_117 rfl ?_
                        refine zt_isub hex hbc dX5_mark_118 ?_
                        refine g_iald (f := w1) (v := (w1 ((75 + i2) - 1))) (i := ((75 + i2) - 1)) hex hbc hK hP 1 0 rfl rfl (by decide) (by omega) rfl dX5_mark_119 ?_
                        refine zt_nm (a := (w1 ((75 + i2) - 1))) (b := (σ 0 (75 + i2 - 1))) (by rw [hv]; exact if_neg (by omega)) ?_
                        have hi_120 : (0 : Int) ≤ (75 + i2) ∧ (75 + i2) < (107 : Int) := (by omega)
                        refine g_iast (σ := (sc (sc (sc σ 0 w1) 1 (mpast (σ 1) (σ 0) (σ 2 0))) 2 (ups (σ 2) 0 (mpm (σ 2 0))))) (f := w1) (i := (75 + i2)) (v := (σ 0 (75 + i2 - 1))) (τ := st (sc (sc (sc σ 0 w1) 1 (mpast (σ 1) (σ 0) (σ 2 0))) 2 (ups (σ 2) 0 (mpm (σ 2 0)))) 0 (75 + i2) (σ 0 (75 + i2 - 1))) hex hbc hK hP hD hS 1 0 rfl rfl (by decide) hi_120 dX5_mark_120 (wm_up_1 hi_120) (fun H locs hP hD hS => ?_)
                        obtain ⟨f0_120, ef0_120⟩ : ∃ z : Int → Int, z = ups w1 (75 + i2) (σ 0 (75 + i2 - 1)) := ⟨_, rfl⟩
                        have hP : va_P G vwCl (wm cx a (sc (sc (sc σ 0 f0_120) 1 (mpast (σ 1) (σ 0) (σ 2 0))) 2 (ups (σ 2) 0 (mpm (σ 2 0))))) H := by rw [ef0_120]; exact hP
                        have hD : va_D (MA a) (wm cx a (sc (sc (sc σ 0 f0_120) 1 (mpast (σ 1) (σ 0) (σ 2 0))) 2 (ups (σ 2) 0 (mpm (σ 2 0))))) := by rw [ef0_120]; exact hD
                        refine lv_iinc (v := iI (i2 + (-1))) (lv' := [(3, .int (iI (i2 + (-1)))), (2, .int (iI i1)), (0, .ref (a 0)), (1, .int (iI x))]) hex hbc dX5_mark_121 hl (k := 0) rfl (iI_add _ _) (by decide) rfl (fun ls hl => ?_)
                        refine lv_goto (tgt := 96) hex hbc dX5_mark_124 (by decide) ?_
                        exact ih_96 (i2 + (-1)) f0_120 ⟨by omega, by omega, fun k => by rw [ef0_120]; unfold ups; rw [hv k]; (repeat' split) <;> first | omega | exact congrArg _ (by omega)⟩ (by omega) _ _ _ hP hD hS (lv_sub hl [0, 1, 2, 3] rfl)
                  exact loop_96 _ (σ 0 74) (σ 0) ⟨by omega, by omega, fun k => (if_neg (by omega)).symm⟩ (mz_lt _) _ _ _ hP hD hS (lv_sub hl [0, 1, 2, 3] rfl)
                · skip
                  refine lv_bipush (v := iI (-3)) hex hbc dX5_mark_81 (by decide) ?_
                  exact g_iret hex hbc hrt hlocks hK hP hD hS ⟨fun h => absurd c5 h, fun _ => ⟨i1, hbf, fun h => (by exfalso; omega), fun _ => ⟨fun _ => ⟨rfl, ⟨rfl, rfl, rfl, rfl, rfl⟩⟩, fun h => (by exfalso; omega)⟩⟩⟩ dX5_mark_83
              · skip
                refine lv_bipush (v := iI (-2)) hex hbc dX5_mark_66 (by decide) ?_
                exact g_iret hex hbc hrt hlocks hK hP hD hS ⟨fun h => absurd c5 h, fun _ => ⟨i1, hbf, fun _ => ⟨rfl, ⟨rfl, rfl, rfl, rfl, rfl⟩⟩, fun h => absurd ⟨by omega, by omega⟩ h⟩⟩ dX5_mark_68
          · skip
            refine lv_iinc (v := iI (i1 + 1)) (lv' := [(2, .int (iI (i1 + 1))), (0, .ref (a 0)), (1, .int (iI x))]) hex hbc dX5_mark_36 hl (k := 0) rfl (iI_add _ _) (by decide) rfl (fun ls hl => ?_)
            refine lv_goto (tgt := 12) hex hbc dX5_mark_39 (by decide) ?_
            exact ih_12 (i1 + 1) ⟨by omega, by omega, fun k h1 h2 => if hk : k = i1 then by subst hk; omega else hw k h1 (by omega)⟩ (by omega) _ _ _ hP hD hS (lv_sub hl [0, 1, 2] rfl)
    exact loop_12 _ 0 ⟨by omega, by omega, fun k h1 h2 => by omega⟩ (mz_lt _) _ _ _ hP hD hS (lv_sub hl [0, 1, 2] rfl)
  · skip
    refine lv_iconst (v := iI (-1)) hex hbc dX5_mark_8 rfl ?_
    exact g_iret hex hbc hrt hlocks hK hP hD hS ⟨fun _ => ⟨rfl, ⟨rfl, rfl, rfl, rfl, rfl⟩⟩, fun h => absurd h c5⟩ dX5_mark_9
theorem iX5_unmark_X5 : ∀ w ∈ wsX50, w ∈ wsX5_unmark := fun _ h => List.mem_cons_of_mem _ (List.mem_append_right _ h)
set_option maxHeartbeats 4000000 in
set_option maxRecDepth 100000 in
theorem mX5_unmark (l : Launch) (G : va_G) (cx a : Nat → Nat) (σ : Nat → Int → Int)  (x : Int) (hx : -2147483648 ≤ x ∧ x < 2147483648) (hN : 0 ≤ σ 2 0 ∧ σ 2 0 ≤ 8) (hI : Inv (σ 0)) : Met l yX5_unmark wsX5_unmark ({ frames := 2, cells := 0, slots := 0, locals := 43 }) (va_Pc [.ref (a 0), .int (iI x)] (gW G (tm cx) (MA a) (wm cx a) σ)) (va_Qi (fun r u => ((1 ≤ x ∧ x < σ 0 74) → iI (σ 0 74 - 1) = r ∧ MC_ σ u (spr (σ 0) x)) ∧ (¬ (1 ≤ x ∧ x < σ 0 74) → iI (-1) = r ∧ MQ_ σ u)) (gW G (tm cx) (MA a) (wm cx a)) (MA a)) 0 0 (MA a) := by
  refine Met.ofW (cc := cX5_unmark) (maxL := 3) (ret := some .int) (by decide) rfl ?_
  intro p e s m args below meth c s₁ B hml hv
  obtain ⟨rfl, hP, hK, hD⟩ := hv
  have hex := B.exec
  have hbc := B.bytes
  have hrt := B.returns
  have hts := atoms_spec (ws := wsX5_unmark) B.pre
  have hown : s.vm.findClass RX5 = some m.cls := findClass_of_methodNamed B.named
  have hlocks := B.notSynchronized
  have hS : va_S (MA a) s.heap s.heap [] := va_S.rf
  have hin5 := iX5_unmark_X5
  have hl := lv_entry ([.ref (a 0), .int (iI x)]) (n := 3) (Nat.le_of_ble_eq_true rfl)
  rw [lg_entry_eq]
  generalize (lg_sl ([.ref (a 0), .int (iI x)]) ++ List.replicate (3 - (lg_sl ([.ref (a 0), .int (iI x)])).length) Slot.unset).toArray = ls at hl ⊢
  have hl : lv_has ls 3 [(0, .ref (a 0)), (1, .int (iI x))] := hl
  obtain ⟨hB, hEn, hMk, hAs, hPm⟩ := id hI
  refine lv_aload_n hex hbc dX5_unmark_0 rfl (lv_at hl 0 rfl) ?_
  refine lv_iload_n hex hbc dX5_unmark_1 rfl (lv_at hl 1 rfl) ?_
  refine g_calli [.int (iI x)] ⟨hex, hbc, hml, hown, hts⟩ (mX5_isFurther l G cx a σ x (by omega) hI) (cwV 1 hts gX5_unmark_X5_isFurther rfl rfl rfl (by decide +kernel) ⟨Nat.le_of_ble_eq_true rfl, Nat.le_of_ble_eq_true rfl⟩) hK hP hD hS (fun _ h => h) 0 5 rfl rfl rfl rfl hl.1 (Nat.le_of_ble_eq_true rfl) dX5_unmark_2 ⟨Nat.zero_le _, Nat.zero_le _⟩ (fun r_2 u_2 H locs hw_2 hP hD hS hz_2 hk_2 => ?_)
  obtain ⟨rfl, vb2, rfl, hv2⟩ := hw_2
  refine zt_ifb_ne (P := (1 ≤ x ∧ x < σ 0 74)) (tgt := 10) hex hbc hv2 dX5_unmark_5 (by decide) (fun c5 => ?_) (fun c5 => ?_)
  · skip
    refine lv_aload_n hex hbc dX5_unmark_10 rfl (lv_at hl 0 rfl) ?_
    refine g_callv [] ⟨hex, hbc, hml, hown, hts⟩ (mX5_remember l G cx a σ  hN) (cwV 0 hts gX5_unmark_X5_remember rfl rfl rfl (by decide +kernel) ⟨Nat.le_of_ble_eq_true rfl, Nat.le_of_ble_eq_true rfl⟩) hK hP hD hS (fun _ h => h) 0 5 rfl rfl rfl rfl hl.1 (Nat.le_of_ble_eq_true rfl) dX5_unmark_11 ⟨Nat.zero_le _, Nat.zero_le _⟩ (fun u_11 H locs hw_11 hP hD hS hz_11 hk_11 => ?_)
    obtain rfl := hw_11
    have hP : va_P G vwCl (wm cx a (sc (sc σ 1 (mpast (σ 1) (σ 0) (σ 2 0))) 2 (ups (σ 2) 0 (mpm (σ 2 0))))) H := hP
    have hD : va_D (MA a) (wm cx a (sc (sc σ 1 (mpast (σ 1) (σ 0) (σ 2 0))) 2 (ups (σ 2) 0 (mpm (σ 2 0))))) := hD
    refine lv_iload_n hex hbc dX5_unmark_14 rfl (lv_at hl 1 rfl) ?_
    refine lv_istore_n (lv' := [(2, .int (iI x)), (0, .ref (a 0)), (1, .int (iI x))]) hex hbc dX5_unmark_15 rfl hl (by decide) rfl (fun ls hl => ?_)
    have loop_16 : ∀ (N : Nat) (i1 : Int) (w1 : Int → Int), (x ≤ i1 ∧ i1 ≤ σ 0 74 - 1 ∧ ∀ k, w1 k = if 75 + x ≤ k ∧ k < 75 + i1 then σ 0 (k + 1) else σ 0 k) → (σ 0 74 - i1) < (N : Int) → ∀ (H : Heap) (locs : List Loc) (ls : Array Slot), va_P G vwCl (wm cx a (sc (sc (sc σ 0 w1) 1 (mpast (σ 1) (σ 0) (σ 2 0))) 2 (ups (σ 2) 0 (mpm (σ 2 0))))) H → va_D (MA a) (wm cx a (sc (sc (sc σ 0 w1) 1 (mpast (σ 1) (σ 0) (σ 2 0))) 2 (ups (σ 2) 0 (mpm (σ 2 0))))) → va_S (MA a) s.heap H locs → lv_has ls 3 [(2, .int (iI i1)), (0, .ref (a 0))] → W p l e (headSpec wsX5_unmark ({ frames := 2, cells := 0, slots := 0, locals := 43 })).room s m ([.ref (a 0), .int (iI x)] : List Value).toArray below meth c H locs 0 0 (MQ below (va_Qi (fun r u => ((1 ≤ x ∧ x < σ 0 74) → iI (σ 0 74 - 1) = r ∧ MC_ σ u (spr (σ 0) x)) ∧ (¬ (1 ≤ x ∧ x < σ 0 74) → iI (-1) = r ∧ MQ_ σ u)) (gW G (tm cx) (MA a) (wm cx a)) (MA a)) ([.ref (a 0), .int (iI x)] : List Value).toArray s 0 0 (MA a)) (F0 m 16 ls []) := by
      intro N
      induction N with
      | zero => intro i1 w1 hinv hlt; exfalso; omega
      | succ N ih_16 =>
        intro i1 w1 ⟨hi0, hi1, hw⟩ hlt_16 H locs ls hP hD hS hl
        refine lv_iload_n hex hbc dX5_unmark_16 rfl (lv_at hl 0 rfl) ?_
        refine lv_iconst (v := iI 1) hex hbc dX5_unmark_17 rfl ?_
        refine zt_iadd hex hbc dX5_unmark_18 ?_
        refine lv_aload_n hex hbc dX5_unmark_19 rfl (lv_at hl 1 rfl) ?_
        refine va_get (v := .ref (a 1)) hex hbc hts hin5 hown hK hP 0 rfl rfl 0 (by decide) (hts _ (List.mem_of_getElem? (i := 1) rfl)) (fun _ h => h) rfl dX5_unmark_20 ?_
        refine lv_bipush (v := iI 74) hex hbc dX5_unmark_23 (by decide) ?_
        refine g_iald (f := w1) (v := (w1 74)) (i := 74) hex hbc hK hP 1 0 rfl rfl (by decide) (by omega) rfl dX5_unmark_25 ?_
        refine zt_nm (a := (w1 74)) (b := (σ 0 74)) (by rw [hw]; exact if_neg (by omega)) ?_
        refine zt_icmp_ge (a := (i1 + 1)) (b := (σ 0 74)) (tgt := 55) hex hbc (by omega) dX5_unmark_26 (by decide) (fun c26 => ?_) (fun c26 => ?_)
        · skip
          refine lv_aload_n hex hbc dX5_unmark_55 rfl (lv_at hl 1 rfl) ?_
          refine va_get (v := .ref (a 1)) hex hbc hts hin5 hown hK hP 0 rfl rfl 0 (by decide) (hts _ (List.mem_of_getElem? (i := 1) rfl)) (fun _ h => h) rfl dX5_unmark_56 ?_
          refine lv_bipush (v := iI 74) hex hbc dX5_unmark_59 (by decide) ?_
          refine lv_dup2_11 hex hbc dX5_unmark_61 rfl rfl ?_
          refine g_iald (f := w1) (v := (w1 74)) (i := 74) hex hbc hK hP 1 0 rfl rfl (by decide) (by omega) rfl dX5_unmark_62 ?_
          refine zt_nm (a := (w1 74)) (b := (σ 0 74)) (by rw [hw]; exact if_neg (by omega)) ?_
          refine lv_iconst (v := iI 1) hex hbc dX5_unmark_63 rfl ?_
          refine zt_isub hex hbc dX5_unmark_64 ?_
          have hi_65 : (0 : Int) ≤ 74 ∧ 74 < (107 : Int) := (by omega)
          refine g_iast (σ := (sc (sc (sc σ 0 w1) 1 (mpast (σ 1) (σ 0) (σ 2 0))) 2 (ups (σ 2) 0 (mpm (σ 2 0))))) (f := w1) (i := 74) (v := ((σ 0 74) - 1)) (τ := st (sc (sc (sc σ 0 w1) 1 (mpast (σ 1) (σ 0) (σ 2 0))) 2 (ups (σ 2) 0 (mpm (σ 2 0)))) 0 74 ((σ 0 74) - 1)) hex hbc hK hP hD hS 1 0 rfl rfl (by decide) hi_65 dX5_unmark_65 (wm_up_1 hi_65) (fun H locs hP hD hS => ?_)
          obtain ⟨f0_65, ef0_65⟩ : ∃ z : Int → Int, z = ups w1 74 ((σ 0 74) - 1) := ⟨_, rfl⟩
          have hP : va_P G vwCl (wm cx a (sc (sc (sc σ 0 f0_65) 1 (mpast (σ 1) (σ 0) (σ 2 0))) 2 (ups (σ 2) 0 (mpm (σ 2 0))))) H := by rw [ef0_65]; exact hP
          have hD : va_D (MA a) (wm cx a (sc (sc (sc σ 0 f0_65) 1 (mpast (σ 1) (σ 0) (σ 2 0))) 2 (ups (σ 2) 0 (mpm (σ 2 0))))) := by rw [ef0_65]; exact hD
          refine lv_aload_n hex hbc dX5_unmark_66 rfl (lv_at hl 1 rfl) ?_
          refine g_callv [] ⟨hex, hbc, hml, hown, hts⟩ (mX5_layOrder l G cx a (sc (sc (sc σ 0 f0_65) 1 (mpast (σ 1) (σ 0) (σ 2 0))) 2 (ups (σ 2) 0 (mpm (σ 2 0))))  ) (cwV 0 hts gX5_unmark_X5_layOrder rfl rfl rfl (by decide +kernel) ⟨Nat.le_of_ble_eq_true rfl, Nat.le_of_ble_eq_true rfl⟩) hK hP hD hS (fun _ h => h) 0 5 rfl rfl rfl rfl hl.1 (Nat.le_of_ble_eq_true rfl) dX5_unmark_67 ⟨Nat.zero_le _, Nat.zero_le _⟩ (fun u_67 H locs hw_67 hP hD hS hz_67 hk_67 => ?_)
          obtain rfl := hw_67
          have hP : va_P G vwCl (wm cx a (sc (sc (sc σ 0 (spo (f0_65))) 1 (mpast (σ 1) (σ 0) (σ 2 0))) 2 (ups (σ 2) 0 (mpm (σ 2 0))))) H := hP
          have hD : va_D (MA a) (wm cx a (sc (sc (sc σ 0 (spo (f0_65))) 1 (mpast (σ 1) (σ 0) (σ 2 0))) 2 (ups (σ 2) 0 (mpm (σ 2 0))))) := hD
          refine lv_aload_n hex hbc dX5_unmark_70 rfl (lv_at hl 1 rfl) ?_
          refine va_get (v := .ref (a 1)) hex hbc hts hin5 hown hK hP 0 rfl rfl 0 (by decide) (hts _ (List.mem_of_getElem? (i := 1) rfl)) (fun _ h => h) rfl dX5_unmark_71 ?_
          refine lv_bipush (v := iI 74) hex hbc dX5_unmark_74 (by decide) ?_
          refine g_iald (f := (spo (f0_65))) (v := ((spo (f0_65)) 74)) (i := 74) hex hbc hK hP 1 0 rfl rfl (by decide) (by omega) rfl dX5_unmark_76 ?_
          refine zt_nm (a := ((spo (f0_65)) 74)) (b := (σ 0 74 - 1)) (show spo f0_65 74 = _ from by unfold spo; rw [if_neg (by omega), ef0_65, ups_s]) ?_
          exact g_iret hex hbc hrt hlocks hK hP hD hS ⟨fun _ => ⟨rfl, ⟨(funext fun k => by show spo _ k = _; unfold spo spr; rw [ef0_65]; unfold ups; rw [hw k]; (repeat' split) <;> first | omega | exact congrArg _ (by omega)), rfl, (show ups (σ 2) 0 (mpm (σ 2 0)) 0 = mpm (σ 2 0) from ups_s _ _ _), (show ups (σ 2) 0 (mpm (σ 2 0)) 1 = σ 2 1 from ups_n _ _ (by decide)), rfl⟩⟩, fun h => absurd c5 h⟩ dX5_unmark_77
        · skip
          refine lv_aload_n hex hbc dX5_unmark_29 rfl (lv_at hl 1 rfl) ?_
          refine va_get (v := .ref (a 1)) hex hbc hts hin5 hown hK hP 0 rfl rfl 0 (by decide) (hts _ (List.mem_of_getElem? (i := 1) rfl)) (fun _ h => h) rfl dX5_unmark_30 ?_
          refine lv_bipush (v := iI 75) hex hbc dX5_unmark_33 (by decide) ?_
          refine lv_iload_n hex hbc dX5_unmark_35 rfl (lv_at hl 0 rfl) ?_
          refine zt_iadd hex hbc dX5_unmark_36 ?_
          refine lv_aload_n hex hbc dX5_unmark_37 rfl (lv_at hl 1 rfl) ?_
          refine va_get (v := .ref (a 1)) hex hbc hts hin5 hown hK hP 0 rfl rfl 0 (by decide) (hts _ (List.mem_of_getElem? (i := 1) rfl)) (fun _ h => h) rfl dX5_unmark_38 ?_
          refine lv_bipush (v := iI 75) hex hbc dX5_unmark_41 (by decide) ?_
          refine lv_iload_n hex hbc dX5_unmark_43 rfl (lv_at hl 0 rfl) ?_
          refine zt_iadd hex hbc dX5_unmark_44 ?_
          refine lv_iconst (v := iI 1) hex hbc dX5_unmark_45 rfl ?_
          refine zt_iadd hex hbc dX5_unmark_46 ?_
          refine g_iald (f := w1) (v := (w1 ((75 + i1) + 1))) (i := ((75 + i1) + 1)) hex hbc hK hP 1 0 rfl rfl (by decide) (by omega) rfl dX5_unmark_47 ?_
          refine zt_nm (a := (w1 ((75 + i1) + 1))) (b := (σ 0 (75 + i1 + 1))) (by rw [hw]; exact if_neg (by omega)) ?_
          have hi_48 : (0 : Int) ≤ (75 + i1) ∧ (75 + i1) < (107 : Int) := (by omega)
          refine g_iast (σ := (sc (sc (sc σ 0 w1) 1 (mpast (σ 1) (σ 0) (σ 2 0))) 2 (ups (σ 2) 0 (mpm (σ 2 0))))) (f := w1) (i := (75 + i1)) (v := (σ 0 (75 + i1 + 1))) (τ := st (sc (sc (sc σ 0 w1) 1 (mpast (σ 1) (σ 0) (σ 2 0))) 2 (ups (σ 2) 0 (mpm (σ 2 0)))) 0 (75 + i1) (σ 0 (75 + i1 + 1))) hex hbc hK hP hD hS 1 0 rfl rfl (by decide) hi_48 dX5_unmark_48 (wm_up_1 hi_48) (fun H locs hP hD hS => ?_)
          obtain ⟨f0_48, ef0_48⟩ : ∃ z : Int → Int, z = ups w1 (75 + i1) (σ 0 (75 + i1 + 1)) := ⟨_, rfl⟩
          have hP : va_P G vwCl (wm cx a (sc (sc (sc σ 0 f0_48) 1 (mpast (σ 1) (σ 0) (σ 2 0))) 2 (ups (σ 2) 0 (mpm (σ 2 0))))) H := by rw [ef0_48]; exact hP
          have hD : va_D (MA a) (wm cx a (sc (sc (sc σ 0 f0_48) 1 (mpast (σ 1) (σ 0) (σ 2 0))) 2 (ups (σ 2) 0 (mpm (σ 2 0))))) := by rw [ef0_48]; exact hD
          refine lv_iinc (v := iI (i1 + 1)) (lv' := [(2, .int (iI (i1 + 1))), (0, .ref (a 0))]) hex hbc dX5_unmark_49 hl (k := 0) rfl (iI_add _ _) (by decide) rfl (fun ls hl => ?_)
          refine lv_goto (tgt := 16) hex hbc dX5_unmark_52 (by decide) ?_
          exact ih_16 (i1 + 1) f0_48 ⟨by omega, by omega, fun k => by rw [ef0_48]; unfold ups; rw [hw k]; (repeat' split) <;> first | omega | exact congrArg _ (by omega)⟩ (by omega) _ _ _ hP hD hS (lv_sub hl [0, 1] rfl)
    exact loop_16 _ x (σ 0) ⟨by omega, by omega, fun k => (if_neg (by omega)).symm⟩ (mz_lt _) _ _ _ hP hD hS (lv_sub hl [0, 1] rfl)
  · skip
    refine lv_iconst (v := iI (-1)) hex hbc dX5_unmark_8 rfl ?_
    exact g_iret hex hbc hrt hlocks hK hP hD hS ⟨fun h => absurd h c5, fun _ => ⟨rfl, ⟨rfl, rfl, rfl, rfl, rfl⟩⟩⟩ dX5_unmark_9
theorem iX5_moveMark_X5 : ∀ w ∈ wsX50, w ∈ wsX5_moveMark := fun _ h => List.mem_cons_of_mem _ (List.mem_append_right _ h)
set_option maxHeartbeats 4000000 in
set_option maxRecDepth 100000 in
theorem mX5_moveMark (l : Launch) (G : va_G) (cx a : Nat → Nat) (σ : Nat → Int → Int)  (x1 : Int) (x2 : Int) (h1 : -2147483648 ≤ x1 ∧ x1 < 2147483648) (h2 : -2147483648 ≤ x2 ∧ x2 < 2147483648) (hN : 0 ≤ σ 2 0 ∧ σ 2 0 ≤ 8) (hI : Inv (σ 0)) : Met l yX5_moveMark wsX5_moveMark ({ frames := 2, cells := 0, slots := 0, locals := 43 }) (va_Pc [.ref (a 0), .int (iI x1), .int (iI x2)] (gW G (tm cx) (MA a) (wm cx a) σ)) (va_Qi (fun r u => Rmove (σ 0) x1 x2 r (MQ_ σ u) (MC_ σ u)) (gW G (tm cx) (MA a) (wm cx a)) (MA a)) 0 0 (MA a) := by
  refine Met.ofW (cc := cX5_moveMark) (maxL := 4) (ret := some .int) (by decide) rfl ?_
  intro p e s m args below meth c s₁ B hml hv
  obtain ⟨rfl, hP, hK, hD⟩ := hv
  have hex := B.exec
  have hbc := B.bytes
  have hrt := B.returns
  have hts := atoms_spec (ws := wsX5_moveMark) B.pre
  have hown : s.vm.findClass RX5 = some m.cls := findClass_of_methodNamed B.named
  have hlocks := B.notSynchronized
  have hS : va_S (MA a) s.heap s.heap [] := va_S.rf
  have hin5 := iX5_moveMark_X5
  have hl := lv_entry ([.ref (a 0), .int (iI x1), .int (iI x2)]) (n := 4) (Nat.le_of_ble_eq_true rfl)
  rw [lg_entry_eq]
  generalize (lg_sl ([.ref (a 0), .int (iI x1), .int (iI x2)]) ++ List.replicate (4 - (lg_sl ([.ref (a 0), .int (iI x1), .int (iI x2)])).length) Slot.unset).toArray = ls at hl ⊢
  have hl : lv_has ls 4 [(0, .ref (a 0)), (1, .int (iI x1)), (2, .int (iI x2))] := hl
  obtain ⟨hB, hEn, hMk, hAs, hPm⟩ := id hI
  refine lv_aload_n hex hbc dX5_moveMark_0 rfl (lv_at hl 0 rfl) ?_
  refine lv_iload_n hex hbc dX5_moveMark_1 rfl (lv_at hl 1 rfl) ?_
  refine g_calli [.int (iI x1)] ⟨hex, hbc, hml, hown, hts⟩ (mX5_isFurther l G cx a σ x1 (by omega) hI) (cwV 1 hts gX5_moveMark_X5_isFurther rfl rfl rfl (by decide +kernel) ⟨Nat.le_of_ble_eq_true rfl, Nat.le_of_ble_eq_true rfl⟩) hK hP hD hS (fun _ h => h) 0 5 rfl rfl rfl rfl hl.1 (Nat.le_of_ble_eq_true rfl) dX5_moveMark_2 ⟨Nat.zero_le _, Nat.zero_le _⟩ (fun r_2 u_2 H locs hw_2 hP hD hS hz_2 hk_2 => ?_)
  obtain ⟨rfl, vb2, rfl, hv2⟩ := hw_2
  refine zt_ifb_eq (P := (1 ≤ x1 ∧ x1 < σ 0 74)) (tgt := 16) hex hbc hv2 dX5_moveMark_5 (by decide) (fun c5 => ?_) (fun c5 => ?_)
  · skip
    refine lv_iconst (v := iI (-1)) hex hbc dX5_moveMark_16 rfl ?_
    exact g_iret hex hbc hrt hlocks hK hP hD hS ⟨fun _ => ⟨rfl, ⟨rfl, rfl, rfl, rfl, rfl⟩⟩, fun h => (by exfalso; omega)⟩ dX5_moveMark_17
  · skip
    refine lv_aload_n hex hbc dX5_moveMark_8 rfl (lv_at hl 0 rfl) ?_
    refine lv_iload_n hex hbc dX5_moveMark_9 rfl (lv_at hl 2 rfl) ?_
    refine g_calli [.int (iI x2)] ⟨hex, hbc, hml, hown, hts⟩ (mX5_isFrame l G cx a σ x2 (by omega) hI) (cwV 1 hts gX5_moveMark_X5_isFrame rfl rfl rfl (by decide +kernel) ⟨Nat.le_of_ble_eq_true rfl, Nat.le_of_ble_eq_true rfl⟩) hK hP hD hS (fun _ h => h) 0 5 rfl rfl rfl rfl hl.1 (Nat.le_of_ble_eq_true rfl) dX5_moveMark_10 ⟨Nat.zero_le _, Nat.zero_le _⟩ (fun r_10 u_10 H locs hw_10 hP hD hS hz_10 hk_10 => ?_)
    obtain ⟨rfl, vb10, rfl, hv10⟩ := hw_10
    refine zt_ifb_ne (P := (0 ≤ x2 ∧ x2 < σ 0 0)) (tgt := 18) hex hbc hv10 dX5_moveMark_13 (by decide) (fun c13 => ?_) (fun c13 => ?_)
    · skip
      have hfa := hI.fr_in (k := x1 - 1) (by omega)
      have hfb := hI.fr_in (k := x1 + 1) (by omega)
      refine lv_iload_n hex hbc dX5_moveMark_18 rfl (lv_at hl 2 rfl) ?_
      refine lv_aload_n hex hbc dX5_moveMark_19 rfl (lv_at hl 0 rfl) ?_
      refine lv_iload_n hex hbc dX5_moveMark_20 rfl (lv_at hl 1 rfl) ?_
      refine lv_iconst (v := iI 1) hex hbc dX5_moveMark_21 rfl ?_
      refine zt_isub hex hbc dX5_moveMark_22 ?_
      refine g_calli [.int (iI (x1 - 1))] ⟨hex, hbc, hml, hown, hts⟩ (mX5_frameOf l G cx a σ (x1 - 1) (by omega) hI) (cwV 1 hts gX5_moveMark_X5_frameOf rfl rfl rfl (by decide +kernel) ⟨Nat.le_of_ble_eq_true rfl, Nat.le_of_ble_eq_true rfl⟩) hK hP hD hS (fun _ h => h) 0 5 rfl rfl rfl rfl hl.1 (Nat.le_of_ble_eq_true rfl) dX5_moveMark_23 ⟨Nat.zero_le _, Nat.zero_le _⟩ (fun r_23 u_23 H locs hw_23 hP hD hS hz_23 hk_23 => ?_)
      obtain ⟨rfl, rfl⟩ := hw_23
      refine zt_icmp_le (a := x2) (b := (fr (σ 0) (x1 - 1))) (tgt := 40) hex hbc (by omega) dX5_moveMark_26 (by decide) (fun c26 => ?_) (fun c26 => ?_)
      · skip
        refine lv_bipush (v := iI (-2)) hex hbc dX5_moveMark_40 (by decide) ?_
        exact g_iret hex hbc hrt hlocks hK hP hD hS ⟨fun h => absurd ⟨c5, c13⟩ h, fun _ => ⟨fun _ => ⟨rfl, ⟨rfl, rfl, rfl, rfl, rfl⟩⟩, fun h => (by exfalso; omega)⟩⟩ dX5_moveMark_42
      · skip
        refine lv_iload_n hex hbc dX5_moveMark_29 rfl (lv_at hl 2 rfl) ?_
        refine lv_aload_n hex hbc dX5_moveMark_30 rfl (lv_at hl 0 rfl) ?_
        refine lv_iload_n hex hbc dX5_moveMark_31 rfl (lv_at hl 1 rfl) ?_
        refine lv_iconst (v := iI 1) hex hbc dX5_moveMark_32 rfl ?_
        refine zt_iadd hex hbc dX5_moveMark_33 ?_
        refine g_calli [.int (iI (x1 + 1))] ⟨hex, hbc, hml, hown, hts⟩ (mX5_frameOf l G cx a σ (x1 + 1) (by omega) hI) (cwV 1 hts gX5_moveMark_X5_frameOf rfl rfl rfl (by decide +kernel) ⟨Nat.le_of_ble_eq_true rfl, Nat.le_of_ble_eq_true rfl⟩) hK hP hD hS (fun _ h => h) 0 5 rfl rfl rfl rfl hl.1 (Nat.le_of_ble_eq_true rfl) dX5_moveMark_34 ⟨Nat.zero_le _, Nat.zero_le _⟩ (fun r_34 u_34 H locs hw_34 hP hD hS hz_34 hk_34 => ?_)
        obtain ⟨rfl, rfl⟩ := hw_34
        refine zt_icmp_lt (a := x2) (b := (fr (σ 0) (x1 + 1))) (tgt := 43) hex hbc (by omega) dX5_moveMark_37 (by decide) (fun c37 => ?_) (fun c37 => ?_)
        · skip
          refine lv_aload_n hex hbc dX5_moveMark_43 rfl (lv_at hl 0 rfl) ?_
          refine g_callv [] ⟨hex, hbc, hml, hown, hts⟩ (mX5_remember l G cx a σ  hN) (cwV 0 hts gX5_moveMark_X5_remember rfl rfl rfl (by decide +kernel) ⟨Nat.le_of_ble_eq_true rfl, Nat.le_of_ble_eq_true rfl⟩) hK hP hD hS (fun _ h => h) 0 5 rfl rfl rfl rfl hl.1 (Nat.le_of_ble_eq_true rfl) dX5_moveMark_44 ⟨Nat.zero_le _, Nat.zero_le _⟩ (fun u_44 H locs hw_44 hP hD hS hz_44 hk_44 => ?_)
          obtain rfl := hw_44
          have hP : va_P G vwCl (wm cx a (sc (sc σ 1 (mpast (σ 1) (σ 0) (σ 2 0))) 2 (ups (σ 2) 0 (mpm (σ 2 0))))) H := hP
          have hD : va_D (MA a) (wm cx a (sc (sc σ 1 (mpast (σ 1) (σ 0) (σ 2 0))) 2 (ups (σ 2) 0 (mpm (σ 2 0))))) := hD
          refine lv_aload_n hex hbc dX5_moveMark_47 rfl (lv_at hl 0 rfl) ?_
          refine va_get (v := .ref (a 1)) hex hbc hts hin5 hown hK hP 0 rfl rfl 0 (by decide) (hts _ (List.mem_of_getElem? (i := 1) rfl)) (fun _ h => h) rfl dX5_moveMark_48 ?_
          refine lv_bipush (v := iI 75) hex hbc dX5_moveMark_51 (by decide) ?_
          refine lv_iload_n hex hbc dX5_moveMark_53 rfl (lv_at hl 1 rfl) ?_
          refine zt_iadd hex hbc dX5_moveMark_54 ?_
          refine g_iald (f := (σ 0)) (v := (σ 0 (75 + x1))) (i := (75 + x1)) hex hbc hK hP 1 0 rfl rfl (by decide) (by omega) rfl dX5_moveMark_55 ?_
          refine lv_istore_n (lv' := [(3, .int (iI (σ 0 (75 + x1)))), (0, .ref (a 0)), (1, .int (iI x1)), (2, .int (iI x2))]) hex hbc dX5_moveMark_56 rfl hl (by decide) rfl (fun ls hl => ?_)
          refine lv_aload_n hex hbc dX5_moveMark_57 rfl (lv_at hl 1 rfl) ?_
          refine va_get (v := .ref (a 1)) hex hbc hts hin5 hown hK hP 0 rfl rfl 0 (by decide) (hts _ (List.mem_of_getElem? (i := 1) rfl)) (fun _ h => h) rfl dX5_moveMark_58 ?_
          refine lv_bipush (v := iI 75) hex hbc dX5_moveMark_61 (by decide) ?_
          refine lv_iload_n hex hbc dX5_moveMark_63 rfl (lv_at hl 2 rfl) ?_
          refine zt_iadd hex hbc dX5_moveMark_64 ?_
          refine lv_iload_n hex hbc dX5_moveMark_65 rfl (lv_at hl 3 rfl) ?_
          have hi_66 : (0 : Int) ≤ (75 + x1) ∧ (75 + x1) < (107 : Int) := (by omega)
          refine g_iast (σ := (sc (sc σ 1 (mpast (σ 1) (σ 0) (σ 2 0))) 2 (ups (σ 2) 0 (mpm (σ 2 0))))) (f := (σ 0)) (i := (75 + x1)) (v := x2) (τ := st (sc (sc σ 1 (mpast (σ 1) (σ 0) (σ 2 0))) 2 (ups (σ 2) 0 (mpm (σ 2 0)))) 0 (75 + x1) x2) hex hbc hK hP hD hS 1 0 rfl rfl (by decide) hi_66 dX5_moveMark_66 (wm_up_1 hi_66) (fun H locs hP hD hS => ?_)
          obtain ⟨f0_66, ef0_66⟩ : ∃ z : Int → Int, z = ups (σ 0) (75 + x1) x2 := ⟨_, rfl⟩
          have hP : va_P G vwCl (wm cx a (sc (sc (sc σ 0 f0_66) 1 (mpast (σ 1) (σ 0) (σ 2 0))) 2 (ups (σ 2) 0 (mpm (σ 2 0))))) H := by rw [ef0_66]; exact hP
          have hD : va_D (MA a) (wm cx a (sc (sc (sc σ 0 f0_66) 1 (mpast (σ 1) (σ 0) (σ 2 0))) 2 (ups (σ 2) 0 (mpm (σ 2 0))))) := by rw [ef0_66]; exact hD
          refine lv_iload_n hex hbc dX5_moveMark_67 rfl (lv_at hl 0 rfl) ?_
          exact g_iret hex hbc hrt hlocks hK hP hD hS ⟨fun h => absurd ⟨c5, c13⟩ h, fun _ => ⟨fun h => absurd ⟨by omega, by omega⟩ h, fun _ => ⟨rfl, ⟨ef0_66, rfl, (show ups (σ 2) 0 (mpm (σ 2 0)) 0 = mpm (σ 2 0) from ups_s _ _ _), (show ups (σ 2) 0 (mpm (σ 2 0)) 1 = σ 2 1 from ups_n _ _ (by decide)), rfl⟩⟩⟩⟩ dX5_moveMark_68
        · skip
          refine lv_bipush (v := iI (-2)) hex hbc dX5_moveMark_40 (by decide) ?_
          exact g_iret hex hbc hrt hlocks hK hP hD hS ⟨fun h => absurd ⟨c5, c13⟩ h, fun _ => ⟨fun _ => ⟨rfl, ⟨rfl, rfl, rfl, rfl, rfl⟩⟩, fun h => (by exfalso; omega)⟩⟩ dX5_moveMark_42
    · skip
      refine lv_iconst (v := iI (-1)) hex hbc dX5_moveMark_16 rfl ?_
      exact g_iret hex hbc hrt hlocks hK hP hD hS ⟨fun _ => ⟨rfl, ⟨rfl, rfl, rfl, rfl, rfl⟩⟩, fun h => (by exfalso; omega)⟩ dX5_moveMark_17
theorem iX5_swap_X5 : ∀ w ∈ wsX50, w ∈ wsX5_swap := fun _ h => List.mem_cons_of_mem _ (List.mem_append_right _ h)
set_option maxHeartbeats 4000000 in
set_option maxRecDepth 100000 in
theorem mX5_swap (l : Launch) (G : va_G) (cx a : Nat → Nat) (σ : Nat → Int → Int)  (x1 : Int) (x2 : Int) (h1 : -2147483648 ≤ x1 ∧ x1 < 2147483648) (h2 : -2147483648 ≤ x2 ∧ x2 < 2147483648) (hN : 0 ≤ σ 2 0 ∧ σ 2 0 ≤ 8) (hI : Inv (σ 0)) : Met l yX5_swap wsX5_swap ({ frames := 2, cells := 0, slots := 0, locals := 43 }) (va_Pc [.ref (a 0), .int (iI x1), .int (iI x2)] (gW G (tm cx) (MA a) (wm cx a) σ)) (va_Qi (fun r u => (((0 ≤ x1 ∧ x1 < σ 0 74) ∧ (0 ≤ x2 ∧ x2 < σ 0 74)) → iI (σ 0 (91 + x2)) = r ∧ MC_ σ u (spx (σ 0) x1 x2)) ∧ (¬ ((0 ≤ x1 ∧ x1 < σ 0 74) ∧ (0 ≤ x2 ∧ x2 < σ 0 74)) → iI (-1) = r ∧ MQ_ σ u)) (gW G (tm cx) (MA a) (wm cx a)) (MA a)) 0 0 (MA a) := by
  refine Met.ofW (cc := cX5_swap) (maxL := 4) (ret := some .int) (by decide) rfl ?_
  intro p e s m args below meth c s₁ B hml hv
  obtain ⟨rfl, hP, hK, hD⟩ := hv
  have hex := B.exec
  have hbc := B.bytes
  have hrt := B.returns
  have hts := atoms_spec (ws := wsX5_swap) B.pre
  have hown : s.vm.findClass RX5 = some m.cls := findClass_of_methodNamed B.named
  have hlocks := B.notSynchronized
  have hS : va_S (MA a) s.heap s.heap [] := va_S.rf
  have hin5 := iX5_swap_X5
  have hl := lv_entry ([.ref (a 0), .int (iI x1), .int (iI x2)]) (n := 4) (Nat.le_of_ble_eq_true rfl)
  rw [lg_entry_eq]
  generalize (lg_sl ([.ref (a 0), .int (iI x1), .int (iI x2)]) ++ List.replicate (4 - (lg_sl ([.ref (a 0), .int (iI x1), .int (iI x2)])).length) Slot.unset).toArray = ls at hl ⊢
  have hl : lv_has ls 4 [(0, .ref (a 0)), (1, .int (iI x1)), (2, .int (iI x2))] := hl
  obtain ⟨hB, hEn, hMk, hAs, hPm⟩ := id hI
  refine lv_aload_n hex hbc dX5_swap_0 rfl (lv_at hl 0 rfl) ?_
  refine lv_iload_n hex hbc dX5_swap_1 rfl (lv_at hl 1 rfl) ?_
  refine g_calli [.int (iI x1)] ⟨hex, hbc, hml, hown, hts⟩ (mX5_isSlice l G cx a σ x1 (by omega) hI) (cwV 1 hts gX5_swap_X5_isSlice rfl rfl rfl (by decide +kernel) ⟨Nat.le_of_ble_eq_true rfl, Nat.le_of_ble_eq_true rfl⟩) hK hP hD hS (fun _ h => h) 0 5 rfl rfl rfl rfl hl.1 (Nat.le_of_ble_eq_true rfl) dX5_swap_2 ⟨Nat.zero_le _, Nat.zero_le _⟩ (fun r_2 u_2 H locs hw_2 hP hD hS hz_2 hk_2 => ?_)
  obtain ⟨rfl, vb2, rfl, hv2⟩ := hw_2
  refine zt_ifb_eq (P := (0 ≤ x1 ∧ x1 < σ 0 74)) (tgt := 16) hex hbc hv2 dX5_swap_5 (by decide) (fun c5 => ?_) (fun c5 => ?_)
  · skip
    refine lv_iconst (v := iI (-1)) hex hbc dX5_swap_16 rfl ?_
    exact g_iret hex hbc hrt hlocks hK hP hD hS ⟨fun h => (by exfalso; omega), fun _ => ⟨rfl, ⟨rfl, rfl, rfl, rfl, rfl⟩⟩⟩ dX5_swap_17
  · skip
    refine lv_aload_n hex hbc dX5_swap_8 rfl (lv_at hl 0 rfl) ?_
    refine lv_iload_n hex hbc dX5_swap_9 rfl (lv_at hl 2 rfl) ?_
    refine g_calli [.int (iI x2)] ⟨hex, hbc, hml, hown, hts⟩ (mX5_isSlice l G cx a σ x2 (by omega) hI) (cwV 1 hts gX5_swap_X5_isSlice rfl rfl rfl (by decide +kernel) ⟨Nat.le_of_ble_eq_true rfl, Nat.le_of_ble_eq_true rfl⟩) hK hP hD hS (fun _ h => h) 0 5 rfl rfl rfl rfl hl.1 (Nat.le_of_ble_eq_true rfl) dX5_swap_10 ⟨Nat.zero_le _, Nat.zero_le _⟩ (fun r_10 u_10 H locs hw_10 hP hD hS hz_10 hk_10 => ?_)
    obtain ⟨rfl, vb10, rfl, hv10⟩ := hw_10
    refine zt_ifb_ne (P := (0 ≤ x2 ∧ x2 < σ 0 74)) (tgt := 18) hex hbc hv10 dX5_swap_13 (by decide) (fun c13 => ?_) (fun c13 => ?_)
    · skip
      refine lv_aload_n hex hbc dX5_swap_18 rfl (lv_at hl 0 rfl) ?_
      refine g_callv [] ⟨hex, hbc, hml, hown, hts⟩ (mX5_remember l G cx a σ  hN) (cwV 0 hts gX5_swap_X5_remember rfl rfl rfl (by decide +kernel) ⟨Nat.le_of_ble_eq_true rfl, Nat.le_of_ble_eq_true rfl⟩) hK hP hD hS (fun _ h => h) 0 5 rfl rfl rfl rfl hl.1 (Nat.le_of_ble_eq_true rfl) dX5_swap_19 ⟨Nat.zero_le _, Nat.zero_le _⟩ (fun u_19 H locs hw_19 hP hD hS hz_19 hk_19 => ?_)
      obtain rfl := hw_19
      have hP : va_P G vwCl (wm cx a (sc (sc σ 1 (mpast (σ 1) (σ 0) (σ 2 0))) 2 (ups (σ 2) 0 (mpm (σ 2 0))))) H := hP
      have hD : va_D (MA a) (wm cx a (sc (sc σ 1 (mpast (σ 1) (σ 0) (σ 2 0))) 2 (ups (σ 2) 0 (mpm (σ 2 0))))) := hD
      refine lv_aload_n hex hbc dX5_swap_22 rfl (lv_at hl 0 rfl) ?_
      refine va_get (v := .ref (a 1)) hex hbc hts hin5 hown hK hP 0 rfl rfl 0 (by decide) (hts _ (List.mem_of_getElem? (i := 1) rfl)) (fun _ h => h) rfl dX5_swap_23 ?_
      refine lv_bipush (v := iI 91) hex hbc dX5_swap_26 (by decide) ?_
      refine lv_iload_n hex hbc dX5_swap_28 rfl (lv_at hl 1 rfl) ?_
      refine zt_iadd hex hbc dX5_swap_29 ?_
      refine g_iald (f := (σ 0)) (v := (σ 0 (91 + x1))) (i := (91 + x1)) hex hbc hK hP 1 0 rfl rfl (by decide) (by omega) rfl dX5_swap_30 ?_
      refine lv_istore_n (lv' := [(3, .int (iI (σ 0 (91 + x1)))), (0, .ref (a 0)), (1, .int (iI x1)), (2, .int (iI x2))]) hex hbc dX5_swap_31 rfl hl (by decide) rfl (fun ls hl => ?_)
      refine lv_aload_n hex hbc dX5_swap_32 rfl (lv_at hl 1 rfl) ?_
      refine va_get (v := .ref (a 1)) hex hbc hts hin5 hown hK hP 0 rfl rfl 0 (by decide) (hts _ (List.mem_of_getElem? (i := 1) rfl)) (fun _ h => h) rfl dX5_swap_33 ?_
      refine lv_bipush (v := iI 91) hex hbc dX5_swap_36 (by decide) ?_
      refine lv_iload_n hex hbc dX5_swap_38 rfl (lv_at hl 2 rfl) ?_
      refine zt_iadd hex hbc dX5_swap_39 ?_
      refine lv_aload_n hex hbc dX5_swap_40 rfl (lv_at hl 1 rfl) ?_
      refine va_get (v := .ref (a 1)) hex hbc hts hin5 hown hK hP 0 rfl rfl 0 (by decide) (hts _ (List.mem_of_getElem? (i := 1) rfl)) (fun _ h => h) rfl dX5_swap_41 ?_
      refine lv_bipush (v := iI 91) hex hbc dX5_swap_44 (by decide) ?_
      refine lv_iload_n hex hbc dX5_swap_46 rfl (lv_at hl 3 rfl) ?_
      refine zt_iadd hex hbc dX5_swap_47 ?_
      refine g_iald (f := (σ 0)) (v := (σ 0 (91 + x2))) (i := (91 + x2)) hex hbc hK hP 1 0 rfl rfl (by decide) (by omega) rfl dX5_swap_48 ?_
      have hi_49 : (0 : Int) ≤ (91 + x1) ∧ (91 + x1) < (107 : Int) := (by omega)
      refine g_iast (σ := (sc (sc σ 1 (mpast (σ 1) (σ 0) (σ 2 0))) 2 (ups (σ 2) 0 (mpm (σ 2 0))))) (f := (σ 0)) (i := (91 + x1)) (v := (σ 0 (91 + x2))) (τ := st (sc (sc σ 1 (mpast (σ 1) (σ 0) (σ 2 0))) 2 (ups (σ 2) 0 (mpm (σ 2 0)))) 0 (91 + x1) (σ 0 (91 + x2))) hex hbc hK hP hD hS 1 0 rfl rfl (by decide) hi_49 dX5_swap_49 (wm_up_1 hi_49) (fun H locs hP hD hS => ?_)
      obtain ⟨f0_49, ef0_49⟩ : ∃ z : Int → Int, z = ups (σ 0) (91 + x1) (σ 0 (91 + x2)) := ⟨_, rfl⟩
      have hP : va_P G vwCl (wm cx a (sc (sc (sc σ 0 f0_49) 1 (mpast (σ 1) (σ 0) (σ 2 0))) 2 (ups (σ 2) 0 (mpm (σ 2 0))))) H := by rw [ef0_49]; exact hP
      have hD : va_D (MA a) (wm cx a (sc (sc (sc σ 0 f0_49) 1 (mpast (σ 1) (σ 0) (σ 2 0))) 2 (ups (σ 2) 0 (mpm (σ 2 0))))) := by rw [ef0_49]; exact hD
      refine lv_aload_n hex hbc dX5_swap_50 rfl (lv_at hl 1 rfl) ?_
      refine va_get (v := .ref (a 1)) hex hbc hts hin5 hown hK hP 0 rfl rfl 0 (by decide) (hts _ (List.mem_of_getElem? (i := 1) rfl)) (fun _ h => h) rfl dX5_swap_51 ?_
      refine lv_bipush (v := iI 91) hex hbc dX5_swap_54 (by decide) ?_
      refine lv_iload_n hex hbc dX5_swap_56 rfl (lv_at hl 3 rfl) ?_
      refine zt_iadd hex hbc dX5_swap_57 ?_
      refine lv_iload_n hex hbc dX5_swap_58 rfl (lv_at hl 0 rfl) ?_
      have hi_59 : (0 : Int) ≤ (91 + x2) ∧ (91 + x2) < (107 : Int) := (by omega)
      refine g_iast (σ := (sc (sc (sc σ 0 f0_49) 1 (mpast (σ 1) (σ 0) (σ 2 0))) 2 (ups (σ 2) 0 (mpm (σ 2 0))))) (f := f0_49) (i := (91 + x2)) (v := (σ 0 (91 + x1))) (τ := st (sc (sc (sc σ 0 f0_49) 1 (mpast (σ 1) (σ 0) (σ 2 0))) 2 (ups (σ 2) 0 (mpm (σ 2 0)))) 0 (91 + x2) (σ 0 (91 + x1))) hex hbc hK hP hD hS 1 0 rfl rfl (by decide) hi_59 dX5_swap_59 (wm_up_1 hi_59) (fun H locs hP hD hS => ?_)
      obtain ⟨f0_59, ef0_59⟩ : ∃ z : Int → Int, z = ups f0_49 (91 + x2) (σ 0 (91 + x1)) := ⟨_, rfl⟩
      have hP : va_P G vwCl (wm cx a (sc (sc (sc σ 0 f0_59) 1 (mpast (σ 1) (σ 0) (σ 2 0))) 2 (ups (σ 2) 0 (mpm (σ 2 0))))) H := by rw [ef0_59]; exact hP
      have hD : va_D (MA a) (wm cx a (sc (sc (sc σ 0 f0_59) 1 (mpast (σ 1) (σ 0) (σ 2 0))) 2 (ups (σ 2) 0 (mpm (σ 2 0))))) := by rw [ef0_59]; exact hD
      refine lv_aload_n hex hbc dX5_swap_60 rfl (lv_at hl 1 rfl) ?_
      refine va_get (v := .ref (a 1)) hex hbc hts hin5 hown hK hP 0 rfl rfl 0 (by decide) (hts _ (List.mem_of_getElem? (i := 1) rfl)) (fun _ h => h) rfl dX5_swap_61 ?_
      refine lv_bipush (v := iI 91) hex hbc dX5_swap_64 (by decide) ?_
      refine lv_iload_n hex hbc dX5_swap_66 rfl (lv_at hl 2 rfl) ?_
      refine zt_iadd hex hbc dX5_swap_67 ?_
      refine g_iald (f := f0_59) (v := (f0_59 (91 + x1))) (i := (91 + x1)) hex hbc hK hP 1 0 rfl rfl (by decide) (by omega) rfl dX5_swap_68 ?_
      refine zt_nm (a := (f0_59 (91 + x1))) (b := (σ 0 (91 + x2))) (by rw [ef0_59, ef0_49]; unfold ups; (repeat' split) <;> first | omega | exact congrArg _ (by omega)) ?_
      exact g_iret hex hbc hrt hlocks hK hP hD hS ⟨fun _ => ⟨rfl, ⟨(by rw [ef0_59, ef0_49]; rfl), rfl, (show ups (σ 2) 0 (mpm (σ 2 0)) 0 = mpm (σ 2 0) from ups_s _ _ _), (show ups (σ 2) 0 (mpm (σ 2 0)) 1 = σ 2 1 from ups_n _ _ (by decide)), rfl⟩⟩, fun h => absurd ⟨c5, c13⟩ h⟩ dX5_swap_69
    · skip
      refine lv_iconst (v := iI (-1)) hex hbc dX5_swap_16 rfl ?_
      exact g_iret hex hbc hrt hlocks hK hP hD hS ⟨fun h => (by exfalso; omega), fun _ => ⟨rfl, ⟨rfl, rfl, rfl, rfl, rfl⟩⟩⟩ dX5_swap_17
theorem iX5_reverse_X5 : ∀ w ∈ wsX50, w ∈ wsX5_reverse := fun _ h => List.mem_cons_of_mem _ (List.mem_append_right _ h)
set_option maxHeartbeats 4000000 in
set_option maxRecDepth 100000 in
theorem mX5_reverse (l : Launch) (G : va_G) (cx a : Nat → Nat) (σ : Nat → Int → Int)   (hN : 0 ≤ σ 2 0 ∧ σ 2 0 ≤ 8) (hI : Inv (σ 0)) : Met l yX5_reverse wsX5_reverse ({ frames := 1, cells := 0, slots := 0, locals := 21 }) (va_Pc [.ref (a 0)] (gW G (tm cx) (MA a) (wm cx a) σ)) (va_Qi (fun r u => iI (σ 0 (91 + (σ 0 74 - 1))) = r ∧ MC_ σ u (spV (σ 0))) (gW G (tm cx) (MA a) (wm cx a)) (MA a)) 0 0 (MA a) := by
  refine Met.ofW (cc := cX5_reverse) (maxL := 4) (ret := some .int) (by decide) rfl ?_
  intro p e s m args below meth c s₁ B hml hv
  obtain ⟨rfl, hP, hK, hD⟩ := hv
  have hex := B.exec
  have hbc := B.bytes
  have hrt := B.returns
  have hts := atoms_spec (ws := wsX5_reverse) B.pre
  have hown : s.vm.findClass RX5 = some m.cls := findClass_of_methodNamed B.named
  have hlocks := B.notSynchronized
  have hS : va_S (MA a) s.heap s.heap [] := va_S.rf
  have hin5 := iX5_reverse_X5
  have hl := lv_entry ([.ref (a 0)]) (n := 4) (Nat.le_of_ble_eq_true rfl)
  rw [lg_entry_eq]
  generalize (lg_sl ([.ref (a 0)]) ++ List.replicate (4 - (lg_sl ([.ref (a 0)])).length) Slot.unset).toArray = ls at hl ⊢
  have hl : lv_has ls 4 [(0, .ref (a 0))] := hl
  obtain ⟨hB, hEn, hMk, hAs, hPm⟩ := id hI
  refine lv_aload_n hex hbc dX5_reverse_0 rfl (lv_at hl 0 rfl) ?_
  refine g_callv [] ⟨hex, hbc, hml, hown, hts⟩ (mX5_remember l G cx a σ  hN) (cwV 0 hts gX5_reverse_X5_remember rfl rfl rfl (by decide +kernel) ⟨Nat.le_of_ble_eq_true rfl, Nat.le_of_ble_eq_true rfl⟩) hK hP hD hS (fun _ h => h) 0 5 rfl rfl rfl rfl hl.1 (Nat.le_of_ble_eq_true rfl) dX5_reverse_1 ⟨Nat.zero_le _, Nat.zero_le _⟩ (fun u_1 H locs hw_1 hP hD hS hz_1 hk_1 => ?_)
  obtain rfl := hw_1
  have hP : va_P G vwCl (wm cx a (sc (sc σ 1 (mpast (σ 1) (σ 0) (σ 2 0))) 2 (ups (σ 2) 0 (mpm (σ 2 0))))) H := hP
  have hD : va_D (MA a) (wm cx a (sc (sc σ 1 (mpast (σ 1) (σ 0) (σ 2 0))) 2 (ups (σ 2) 0 (mpm (σ 2 0))))) := hD
  refine lv_aload_n hex hbc dX5_reverse_4 rfl (lv_at hl 0 rfl) ?_
  refine va_get (v := .ref (a 1)) hex hbc hts hin5 hown hK hP 0 rfl rfl 0 (by decide) (hts _ (List.mem_of_getElem? (i := 1) rfl)) (fun _ h => h) rfl dX5_reverse_5 ?_
  refine lv_bipush (v := iI 74) hex hbc dX5_reverse_8 (by decide) ?_
  refine g_iald (f := (σ 0)) (v := (σ 0 74)) (i := 74) hex hbc hK hP 1 0 rfl rfl (by decide) (by omega) rfl dX5_reverse_10 ?_
  refine lv_istore_n (lv' := [(1, .int (iI (σ 0 74))), (0, .ref (a 0))]) hex hbc dX5_reverse_11 rfl hl (by decide) rfl (fun ls hl => ?_)
  refine lv_iconst (v := iI 0) hex hbc dX5_reverse_12 rfl ?_
  refine lv_istore_n (lv' := [(2, .int (iI 0)), (1, .int (iI (σ 0 74))), (0, .ref (a 0))]) hex hbc dX5_reverse_13 rfl hl (by decide) rfl (fun ls hl => ?_)
  have loop_14 : ∀ (N : Nat) (i1 : Int) (w1 : Int → Int), (0 ≤ i1 ∧ i1 ≤ σ 0 74 / 2 ∧ ∀ k, w1 k = if (91 ≤ k ∧ k < 91 + i1) ∨ (91 + σ 0 74 - i1 ≤ k ∧ k < 91 + σ 0 74) then σ 0 (91 + (σ 0 74 - 1 - (k - 91))) else σ 0 k) → (16 - i1) < (N : Int) → ∀ (H : Heap) (locs : List Loc) (ls : Array Slot), va_P G vwCl (wm cx a (sc (sc (sc σ 0 w1) 1 (mpast (σ 1) (σ 0) (σ 2 0))) 2 (ups (σ 2) 0 (mpm (σ 2 0))))) H → va_D (MA a) (wm cx a (sc (sc (sc σ 0 w1) 1 (mpast (σ 1) (σ 0) (σ 2 0))) 2 (ups (σ 2) 0 (mpm (σ 2 0))))) → va_S (MA a) s.heap H locs → lv_has ls 4 [(2, .int (iI i1)), (1, .int (iI (σ 0 74))), (0, .ref (a 0))] → W p l e (headSpec wsX5_reverse ({ frames := 1, cells := 0, slots := 0, locals := 21 })).room s m ([.ref (a 0)] : List Value).toArray below meth c H locs 0 0 (MQ below (va_Qi (fun r u => iI (σ 0 (91 + (σ 0 74 - 1))) = r ∧ MC_ σ u (spV (σ 0))) (gW G (tm cx) (MA a) (wm cx a)) (MA a)) ([.ref (a 0)] : List Value).toArray s 0 0 (MA a)) (F0 m 14 ls []) := by
    intro N
    induction N with
    | zero => intro i1 w1 hinv hlt; exfalso; omega
    | succ N ih_14 =>
      intro i1 w1 ⟨hi0, hi1, hw⟩ hlt_14 H locs ls hP hD hS hl
      refine lv_iload_n hex hbc dX5_reverse_14 rfl (lv_at hl 0 rfl) ?_
      refine lv_iload_n hex hbc dX5_reverse_15 rfl (lv_at hl 1 rfl) ?_
      refine lv_iconst (v := iI 2) hex hbc dX5_reverse_16 rfl ?_
      refine zt_idiv (a := (σ 0 74)) (b := 2) hex hbc (by omega) dX5_reverse_17 ?_
      refine zt_icmp_ge (a := i1) (b := ((σ 0 74) / 2)) (tgt := 73) hex hbc (by omega) dX5_reverse_18 (by decide) (fun c18 => ?_) (fun c18 => ?_)
      · skip
        refine lv_aload_n hex hbc dX5_reverse_73 rfl (lv_at hl 2 rfl) ?_
        refine va_get (v := .ref (a 1)) hex hbc hts hin5 hown hK hP 0 rfl rfl 0 (by decide) (hts _ (List.mem_of_getElem? (i := 1) rfl)) (fun _ h => h) rfl dX5_reverse_74 ?_
        refine lv_bipush (v := iI 91) hex hbc dX5_reverse_77 (by decide) ?_
        refine g_iald (f := w1) (v := (w1 91)) (i := 91) hex hbc hK hP 1 0 rfl rfl (by decide) (by omega) rfl dX5_reverse_79 ?_
        refine zt_nm (a := (w1 91)) (b := (σ 0 (91 + (σ 0 74 - 1)))) (by rw [hw]; (repeat' split) <;> first | omega | exact congrArg _ (by omega)) ?_
        exact g_iret hex hbc hrt hlocks hK hP hD hS ⟨rfl, ⟨(funext fun k => by show w1 k = _; rw [hw k]; unfold spV; (repeat' split) <;> first | omega | exact congrArg _ (by omega)), rfl, (show ups (σ 2) 0 (mpm (σ 2 0)) 0 = mpm (σ 2 0) from ups_s _ _ _), (show ups (σ 2) 0 (mpm (σ 2 0)) 1 = σ 2 1 from ups_n _ _ (by decide)), rfl⟩⟩ dX5_reverse_80
      · skip
        refine lv_aload_n hex hbc dX5_reverse_21 rfl (lv_at hl 2 rfl) ?_
        refine va_get (v := .ref (a 1)) hex hbc hts hin5 hown hK hP 0 rfl rfl 0 (by decide) (hts _ (List.mem_of_getElem? (i := 1) rfl)) (fun _ h => h) rfl dX5_reverse_22 ?_
        refine lv_bipush (v := iI 91) hex hbc dX5_reverse_25 (by decide) ?_
        refine lv_iload_n hex hbc dX5_reverse_27 rfl (lv_at hl 0 rfl) ?_
        refine zt_iadd hex hbc dX5_reverse_28 ?_
        refine g_iald (f := w1) (v := (w1 (91 + i1))) (i := (91 + i1)) hex hbc hK hP 1 0 rfl rfl (by decide) (by omega) rfl dX5_reverse_29 ?_
        refine zt_nm (a := (w1 (91 + i1))) (b := (σ 0 (91 + i1))) (by rw [hw]; exact if_neg (by omega)) ?_
        refine lv_istore_n (lv' := [(3, .int (iI (σ 0 (91 + i1)))), (2, .int (iI i1)), (1, .int (iI (σ 0 74))), (0, .ref (a 0))]) hex hbc dX5_reverse_30 rfl hl (by decide) rfl (fun ls hl => ?_)
        refine lv_aload_n hex hbc dX5_reverse_31 rfl (lv_at hl 3 rfl) ?_
        refine va_get (v := .ref (a 1)) hex hbc hts hin5 hown hK hP 0 rfl rfl 0 (by decide) (hts _ (List.mem_of_getElem? (i := 1) rfl)) (fun _ h => h) rfl dX5_reverse_32 ?_
        refine lv_bipush (v := iI 91) hex hbc dX5_reverse_35 (by decide) ?_
        refine lv_iload_n hex hbc dX5_reverse_37 rfl (lv_at hl 1 rfl) ?_
        refine zt_iadd hex hbc dX5_reverse_38 ?_
        refine lv_aload_n hex hbc dX5_reverse_39 rfl (lv_at hl 3 rfl) ?_
        refine va_get (v := .ref (a 1)) hex hbc hts hin5 hown hK hP 0 rfl rfl 0 (by decide) (hts _ (List.mem_of_getElem? (i := 1) rfl)) (fun _ h => h) rfl dX5_reverse_40 ?_
        refine lv_bipush (v := iI 91) hex hbc dX5_reverse_43 (by decide) ?_
        refine lv_iload_n hex hbc dX5_reverse_45 rfl (lv_at hl 2 rfl) ?_
        refine zt_iadd hex hbc dX5_reverse_46 ?_
        refine lv_iconst (v := iI 1) hex hbc dX5_reverse_47 rfl ?_
        refine zt_isub hex hbc dX5_reverse_48 ?_
        refine lv_iload_n hex hbc dX5_reverse_49 rfl (lv_at hl 1 rfl) ?_
        refine zt_isub hex hbc dX5_reverse_50 ?_
        refine g_iald (f := w1) (v := (w1 (((91 + (σ 0 74)) - 1) - i1))) (i := (((91 + (σ 0 74)) - 1) - i1)) hex hbc hK hP 1 0 rfl rfl (by decide) (by omega) rfl dX5_reverse_51 ?_
        refine zt_nm (a := (w1 (((91 + (σ 0 74)) - 1) - i1))) (b := (σ 0 (91 + σ 0 74 - 1 - i1))) (by rw [hw]; exact if_neg (by omega)) ?_
        have hi_52 : (0 : Int) ≤ (91 + i1) ∧ (91 + i1) < (107 : Int) := (by omega)
        refine g_iast (σ := (sc (sc (sc σ 0 w1) 1 (mpast (σ 1) (σ 0) (σ 2 0))) 2 (ups (σ 2) 0 (mpm (σ 2 0))))) (f := w1) (i := (91 + i1)) (v := (σ 0 (91 + σ 0 74 - 1 - i1))) (τ := st (sc (sc (sc σ 0 w1) 1 (mpast (σ 1) (σ 0) (σ 2 0))) 2 (ups (σ 2) 0 (mpm (σ 2 0)))) 0 (91 + i1) (σ 0 (91 + σ 0 74 - 1 - i1))) hex hbc hK hP hD hS 1 0 rfl rfl (by decide) hi_52 dX5_reverse_52 (wm_up_1 hi_52) (fun H locs hP hD hS => ?_)
        obtain ⟨f0_52, ef0_52⟩ : ∃ z : Int → Int, z = ups w1 (91 + i1) (σ 0 (91 + σ 0 74 - 1 - i1)) := ⟨_, rfl⟩
        have hP : va_P G vwCl (wm cx a (sc (sc (sc σ 0 f0_52) 1 (mpast (σ 1) (σ 0) (σ 2 0))) 2 (ups (σ 2) 0 (mpm (σ 2 0))))) H := by rw [ef0_52]; exact hP
        have hD : va_D (MA a) (wm cx a (sc (sc (sc σ 0 f0_52) 1 (mpast (σ 1) (σ 0) (σ 2 0))) 2 (ups (σ 2) 0 (mpm (σ 2 0))))) := by rw [ef0_52]; exact hD
        refine lv_aload_n hex hbc dX5_reverse_53 rfl (lv_at hl 3 rfl) ?_
        refine va_get (v := .ref (a 1)) hex hbc hts hin5 hown hK hP 0 rfl rfl 0 (by decide) (hts _ (List.mem_of_getElem? (i := 1) rfl)) (fun _ h => h) rfl dX5_reverse_54 ?_
        refine lv_bipush (v := iI 91) hex hbc dX5_reverse_57 (by decide) ?_
        refine lv_iload_n hex hbc dX5_reverse_59 rfl (lv_at hl 2 rfl) ?_
        refine zt_iadd hex hbc dX5_reverse_60 ?_
        refine lv_iconst (v := iI 1) hex hbc dX5_reverse_61 rfl ?_
        refine zt_isub hex hbc dX5_reverse_62 ?_
        refine lv_iload_n hex hbc dX5_reverse_63 rfl (lv_at hl 1 rfl) ?_
        refine zt_isub hex hbc dX5_reverse_64 ?_
        refine lv_iload_n hex hbc dX5_reverse_65 rfl (lv_at hl 0 rfl) ?_
        have hi_66 : (0 : Int) ≤ (((91 + (σ 0 74)) - 1) - i1) ∧ (((91 + (σ 0 74)) - 1) - i1) < (107 : Int) := (by omega)
        refine g_iast (σ := (sc (sc (sc σ 0 f0_52) 1 (mpast (σ 1) (σ 0) (σ 2 0))) 2 (ups (σ 2) 0 (mpm (σ 2 0))))) (f := f0_52) (i := (((91 + (σ 0 74)) - 1) - i1)) (v := (σ 0 (91 + i1))) (τ := st (sc (sc (sc σ 0 f0_52) 1 (mpast (σ 1) (σ 0) (σ 2 0))) 2 (ups (σ 2) 0 (mpm (σ 2 0)))) 0 (((91 + (σ 0 74)) - 1) - i1) (σ 0 (91 + i1))) hex hbc hK hP hD hS 1 0 rfl rfl (by decide) hi_66 dX5_reverse_66 (wm_up_1 hi_66) (fun H locs hP hD hS => ?_)
        obtain ⟨f0_66, ef0_66⟩ : ∃ z : Int → Int, z = ups f0_52 (((91 + (σ 0 74)) - 1) - i1) (σ 0 (91 + i1)) := ⟨_, rfl⟩
        have hP : va_P G vwCl (wm cx a (sc (sc (sc σ 0 f0_66) 1 (mpast (σ 1) (σ 0) (σ 2 0))) 2 (ups (σ 2) 0 (mpm (σ 2 0))))) H := by rw [ef0_66]; exact hP
        have hD : va_D (MA a) (wm cx a (sc (sc (sc σ 0 f0_66) 1 (mpast (σ 1) (σ 0) (σ 2 0))) 2 (ups (σ 2) 0 (mpm (σ 2 0))))) := by rw [ef0_66]; exact hD
        refine lv_iinc (v := iI (i1 + 1)) (lv' := [(2, .int (iI (i1 + 1))), (3, .int (iI (σ 0 (91 + i1)))), (1, .int (iI (σ 0 74))), (0, .ref (a 0))]) hex hbc dX5_reverse_67 hl (k := 1) rfl (iI_add _ _) (by decide) rfl (fun ls hl => ?_)
        refine lv_goto (tgt := 14) hex hbc dX5_reverse_70 (by decide) ?_
        exact ih_14 (i1 + 1) f0_66 ⟨by omega, by omega, fun k => by rw [ef0_66]; unfold ups; rw [ef0_52]; unfold ups; rw [hw k]; (repeat' split) <;> first | omega | exact congrArg _ (by omega)⟩ (by omega) _ _ _ hP hD hS (lv_sub hl [0, 2, 3] rfl)
  exact loop_14 _ 0 (σ 0) ⟨by omega, by omega, fun k => (if_neg (by omega)).symm⟩ (mz_lt _) _ _ _ hP hD hS (lv_sub hl [0, 1, 2] rfl)
theorem iX5_undo_X5 : ∀ w ∈ wsX50, w ∈ wsX5_undo := fun _ h => List.mem_cons_of_mem _ (List.mem_append_right _ h)
set_option maxHeartbeats 4000000 in
set_option maxRecDepth 100000 in
theorem mX5_undo (l : Launch) (G : va_G) (cx a : Nat → Nat) (σ : Nat → Int → Int)   (hN : 0 ≤ σ 2 0 ∧ σ 2 0 ≤ 8) (hI : Inv (σ 0)) : Met l yX5_undo wsX5_undo ({ frames := 0, cells := 0, slots := 0, locals := 0 }) (va_Pc [.ref (a 0)] (gW G (tm cx) (MA a) (wm cx a) σ)) (va_Qi (fun r u => (σ 2 0 = 0 → iI (-2) = r ∧ MQ_ σ u) ∧ (σ 2 0 ≠ 0 → iI (σ 2 0 - 1) = r ∧ u 0 = cpo (σ 0) (σ 1) (107 * (σ 2 0 - 1)) ∧ u 1 = σ 1 ∧ u 2 0 = σ 2 0 - 1 ∧ u 2 1 = σ 2 1 ∧ u 3 = σ 3)) (gW G (tm cx) (MA a) (wm cx a)) (MA a)) 0 0 (MA a) := by
  refine Met.ofW (cc := cX5_undo) (maxL := 2) (ret := some .int) (by decide) rfl ?_
  intro p e s m args below meth c s₁ B hml hv
  obtain ⟨rfl, hP, hK, hD⟩ := hv
  have hex := B.exec
  have hbc := B.bytes
  have hrt := B.returns
  have hts := atoms_spec (ws := wsX5_undo) B.pre
  have hown : s.vm.findClass RX5 = some m.cls := findClass_of_methodNamed B.named
  have hlocks := B.notSynchronized
  have hS : va_S (MA a) s.heap s.heap [] := va_S.rf
  have hin5 := iX5_undo_X5
  have hl := lv_entry ([.ref (a 0)]) (n := 2) (Nat.le_of_ble_eq_true rfl)
  rw [lg_entry_eq]
  generalize (lg_sl ([.ref (a 0)]) ++ List.replicate (2 - (lg_sl ([.ref (a 0)])).length) Slot.unset).toArray = ls at hl ⊢
  have hl : lv_has ls 2 [(0, .ref (a 0))] := hl
  obtain ⟨hB, hEn, hMk, hAs, hPm⟩ := id hI
  refine lv_aload_n hex hbc dX5_undo_0 rfl (lv_at hl 0 rfl) ?_
  refine va_get (v := .int (iI (σ 2 0))) hex hbc hts hin5 hown hK hP 0 rfl rfl 2 (by decide) (hts _ (List.mem_of_getElem? (i := 1) rfl)) (fun _ h => h) rfl dX5_undo_1 ?_
  refine zt_if_ne (a := (σ 2 0)) (tgt := 10) hex hbc (by omega) dX5_undo_4 (by decide) (fun c4 => ?_) (fun c4 => ?_)
  · skip
    refine lv_aload_n hex hbc dX5_undo_10 rfl (lv_at hl 0 rfl) ?_
    refine lv_dup hex hbc dX5_undo_11 rfl ?_
    refine va_get (v := .int (iI (σ 2 0))) hex hbc hts hin5 hown hK hP 0 rfl rfl 2 (by decide) (hts _ (List.mem_of_getElem? (i := 1) rfl)) (fun _ h => h) rfl dX5_undo_12 ?_
    refine lv_iconst (v := iI 1) hex hbc dX5_undo_15 rfl ?_
    refine zt_isub hex hbc dX5_undo_16 ?_
    refine va_put hex hbc hts hin5 tyX5 tyX5_ok nmX5 hown hK hP hD hS 0 rfl rfl 2 (by decide) (hts _ (List.mem_of_getElem? (i := 1) rfl)) (fun _ h => h) rfl (tyX5_ok 2 (by decide)) rfl rfl (Nat.le_of_ble_eq_true rfl) dX5_undo_17 (fun H locs hP hD hS => ?_)
    have hP := leW_P (wm_pf_0_2 (G := G) (cx := cx) (a := a) (σ := σ)) hP
    have hD := leW_D (wm_pf_0_2 (G := G) (cx := cx) (a := a) (σ := σ)) hD
    obtain ⟨f2_17, ef2_17⟩ : ∃ z : Int → Int, z = ups (σ 2) 0 ((σ 2 0) - 1) := ⟨_, rfl⟩
    have hP : va_P G vwCl (wm cx a (sc σ 2 f2_17)) H := by rw [ef2_17]; exact hP
    have hD : va_D (MA a) (wm cx a (sc σ 2 f2_17)) := by rw [ef2_17]; exact hD
    refine lv_iconst (v := iI 0) hex hbc dX5_undo_20 rfl ?_
    refine lv_istore_n (lv' := [(1, .int (iI 0)), (0, .ref (a 0))]) hex hbc dX5_undo_21 rfl hl (by decide) rfl (fun ls hl => ?_)
    have loop_22 : ∀ (N : Nat) (i1 : Int) (w1 : Int → Int), (0 ≤ i1 ∧ i1 ≤ 107 ∧ ∀ k, w1 k = if 0 ≤ k ∧ k < i1 then σ 1 (107 * (σ 2 0 - 1) + k) else σ 0 k) → (107 - i1) < (N : Int) → ∀ (H : Heap) (locs : List Loc) (ls : Array Slot), va_P G vwCl (wm cx a (sc (sc σ 0 w1) 2 f2_17)) H → va_D (MA a) (wm cx a (sc (sc σ 0 w1) 2 f2_17)) → va_S (MA a) s.heap H locs → lv_has ls 2 [(1, .int (iI i1)), (0, .ref (a 0))] → W p l e (headSpec wsX5_undo ({ frames := 0, cells := 0, slots := 0, locals := 0 })).room s m ([.ref (a 0)] : List Value).toArray below meth c H locs 0 0 (MQ below (va_Qi (fun r u => (σ 2 0 = 0 → iI (-2) = r ∧ MQ_ σ u) ∧ (σ 2 0 ≠ 0 → iI (σ 2 0 - 1) = r ∧ u 0 = cpo (σ 0) (σ 1) (107 * (σ 2 0 - 1)) ∧ u 1 = σ 1 ∧ u 2 0 = σ 2 0 - 1 ∧ u 2 1 = σ 2 1 ∧ u 3 = σ 3)) (gW G (tm cx) (MA a) (wm cx a)) (MA a)) ([.ref (a 0)] : List Value).toArray s 0 0 (MA a)) (F0 m 22 ls []) := by
      intro N
      induction N with
      | zero => intro i1 w1 hinv hlt; exfalso; omega
      | succ N ih_22 =>
        intro i1 w1 ⟨hi0, hi1, hw⟩ hlt_22 H locs ls hP hD hS hl
        refine lv_iload_n hex hbc dX5_undo_22 rfl (lv_at hl 0 rfl) ?_
        refine lv_bipush (v := iI 107) hex hbc dX5_undo_23 (by decide) ?_
        refine zt_icmp_ge (a := i1) (b := 107) (tgt := 54) hex hbc (by omega) dX5_undo_25 (by decide) (fun c25 => ?_) (fun c25 => ?_)
        · skip
          refine lv_aload_n hex hbc dX5_undo_54 rfl (lv_at hl 1 rfl) ?_
          refine va_get (v := .int (iI (f2_17 0))) hex hbc hts hin5 hown hK hP 0 rfl rfl 2 (by decide) (hts _ (List.mem_of_getElem? (i := 1) rfl)) (fun _ h => h) rfl dX5_undo_55 ?_
          refine zt_nm (a := (f2_17 0)) (b := (σ 2 0 - 1)) (by rw [ef2_17, ups_s]) ?_
          exact g_iret hex hbc hrt hlocks hK hP hD hS ⟨fun h => absurd h c4, fun _ => ⟨rfl, (funext fun k => by show w1 k = _; rw [hw k]; unfold cpo; (repeat' split) <;> first | omega | exact congrArg _ (by omega)), rfl, (by show f2_17 0 = _; rw [ef2_17, ups_s]), (by show f2_17 1 = _; rw [ef2_17, ups_n _ _ (by omega)]), rfl⟩⟩ dX5_undo_58
        · skip
          refine lv_aload_n hex hbc dX5_undo_28 rfl (lv_at hl 1 rfl) ?_
          refine va_get (v := .ref (a 1)) hex hbc hts hin5 hown hK hP 0 rfl rfl 0 (by decide) (hts _ (List.mem_of_getElem? (i := 2) rfl)) (fun _ h => h) rfl dX5_undo_29 ?_
          refine lv_iload_n hex hbc dX5_undo_32 rfl (lv_at hl 0 rfl) ?_
          refine lv_aload_n hex hbc dX5_undo_33 rfl (lv_at hl 1 rfl) ?_
          refine va_get (v := .ref (a 2)) hex hbc hts hin5 hown hK hP 0 rfl rfl 1 (by decide) (hts _ (List.mem_of_getElem? (i := 3) rfl)) (fun _ h => h) rfl dX5_undo_34 ?_
          refine lv_bipush (v := iI 107) hex hbc dX5_undo_37 (by decide) ?_
          refine lv_aload_n hex hbc dX5_undo_39 rfl (lv_at hl 1 rfl) ?_
          refine va_get (v := .int (iI (f2_17 0))) hex hbc hts hin5 hown hK hP 0 rfl rfl 2 (by decide) (hts _ (List.mem_of_getElem? (i := 1) rfl)) (fun _ h => h) rfl dX5_undo_40 ?_
          refine zt_nm (a := (f2_17 0)) (b := (σ 2 0 - 1)) (by rw [ef2_17, ups_s]) ?_
          refine zt_imul hex hbc dX5_undo_43 ?_
          refine lv_iload_n hex hbc dX5_undo_44 rfl (lv_at hl 0 rfl) ?_
          refine zt_iadd hex hbc dX5_undo_45 ?_
          refine g_iald (f := (σ 1)) (v := (σ 1 ((107 * (σ 2 0 - 1)) + i1))) (i := ((107 * (σ 2 0 - 1)) + i1)) hex hbc hK hP 2 0 rfl rfl (by decide) (by omega) rfl dX5_undo_46 ?_
          have hi_47 : (0 : Int) ≤ i1 ∧ i1 < (107 : Int) := (by omega)
          refine g_iast (σ := (sc (sc σ 0 w1) 2 f2_17)) (f := w1) (i := i1) (v := (σ 1 ((107 * (σ 2 0 - 1)) + i1))) (τ := st (sc (sc σ 0 w1) 2 f2_17) 0 i1 (σ 1 ((107 * (σ 2 0 - 1)) + i1))) hex hbc hK hP hD hS 1 0 rfl rfl (by decide) hi_47 dX5_undo_47 (wm_up_1 hi_47) (fun H locs hP hD hS => ?_)
          obtain ⟨f0_47, ef0_47⟩ : ∃ z : Int → Int, z = ups w1 i1 (σ 1 ((107 * (σ 2 0 - 1)) + i1)) := ⟨_, rfl⟩
          have hP : va_P G vwCl (wm cx a (sc (sc σ 0 f0_47) 2 f2_17)) H := by rw [ef0_47]; exact hP
          have hD : va_D (MA a) (wm cx a (sc (sc σ 0 f0_47) 2 f2_17)) := by rw [ef0_47]; exact hD
          refine lv_iinc (v := iI (i1 + 1)) (lv' := [(1, .int (iI (i1 + 1))), (0, .ref (a 0))]) hex hbc dX5_undo_48 hl (k := 0) rfl (iI_add _ _) (by decide) rfl (fun ls hl => ?_)
          refine lv_goto (tgt := 22) hex hbc dX5_undo_51 (by decide) ?_
          exact ih_22 (i1 + 1) f0_47 ⟨by omega, by omega, fun k => by rw [ef0_47]; unfold ups; rw [hw k]; (repeat' split) <;> first | omega | exact congrArg _ (by omega)⟩ (by omega) _ _ _ hP hD hS (lv_sub hl [0, 1] rfl)
    exact loop_22 _ 0 (σ 0) ⟨by omega, by omega, fun k => (if_neg (by omega)).symm⟩ (mz_lt _) _ _ _ hP hD hS (lv_sub hl [0, 1] rfl)
  · skip
    refine lv_bipush (v := iI (-2)) hex hbc dX5_undo_7 (by decide) ?_
    exact g_iret hex hbc hrt hlocks hK hP hD hS ⟨fun _ => ⟨rfl, ⟨rfl, rfl, rfl, rfl, rfl⟩⟩, fun h => absurd c4 h⟩ dX5_undo_9
set_option maxHeartbeats 4000000 in
set_option maxRecDepth 100000 in
theorem mX5_isImage (l : Launch) (x1 : Int) (h1 : -2147483648 ≤ x1 ∧ x1 < 2147483648) : Met l yX5_isImage wsX5_isImage ({ frames := 1, cells := 0, slots := 0, locals := 22 }) (va_Pc [.int (iI x1)] (fun _ => True)) (va_Qi (fun r (_ : Unit) => ∃ z, iI z = r ∧ (((0 ≤ x1 ∧ x1 ≤ 1) ∧ z = 1) ∨ (¬ (0 ≤ x1 ∧ x1 ≤ 1) ∧ z = 0))) (fun _ _ => True) (fun _ => False)) 0 0 (fun _ => False) := by
  refine Met.ofW (cc := cX5_isImage) (maxL := 1) (ret := some .boolean) (by decide) rfl ?_
  intro p e s m args below meth c s₁ B hml hv
  obtain ⟨rfl, -⟩ := hv
  have hex := B.exec
  have hbc := B.bytes
  have hrt := B.returns
  have hts := atoms_spec (ws := wsX5_isImage) B.pre
  have hown : s.vm.findClass RX5 = some m.cls := findClass_of_methodNamed B.named
  have hlocks := B.notSynchronized
  have hS : va_S (fun _ => False) s.heap s.heap [] := va_S.rf
  have hl := lv_entry ([.int (iI x1)]) (n := 1) (Nat.le_of_ble_eq_true rfl)
  rw [lg_entry_eq]
  generalize (lg_sl ([.int (iI x1)]) ++ List.replicate (1 - (lg_sl ([.int (iI x1)])).length) Slot.unset).toArray = ls at hl ⊢
  have hl : lv_has ls 1 [(0, .int (iI x1))] := hl
  refine lv_iload_n hex hbc dX5_isImage_0 rfl (lv_at hl 0 rfl) ?_
  refine lv_iconst (v := iI 0) hex hbc dX5_isImage_1 rfl ?_
  refine lv_iconst (v := iI 1) hex hbc dX5_isImage_2 rfl ?_
  refine g_callS0 [.int (iI x1), .int (iI 0), .int (iI 1)] ⟨hex, hbc, hml, hown, hts⟩ (mX5_isIn l x1 0 1 (by omega) (by omega) (by omega)) (va_cwS 3 hts gX5_isImage_X5_isIn rfl rfl rfl (by decide +kernel) ⟨Nat.le_of_ble_eq_true rfl, Nat.le_of_ble_eq_true rfl⟩) hS rfl rfl hl.1 (Nat.le_of_ble_eq_true rfl) dX5_isImage_3 ⟨Nat.zero_le _, Nat.zero_le _⟩ (fun r_3 H locs hw_3 hS => ?_)
  obtain ⟨vb3, rfl, hv3⟩ := hw_3
  exact W.zret hex hbc hrt (nar_b hv3) (fun t ht hW => ⟨⟨_, (), rfl, ⟨_, rfl, by omega⟩, trivial⟩, hS.F ht⟩) (fun q hq => hS.2.2 q hq) dX5_isImage_6 hlocks
theorem iX5_keep_X5 : ∀ w ∈ wsX50, w ∈ wsX5_keep := fun _ h => List.mem_cons_of_mem _ (List.mem_append_right _ h)
set_option maxHeartbeats 4000000 in
set_option maxRecDepth 100000 in
theorem mX5_keep (l : Launch) (G : va_G) (cx a : Nat → Nat) (σ : Nat → Int → Int)  (x : Int) (hx : -2147483648 ≤ x ∧ x < 2147483648) (hFl : 0 ≤ σ 2 1 ∧ σ 2 1 ≤ 3) (hI : Inv (σ 0)) : Met l yX5_keep wsX5_keep ({ frames := 2, cells := 0, slots := 0, locals := 42 }) (va_Pc [.ref (a 0), .int (iI x)] (gW G (tm cx) (MA a) (wm cx a) σ)) (va_Qi (fun r u => ((0 ≤ x ∧ x ≤ 1) → iI (σ 0 74) = r ∧ u 0 = σ 0 ∧ u 1 = σ 1 ∧ u 2 0 = σ 2 0 ∧ u 2 1 = orF (σ 2 1) x ∧ u 3 = cpi (σ 3) (σ 0) (107 * x)) ∧ (¬ (0 ≤ x ∧ x ≤ 1) → iI (-1) = r ∧ MQ_ σ u)) (gW G (tm cx) (MA a) (wm cx a)) (MA a)) 0 0 (MA a) := by
  refine Met.ofW (cc := cX5_keep) (maxL := 3) (ret := some .int) (by decide) rfl ?_
  intro p e s m args below meth c s₁ B hml hv
  obtain ⟨rfl, hP, hK, hD⟩ := hv
  have hex := B.exec
  have hbc := B.bytes
  have hrt := B.returns
  have hts := atoms_spec (ws := wsX5_keep) B.pre
  have hown : s.vm.findClass RX5 = some m.cls := findClass_of_methodNamed B.named
  have hlocks := B.notSynchronized
  have hS : va_S (MA a) s.heap s.heap [] := va_S.rf
  have hin5 := iX5_keep_X5
  have hl := lv_entry ([.ref (a 0), .int (iI x)]) (n := 3) (Nat.le_of_ble_eq_true rfl)
  rw [lg_entry_eq]
  generalize (lg_sl ([.ref (a 0), .int (iI x)]) ++ List.replicate (3 - (lg_sl ([.ref (a 0), .int (iI x)])).length) Slot.unset).toArray = ls at hl ⊢
  have hl : lv_has ls 3 [(0, .ref (a 0)), (1, .int (iI x))] := hl
  obtain ⟨hB, hEn, hMk, hAs, hPm⟩ := id hI
  refine lv_iload_n hex hbc dX5_keep_0 rfl (lv_at hl 1 rfl) ?_
  refine g_callS [.int (iI x)] ⟨hex, hbc, hml, hown, hts⟩ (mX5_isImage l x (by omega)) (va_cwS 1 hts gX5_keep_X5_isImage rfl rfl rfl (by decide +kernel) ⟨Nat.le_of_ble_eq_true rfl, Nat.le_of_ble_eq_true rfl⟩) hP hS rfl rfl hl.1 (Nat.le_of_ble_eq_true rfl) dX5_keep_1 ⟨Nat.zero_le _, Nat.zero_le _⟩ (fun r_1 H locs hw_1 hP hS => ?_)
  obtain ⟨vb1, rfl, hv1⟩ := hw_1
  refine zt_ifb_ne (P := (0 ≤ x ∧ x ≤ 1)) (tgt := 9) hex hbc hv1 dX5_keep_4 (by decide) (fun c4 => ?_) (fun c4 => ?_)
  · skip
    refine lv_iconst (v := iI 0) hex hbc dX5_keep_9 rfl ?_
    refine lv_istore_n (lv' := [(2, .int (iI 0)), (0, .ref (a 0)), (1, .int (iI x))]) hex hbc dX5_keep_10 rfl hl (by decide) rfl (fun ls hl => ?_)
    have loop_11 : ∀ (N : Nat) (i1 : Int) (w1 : Int → Int), (0 ≤ i1 ∧ i1 ≤ 107 ∧ ∀ k, w1 k = if 107 * x ≤ k ∧ k < 107 * x + i1 then σ 0 (k - 107 * x) else σ 3 k) → (107 - i1) < (N : Int) → ∀ (H : Heap) (locs : List Loc) (ls : Array Slot), va_P G vwCl (wm cx a (sc σ 3 w1)) H → va_D (MA a) (wm cx a (sc σ 3 w1)) → va_S (MA a) s.heap H locs → lv_has ls 3 [(2, .int (iI i1)), (0, .ref (a 0)), (1, .int (iI x))] → W p l e (headSpec wsX5_keep ({ frames := 2, cells := 0, slots := 0, locals := 42 })).room s m ([.ref (a 0), .int (iI x)] : List Value).toArray below meth c H locs 0 0 (MQ below (va_Qi (fun r u => ((0 ≤ x ∧ x ≤ 1) → iI (σ 0 74) = r ∧ u 0 = σ 0 ∧ u 1 = σ 1 ∧ u 2 0 = σ 2 0 ∧ u 2 1 = orF (σ 2 1) x ∧ u 3 = cpi (σ 3) (σ 0) (107 * x)) ∧ (¬ (0 ≤ x ∧ x ≤ 1) → iI (-1) = r ∧ MQ_ σ u)) (gW G (tm cx) (MA a) (wm cx a)) (MA a)) ([.ref (a 0), .int (iI x)] : List Value).toArray s 0 0 (MA a)) (F0 m 11 ls []) := by
      intro N
      induction N with
      | zero => intro i1 w1 hinv hlt; exfalso; omega
      | succ N ih_11 =>
        intro i1 w1 ⟨hi0, hi1, hw⟩ hlt_11 H locs ls hP hD hS hl
        refine lv_iload_n hex hbc dX5_keep_11 rfl (lv_at hl 0 rfl) ?_
        refine lv_bipush (v := iI 107) hex hbc dX5_keep_12 (by decide) ?_
        refine zt_icmp_ge (a := i1) (b := 107) (tgt := 40) hex hbc (by omega) dX5_keep_14 (by decide) (fun c14 => ?_) (fun c14 => ?_)
        · skip
          refine lv_aload_n hex hbc dX5_keep_40 rfl (lv_at hl 1 rfl) ?_
          refine lv_dup hex hbc dX5_keep_41 rfl ?_
          refine va_get (v := .int (iI (σ 2 1))) hex hbc hts hin5 hown hK hP 0 rfl rfl 4 (by decide) (hts _ (List.mem_of_getElem? (i := 3) rfl)) (fun _ h => h) rfl dX5_keep_42 ?_
          refine lv_iconst (v := iI 1) hex hbc dX5_keep_45 rfl ?_
          refine lv_iload_n hex hbc dX5_keep_46 rfl (lv_at hl 2 rfl) ?_
          refine lv_ishl hex hbc dX5_keep_47 ?_
          refine lv_ior hex hbc dX5_keep_48 ?_
          refine zt_raw (b := (orF (σ 2 1) x)) (bit_or hFl c4) ?_
          refine va_put hex hbc hts hin5 tyX5 tyX5_ok nmX5 hown hK hP hD hS 0 rfl rfl 4 (by decide) (hts _ (List.mem_of_getElem? (i := 3) rfl)) (fun _ h => h) rfl (tyX5_ok 4 (by decide)) rfl rfl (Nat.le_of_ble_eq_true rfl) dX5_keep_49 (fun H locs hP hD hS => ?_)
          have hP := leW_P (wm_pf_0_4 (G := G) (cx := cx) (a := a) (σ := (sc σ 3 w1))) hP
          have hD := leW_D (wm_pf_0_4 (G := G) (cx := cx) (a := a) (σ := (sc σ 3 w1))) hD
          obtain ⟨f2_49, ef2_49⟩ : ∃ z : Int → Int, z = ups (σ 2) 1 (orF (σ 2 1) x) := ⟨_, rfl⟩
          have hP : va_P G vwCl (wm cx a (sc (sc σ 2 f2_49) 3 w1)) H := by rw [ef2_49]; exact hP
          have hD : va_D (MA a) (wm cx a (sc (sc σ 2 f2_49) 3 w1)) := by rw [ef2_49]; exact hD
          refine lv_aload_n hex hbc dX5_keep_52 rfl (lv_at hl 1 rfl) ?_
          refine va_get (v := .ref (a 1)) hex hbc hts hin5 hown hK hP 0 rfl rfl 0 (by decide) (hts _ (List.mem_of_getElem? (i := 2) rfl)) (fun _ h => h) rfl dX5_keep_53 ?_
          refine lv_bipush (v := iI 74) hex hbc dX5_keep_56 (by decide) ?_
          refine g_iald (f := (σ 0)) (v := (σ 0 74)) (i := 74) hex hbc hK hP 1 0 rfl rfl (by decide) (by omega) rfl dX5_keep_58 ?_
          exact g_iret hex hbc hrt hlocks hK hP hD hS ⟨fun _ => ⟨rfl, rfl, rfl, (by show f2_49 0 = _; rw [ef2_49, ups_n _ _ (by omega)]), (by show f2_49 1 = _; rw [ef2_49, ups_s]), (funext fun k => by show w1 k = _; rw [hw k]; unfold cpi; (repeat' split) <;> first | omega | exact congrArg _ (by omega))⟩, fun h => absurd c4 h⟩ dX5_keep_59
        · skip
          refine lv_aload_n hex hbc dX5_keep_17 rfl (lv_at hl 1 rfl) ?_
          refine va_get (v := .ref (a 3)) hex hbc hts hin5 hown hK hP 0 rfl rfl 3 (by decide) (hts _ (List.mem_of_getElem? (i := 1) rfl)) (fun _ h => h) rfl dX5_keep_18 ?_
          refine lv_bipush (v := iI 107) hex hbc dX5_keep_21 (by decide) ?_
          refine lv_iload_n hex hbc dX5_keep_23 rfl (lv_at hl 2 rfl) ?_
          refine zt_imul hex hbc dX5_keep_24 ?_
          refine lv_iload_n hex hbc dX5_keep_25 rfl (lv_at hl 0 rfl) ?_
          refine zt_iadd hex hbc dX5_keep_26 ?_
          refine lv_aload_n hex hbc dX5_keep_27 rfl (lv_at hl 1 rfl) ?_
          refine va_get (v := .ref (a 1)) hex hbc hts hin5 hown hK hP 0 rfl rfl 0 (by decide) (hts _ (List.mem_of_getElem? (i := 2) rfl)) (fun _ h => h) rfl dX5_keep_28 ?_
          refine lv_iload_n hex hbc dX5_keep_31 rfl (lv_at hl 0 rfl) ?_
          refine g_iald (f := (σ 0)) (v := (σ 0 i1)) (i := i1) hex hbc hK hP 1 0 rfl rfl (by decide) (by omega) rfl dX5_keep_32 ?_
          have hi_33 : (0 : Int) ≤ ((107 * x) + i1) ∧ ((107 * x) + i1) < (214 : Int) := (by omega)
          refine g_iast (σ := (sc σ 3 w1)) (f := w1) (i := ((107 * x) + i1)) (v := (σ 0 i1)) (τ := st (sc σ 3 w1) 3 ((107 * x) + i1) (σ 0 i1)) hex hbc hK hP hD hS 3 0 rfl rfl (by decide) hi_33 dX5_keep_33 (wm_up_3 hi_33) (fun H locs hP hD hS => ?_)
          obtain ⟨f3_33, ef3_33⟩ : ∃ z : Int → Int, z = ups w1 ((107 * x) + i1) (σ 0 i1) := ⟨_, rfl⟩
          have hP : va_P G vwCl (wm cx a (sc σ 3 f3_33)) H := by rw [ef3_33]; exact hP
          have hD : va_D (MA a) (wm cx a (sc σ 3 f3_33)) := by rw [ef3_33]; exact hD
          refine lv_iinc (v := iI (i1 + 1)) (lv' := [(2, .int (iI (i1 + 1))), (0, .ref (a 0)), (1, .int (iI x))]) hex hbc dX5_keep_34 hl (k := 0) rfl (iI_add _ _) (by decide) rfl (fun ls hl => ?_)
          refine lv_goto (tgt := 11) hex hbc dX5_keep_37 (by decide) ?_
          exact ih_11 (i1 + 1) f3_33 ⟨by omega, by omega, fun k => by rw [ef3_33]; unfold ups; rw [hw k]; (repeat' split) <;> first | omega | exact congrArg _ (by omega)⟩ (by omega) _ _ _ hP hD hS (lv_sub hl [0, 1, 2] rfl)
    exact loop_11 _ 0 (σ 3) ⟨by omega, by omega, fun k => (if_neg (by omega)).symm⟩ (mz_lt _) _ _ _ hP hD hS (lv_sub hl [0, 1, 2] rfl)
  · skip
    refine lv_iconst (v := iI (-1)) hex hbc dX5_keep_7 rfl ?_
    exact g_iret hex hbc hrt hlocks hK hP hD hS ⟨fun h => absurd h c4, fun _ => ⟨rfl, ⟨rfl, rfl, rfl, rfl, rfl⟩⟩⟩ dX5_keep_8
theorem iX5_back_X5 : ∀ w ∈ wsX50, w ∈ wsX5_back := fun _ h => List.mem_cons_of_mem _ (List.mem_append_right _ h)
set_option maxHeartbeats 4000000 in
set_option maxRecDepth 100000 in
theorem mX5_back (l : Launch) (G : va_G) (cx a : Nat → Nat) (σ : Nat → Int → Int)  (x : Int) (hx : -2147483648 ≤ x ∧ x < 2147483648) (hFl : 0 ≤ σ 2 1 ∧ σ 2 1 ≤ 3) (hN : 0 ≤ σ 2 0 ∧ σ 2 0 ≤ 8) (hI : Inv (σ 0)) : Met l yX5_back wsX5_back ({ frames := 2, cells := 0, slots := 0, locals := 42 }) (va_Pc [.ref (a 0), .int (iI x)] (gW G (tm cx) (MA a) (wm cx a) σ)) (va_Qi (fun r u => (¬ (0 ≤ x ∧ x ≤ 1) → iI (-1) = r ∧ MQ_ σ u) ∧ ((0 ≤ x ∧ x ≤ 1) → (hasF (σ 2 1) x = 0 → iI (-2) = r ∧ MQ_ σ u) ∧ (hasF (σ 2 1) x ≠ 0 → iI (σ 3 (107 * x + 74)) = r ∧ MC_ σ u (cpo (σ 0) (σ 3) (107 * x))))) (gW G (tm cx) (MA a) (wm cx a)) (MA a)) 0 0 (MA a) := by
  refine Met.ofW (cc := cX5_back) (maxL := 3) (ret := some .int) (by decide) rfl ?_
  intro p e s m args below meth c s₁ B hml hv
  obtain ⟨rfl, hP, hK, hD⟩ := hv
  have hex := B.exec
  have hbc := B.bytes
  have hrt := B.returns
  have hts := atoms_spec (ws := wsX5_back) B.pre
  have hown : s.vm.findClass RX5 = some m.cls := findClass_of_methodNamed B.named
  have hlocks := B.notSynchronized
  have hS : va_S (MA a) s.heap s.heap [] := va_S.rf
  have hin5 := iX5_back_X5
  have hl := lv_entry ([.ref (a 0), .int (iI x)]) (n := 3) (Nat.le_of_ble_eq_true rfl)
  rw [lg_entry_eq]
  generalize (lg_sl ([.ref (a 0), .int (iI x)]) ++ List.replicate (3 - (lg_sl ([.ref (a 0), .int (iI x)])).length) Slot.unset).toArray = ls at hl ⊢
  have hl : lv_has ls 3 [(0, .ref (a 0)), (1, .int (iI x))] := hl
  obtain ⟨hB, hEn, hMk, hAs, hPm⟩ := id hI
  refine lv_iload_n hex hbc dX5_back_0 rfl (lv_at hl 1 rfl) ?_
  refine g_callS [.int (iI x)] ⟨hex, hbc, hml, hown, hts⟩ (mX5_isImage l x (by omega)) (va_cwS 1 hts gX5_back_X5_isImage rfl rfl rfl (by decide +kernel) ⟨Nat.le_of_ble_eq_true rfl, Nat.le_of_ble_eq_true rfl⟩) hP hS rfl rfl hl.1 (Nat.le_of_ble_eq_true rfl) dX5_back_1 ⟨Nat.zero_le _, Nat.zero_le _⟩ (fun r_1 H locs hw_1 hP hS => ?_)
  obtain ⟨vb1, rfl, hv1⟩ := hw_1
  refine zt_ifb_ne (P := (0 ≤ x ∧ x ≤ 1)) (tgt := 9) hex hbc hv1 dX5_back_4 (by decide) (fun c4 => ?_) (fun c4 => ?_)
  · skip
    refine lv_aload_n hex hbc dX5_back_9 rfl (lv_at hl 0 rfl) ?_
    refine va_get (v := .int (iI (σ 2 1))) hex hbc hts hin5 hown hK hP 0 rfl rfl 4 (by decide) (hts _ (List.mem_of_getElem? (i := 1) rfl)) (fun _ h => h) rfl dX5_back_10 ?_
    refine lv_iload_n hex hbc dX5_back_13 rfl (lv_at hl 1 rfl) ?_
    refine lv_ishr hex hbc dX5_back_14 ?_
    refine lv_iconst (v := iI 1) hex hbc dX5_back_15 rfl ?_
    refine lv_iand hex hbc dX5_back_16 ?_
    refine zt_raw (b := (hasF (σ 2 1) x)) (bit_has hFl c4) ?_
    refine zt_if_ne (a := (hasF (σ 2 1) x)) (tgt := 23) hex hbc (by unfold hasF; split <;> omega) dX5_back_17 (by decide) (fun c17 => ?_) (fun c17 => ?_)
    · skip
      refine lv_aload_n hex hbc dX5_back_23 rfl (lv_at hl 0 rfl) ?_
      refine g_callv [] ⟨hex, hbc, hml, hown, hts⟩ (mX5_remember l G cx a σ  hN) (cwV 0 hts gX5_back_X5_remember rfl rfl rfl (by decide +kernel) ⟨Nat.le_of_ble_eq_true rfl, Nat.le_of_ble_eq_true rfl⟩) hK hP hD hS (fun _ h => h) 0 5 rfl rfl rfl rfl hl.1 (Nat.le_of_ble_eq_true rfl) dX5_back_24 ⟨Nat.zero_le _, Nat.zero_le _⟩ (fun u_24 H locs hw_24 hP hD hS hz_24 hk_24 => ?_)
      obtain rfl := hw_24
      have hP : va_P G vwCl (wm cx a (sc (sc σ 1 (mpast (σ 1) (σ 0) (σ 2 0))) 2 (ups (σ 2) 0 (mpm (σ 2 0))))) H := hP
      have hD : va_D (MA a) (wm cx a (sc (sc σ 1 (mpast (σ 1) (σ 0) (σ 2 0))) 2 (ups (σ 2) 0 (mpm (σ 2 0))))) := hD
      refine lv_iconst (v := iI 0) hex hbc dX5_back_27 rfl ?_
      refine lv_istore_n (lv' := [(2, .int (iI 0)), (0, .ref (a 0)), (1, .int (iI x))]) hex hbc dX5_back_28 rfl hl (by decide) rfl (fun ls hl => ?_)
      have loop_29 : ∀ (N : Nat) (i1 : Int) (w1 : Int → Int), (0 ≤ i1 ∧ i1 ≤ 107 ∧ ∀ k, w1 k = if 0 ≤ k ∧ k < i1 then σ 3 (107 * x + k) else σ 0 k) → (107 - i1) < (N : Int) → ∀ (H : Heap) (locs : List Loc) (ls : Array Slot), va_P G vwCl (wm cx a (sc (sc (sc σ 0 w1) 1 (mpast (σ 1) (σ 0) (σ 2 0))) 2 (ups (σ 2) 0 (mpm (σ 2 0))))) H → va_D (MA a) (wm cx a (sc (sc (sc σ 0 w1) 1 (mpast (σ 1) (σ 0) (σ 2 0))) 2 (ups (σ 2) 0 (mpm (σ 2 0))))) → va_S (MA a) s.heap H locs → lv_has ls 3 [(2, .int (iI i1)), (0, .ref (a 0)), (1, .int (iI x))] → W p l e (headSpec wsX5_back ({ frames := 2, cells := 0, slots := 0, locals := 42 })).room s m ([.ref (a 0), .int (iI x)] : List Value).toArray below meth c H locs 0 0 (MQ below (va_Qi (fun r u => (¬ (0 ≤ x ∧ x ≤ 1) → iI (-1) = r ∧ MQ_ σ u) ∧ ((0 ≤ x ∧ x ≤ 1) → (hasF (σ 2 1) x = 0 → iI (-2) = r ∧ MQ_ σ u) ∧ (hasF (σ 2 1) x ≠ 0 → iI (σ 3 (107 * x + 74)) = r ∧ MC_ σ u (cpo (σ 0) (σ 3) (107 * x))))) (gW G (tm cx) (MA a) (wm cx a)) (MA a)) ([.ref (a 0), .int (iI x)] : List Value).toArray s 0 0 (MA a)) (F0 m 29 ls []) := by
        intro N
        induction N with
        | zero => intro i1 w1 hinv hlt; exfalso; omega
        | succ N ih_29 =>
          intro i1 w1 ⟨hi0, hi1, hw⟩ hlt_29 H locs ls hP hD hS hl
          refine lv_iload_n hex hbc dX5_back_29 rfl (lv_at hl 0 rfl) ?_
          refine lv_bipush (v := iI 107) hex hbc dX5_back_30 (by decide) ?_
          refine zt_icmp_ge (a := i1) (b := 107) (tgt := 58) hex hbc (by omega) dX5_back_32 (by decide) (fun c32 => ?_) (fun c32 => ?_)
          · skip
            refine lv_aload_n hex hbc dX5_back_58 rfl (lv_at hl 1 rfl) ?_
            refine va_get (v := .ref (a 1)) hex hbc hts hin5 hown hK hP 0 rfl rfl 0 (by decide) (hts _ (List.mem_of_getElem? (i := 2) rfl)) (fun _ h => h) rfl dX5_back_59 ?_
            refine lv_bipush (v := iI 74) hex hbc dX5_back_62 (by decide) ?_
            refine g_iald (f := w1) (v := (w1 74)) (i := 74) hex hbc hK hP 1 0 rfl rfl (by decide) (by omega) rfl dX5_back_64 ?_
            refine zt_nm (a := (w1 74)) (b := (σ 3 (107 * x + 74))) (by rw [hw]; exact if_pos (by omega)) ?_
            exact g_iret hex hbc hrt hlocks hK hP hD hS ⟨fun h => absurd c4 h, fun _ => ⟨fun h => absurd h c17, fun _ => ⟨rfl, ⟨(funext fun k => by show w1 k = _; rw [hw k]; unfold cpo; (repeat' split) <;> first | omega | exact congrArg _ (by omega)), rfl, (show ups (σ 2) 0 (mpm (σ 2 0)) 0 = mpm (σ 2 0) from ups_s _ _ _), (show ups (σ 2) 0 (mpm (σ 2 0)) 1 = σ 2 1 from ups_n _ _ (by decide)), rfl⟩⟩⟩⟩ dX5_back_65
          · skip
            refine lv_aload_n hex hbc dX5_back_35 rfl (lv_at hl 1 rfl) ?_
            refine va_get (v := .ref (a 1)) hex hbc hts hin5 hown hK hP 0 rfl rfl 0 (by decide) (hts _ (List.mem_of_getElem? (i := 2) rfl)) (fun _ h => h) rfl dX5_back_36 ?_
            refine lv_iload_n hex hbc dX5_back_39 rfl (lv_at hl 0 rfl) ?_
            refine lv_aload_n hex hbc dX5_back_40 rfl (lv_at hl 1 rfl) ?_
            refine va_get (v := .ref (a 3)) hex hbc hts hin5 hown hK hP 0 rfl rfl 3 (by decide) (hts _ (List.mem_of_getElem? (i := 3) rfl)) (fun _ h => h) rfl dX5_back_41 ?_
            refine lv_bipush (v := iI 107) hex hbc dX5_back_44 (by decide) ?_
            refine lv_iload_n hex hbc dX5_back_46 rfl (lv_at hl 2 rfl) ?_
            refine zt_imul hex hbc dX5_back_47 ?_
            refine lv_iload_n hex hbc dX5_back_48 rfl (lv_at hl 0 rfl) ?_
            refine zt_iadd hex hbc dX5_back_49 ?_
            refine g_iald (f := (σ 3)) (v := (σ 3 ((107 * x) + i1))) (i := ((107 * x) + i1)) hex hbc hK hP 3 0 rfl rfl (by decide) (by omega) rfl dX5_back_50 ?_
            have hi_51 : (0 : Int) ≤ i1 ∧ i1 < (107 : Int) := (by omega)
            refine g_iast (σ := (sc (sc (sc σ 0 w1) 1 (mpast (σ 1) (σ 0) (σ 2 0))) 2 (ups (σ 2) 0 (mpm (σ 2 0))))) (f := w1) (i := i1) (v := (σ 3 ((107 * x) + i1))) (τ := st (sc (sc (sc σ 0 w1) 1 (mpast (σ 1) (σ 0) (σ 2 0))) 2 (ups (σ 2) 0 (mpm (σ 2 0)))) 0 i1 (σ 3 ((107 * x) + i1))) hex hbc hK hP hD hS 1 0 rfl rfl (by decide) hi_51 dX5_back_51 (wm_up_1 hi_51) (fun H locs hP hD hS => ?_)
            obtain ⟨f0_51, ef0_51⟩ : ∃ z : Int → Int, z = ups w1 i1 (σ 3 ((107 * x) + i1)) := ⟨_, rfl⟩
            have hP : va_P G vwCl (wm cx a (sc (sc (sc σ 0 f0_51) 1 (mpast (σ 1) (σ 0) (σ 2 0))) 2 (ups (σ 2) 0 (mpm (σ 2 0))))) H := by rw [ef0_51]; exact hP
            have hD : va_D (MA a) (wm cx a (sc (sc (sc σ 0 f0_51) 1 (mpast (σ 1) (σ 0) (σ 2 0))) 2 (ups (σ 2) 0 (mpm (σ 2 0))))) := by rw [ef0_51]; exact hD
            refine lv_iinc (v := iI (i1 + 1)) (lv' := [(2, .int (iI (i1 + 1))), (0, .ref (a 0)), (1, .int (iI x))]) hex hbc dX5_back_52 hl (k := 0) rfl (iI_add _ _) (by decide) rfl (fun ls hl => ?_)
            refine lv_goto (tgt := 29) hex hbc dX5_back_55 (by decide) ?_
            exact ih_29 (i1 + 1) f0_51 ⟨by omega, by omega, fun k => by rw [ef0_51]; unfold ups; rw [hw k]; (repeat' split) <;> first | omega | exact congrArg _ (by omega)⟩ (by omega) _ _ _ hP hD hS (lv_sub hl [0, 1, 2] rfl)
      exact loop_29 _ 0 (σ 0) ⟨by omega, by omega, fun k => (if_neg (by omega)).symm⟩ (mz_lt _) _ _ _ hP hD hS (lv_sub hl [0, 1, 2] rfl)
    · skip
      refine lv_bipush (v := iI (-2)) hex hbc dX5_back_20 (by decide) ?_
      exact g_iret hex hbc hrt hlocks hK hP hD hS ⟨fun h => absurd c4 h, fun _ => ⟨fun _ => ⟨rfl, ⟨rfl, rfl, rfl, rfl, rfl⟩⟩, fun h => absurd c17 h⟩⟩ dX5_back_22
  · skip
    refine lv_iconst (v := iI (-1)) hex hbc dX5_back_7 rfl ?_
    exact g_iret hex hbc hrt hlocks hK hP hD hS ⟨fun _ => ⟨rfl, ⟨rfl, rfl, rfl, rfl, rfl⟩⟩, fun h => absurd h c4⟩ dX5_back_8
theorem iX5_setting_X5 : ∀ w ∈ wsX50, w ∈ wsX5_setting := fun _ h => List.mem_cons_of_mem _ (List.mem_append_right _ h)
set_option maxHeartbeats 4000000 in
set_option maxRecDepth 100000 in
theorem mX5_setting (l : Launch) (G : va_G) (cx a : Nat → Nat) (σ : Nat → Int → Int)  (x : Int) (hx : -2147483648 ≤ x ∧ x < 2147483648) (hI : Inv (σ 0)) : Met l yX5_setting wsX5_setting ({ frames := 1, cells := 0, slots := 0, locals := 22 }) (va_Pc [.ref (a 0), .int (iI x)] (gW G (tm cx) (MA a) (wm cx a) σ)) (va_Qi (fun r u => ((0 ≤ x ∧ x ≤ 8) → iI (σ 0 (1 + x)) = r) ∧ (¬ (0 ≤ x ∧ x ≤ 8) → iI (-1) = r) ∧ MQ_ σ u) (gW G (tm cx) (MA a) (wm cx a)) (MA a)) 0 0 (MA a) := by
  refine Met.ofW (cc := cX5_setting) (maxL := 2) (ret := some .int) (by decide) rfl ?_
  intro p e s m args below meth c s₁ B hml hv
  obtain ⟨rfl, hP, hK, hD⟩ := hv
  have hex := B.exec
  have hbc := B.bytes
  have hrt := B.returns
  have hts := atoms_spec (ws := wsX5_setting) B.pre
  have hown : s.vm.findClass RX5 = some m.cls := findClass_of_methodNamed B.named
  have hlocks := B.notSynchronized
  have hS : va_S (MA a) s.heap s.heap [] := va_S.rf
  have hin5 := iX5_setting_X5
  have hl := lv_entry ([.ref (a 0), .int (iI x)]) (n := 2) (Nat.le_of_ble_eq_true rfl)
  rw [lg_entry_eq]
  generalize (lg_sl ([.ref (a 0), .int (iI x)]) ++ List.replicate (2 - (lg_sl ([.ref (a 0), .int (iI x)])).length) Slot.unset).toArray = ls at hl ⊢
  have hl : lv_has ls 2 [(0, .ref (a 0)), (1, .int (iI x))] := hl
  obtain ⟨hB, hEn, hMk, hAs, hPm⟩ := id hI
  refine lv_iload_n hex hbc dX5_setting_0 rfl (lv_at hl 1 rfl) ?_
  refine lv_iconst (v := iI 0) hex hbc dX5_setting_1 rfl ?_
  refine lv_bipush (v := iI 8) hex hbc dX5_setting_2 (by decide) ?_
  refine g_callS [.int (iI x), .int (iI 0), .int (iI 8)] ⟨hex, hbc, hml, hown, hts⟩ (mX5_isIn l x 0 8 (by omega) (by omega) (by omega)) (va_cwS 3 hts gX5_setting_X5_isIn rfl rfl rfl (by decide +kernel) ⟨Nat.le_of_ble_eq_true rfl, Nat.le_of_ble_eq_true rfl⟩) hP hS rfl rfl hl.1 (Nat.le_of_ble_eq_true rfl) dX5_setting_4 ⟨Nat.zero_le _, Nat.zero_le _⟩ (fun r_4 H locs hw_4 hP hS => ?_)
  obtain ⟨vb4, rfl, hv4⟩ := hw_4
  refine zt_ifb_eq (P := (0 ≤ x ∧ x ≤ 8)) (tgt := 21) hex hbc hv4 dX5_setting_7 (by decide) (fun c7 => ?_) (fun c7 => ?_)
  · skip
    refine lv_iconst (v := iI (-1)) hex hbc dX5_setting_21 rfl ?_
    exact g_iret hex hbc hrt hlocks hK hP hD hS ⟨fun h => absurd h c7, fun _ => rfl, ⟨rfl, rfl, rfl, rfl, rfl⟩⟩ dX5_setting_22
  · skip
    refine lv_aload_n hex hbc dX5_setting_10 rfl (lv_at hl 0 rfl) ?_
    refine va_get (v := .ref (a 1)) hex hbc hts hin5 hown hK hP 0 rfl rfl 0 (by decide) (hts _ (List.mem_of_getElem? (i := 1) rfl)) (fun _ h => h) rfl dX5_setting_11 ?_
    refine lv_iconst (v := iI 1) hex hbc dX5_setting_14 rfl ?_
    refine lv_iload_n hex hbc dX5_setting_15 rfl (lv_at hl 1 rfl) ?_
    refine zt_iadd hex hbc dX5_setting_16 ?_
    refine g_iald (f := (σ 0)) (v := (σ 0 (1 + x))) (i := (1 + x)) hex hbc hK hP 1 0 rfl rfl (by decide) (by omega) rfl dX5_setting_17 ?_
    refine lv_goto (tgt := 22) hex hbc dX5_setting_18 (by decide) ?_
    exact g_iret hex hbc hrt hlocks hK hP hD hS ⟨fun _ => rfl, fun h => absurd c7 h, ⟨rfl, rfl, rfl, rfl, rfl⟩⟩ dX5_setting_22
theorem iX5_energy_X5 : ∀ w ∈ wsX50, w ∈ wsX5_energy := fun _ h => List.mem_cons_of_mem _ (List.mem_append_right _ h)
set_option maxHeartbeats 4000000 in
set_option maxRecDepth 100000 in
theorem mX5_energy (l : Launch) (G : va_G) (cx a : Nat → Nat) (σ : Nat → Int → Int)  (x : Int) (hx : -2147483648 ≤ x ∧ x < 2147483648) (hI : Inv (σ 0)) : Met l yX5_energy wsX5_energy ({ frames := 2, cells := 0, slots := 0, locals := 43 }) (va_Pc [.ref (a 0), .int (iI x)] (gW G (tm cx) (MA a) (wm cx a) σ)) (va_Qi (fun r u => ((0 ≤ x ∧ x < σ 0 0) → iI (σ 0 (10 + x)) = r) ∧ (¬ (0 ≤ x ∧ x < σ 0 0) → iI (-1) = r) ∧ MQ_ σ u) (gW G (tm cx) (MA a) (wm cx a)) (MA a)) 0 0 (MA a) := by
  refine Met.ofW (cc := cX5_energy) (maxL := 2) (ret := some .int) (by decide) rfl ?_
  intro p e s m args below meth c s₁ B hml hv
  obtain ⟨rfl, hP, hK, hD⟩ := hv
  have hex := B.exec
  have hbc := B.bytes
  have hrt := B.returns
  have hts := atoms_spec (ws := wsX5_energy) B.pre
  have hown : s.vm.findClass RX5 = some m.cls := findClass_of_methodNamed B.named
  have hlocks := B.notSynchronized
  have hS : va_S (MA a) s.heap s.heap [] := va_S.rf
  have hin5 := iX5_energy_X5
  have hl := lv_entry ([.ref (a 0), .int (iI x)]) (n := 2) (Nat.le_of_ble_eq_true rfl)
  rw [lg_entry_eq]
  generalize (lg_sl ([.ref (a 0), .int (iI x)]) ++ List.replicate (2 - (lg_sl ([.ref (a 0), .int (iI x)])).length) Slot.unset).toArray = ls at hl ⊢
  have hl : lv_has ls 2 [(0, .ref (a 0)), (1, .int (iI x))] := hl
  obtain ⟨hB, hEn, hMk, hAs, hPm⟩ := id hI
  refine lv_aload_n hex hbc dX5_energy_0 rfl (lv_at hl 0 rfl) ?_
  refine lv_iload_n hex hbc dX5_energy_1 rfl (lv_at hl 1 rfl) ?_
  refine g_calli [.int (iI x)] ⟨hex, hbc, hml, hown, hts⟩ (mX5_isFrame l G cx a σ x (by omega) hI) (cwV 1 hts gX5_energy_X5_isFrame rfl rfl rfl (by decide +kernel) ⟨Nat.le_of_ble_eq_true rfl, Nat.le_of_ble_eq_true rfl⟩) hK hP hD hS (fun _ h => h) 0 5 rfl rfl rfl rfl hl.1 (Nat.le_of_ble_eq_true rfl) dX5_energy_2 ⟨Nat.zero_le _, Nat.zero_le _⟩ (fun r_2 u_2 H locs hw_2 hP hD hS hz_2 hk_2 => ?_)
  obtain ⟨rfl, vb2, rfl, hv2⟩ := hw_2
  refine zt_ifb_eq (P := (0 ≤ x ∧ x < σ 0 0)) (tgt := 20) hex hbc hv2 dX5_energy_5 (by decide) (fun c5 => ?_) (fun c5 => ?_)
  · skip
    refine lv_iconst (v := iI (-1)) hex hbc dX5_energy_20 rfl ?_
    exact g_iret hex hbc hrt hlocks hK hP hD hS ⟨fun h => absurd h c5, fun _ => rfl, ⟨rfl, rfl, rfl, rfl, rfl⟩⟩ dX5_energy_21
  · skip
    refine lv_aload_n hex hbc dX5_energy_8 rfl (lv_at hl 0 rfl) ?_
    refine va_get (v := .ref (a 1)) hex hbc hts hin5 hown hK hP 0 rfl rfl 0 (by decide) (hts _ (List.mem_of_getElem? (i := 1) rfl)) (fun _ h => h) rfl dX5_energy_9 ?_
    refine lv_bipush (v := iI 10) hex hbc dX5_energy_12 (by decide) ?_
    refine lv_iload_n hex hbc dX5_energy_14 rfl (lv_at hl 1 rfl) ?_
    refine zt_iadd hex hbc dX5_energy_15 ?_
    refine g_iald (f := (σ 0)) (v := (σ 0 (10 + x))) (i := (10 + x)) hex hbc hK hP 1 0 rfl rfl (by decide) (by omega) rfl dX5_energy_16 ?_
    refine lv_goto (tgt := 21) hex hbc dX5_energy_17 (by decide) ?_
    exact g_iret hex hbc hrt hlocks hK hP hD hS ⟨fun _ => rfl, fun h => absurd c5 h, ⟨rfl, rfl, rfl, rfl, rfl⟩⟩ dX5_energy_21
theorem iX5_order_X5 : ∀ w ∈ wsX50, w ∈ wsX5_order := fun _ h => List.mem_cons_of_mem _ (List.mem_append_right _ h)
set_option maxHeartbeats 4000000 in
set_option maxRecDepth 100000 in
theorem mX5_order (l : Launch) (G : va_G) (cx a : Nat → Nat) (σ : Nat → Int → Int)  (x : Int) (hx : -2147483648 ≤ x ∧ x < 2147483648) (hI : Inv (σ 0)) : Met l yX5_order wsX5_order ({ frames := 2, cells := 0, slots := 0, locals := 43 }) (va_Pc [.ref (a 0), .int (iI x)] (gW G (tm cx) (MA a) (wm cx a) σ)) (va_Qi (fun r u => ((0 ≤ x ∧ x < σ 0 74) → iI (σ 0 (91 + x)) = r) ∧ (¬ (0 ≤ x ∧ x < σ 0 74) → iI (-1) = r) ∧ MQ_ σ u) (gW G (tm cx) (MA a) (wm cx a)) (MA a)) 0 0 (MA a) := by
  refine Met.ofW (cc := cX5_order) (maxL := 2) (ret := some .int) (by decide) rfl ?_
  intro p e s m args below meth c s₁ B hml hv
  obtain ⟨rfl, hP, hK, hD⟩ := hv
  have hex := B.exec
  have hbc := B.bytes
  have hrt := B.returns
  have hts := atoms_spec (ws := wsX5_order) B.pre
  have hown : s.vm.findClass RX5 = some m.cls := findClass_of_methodNamed B.named
  have hlocks := B.notSynchronized
  have hS : va_S (MA a) s.heap s.heap [] := va_S.rf
  have hin5 := iX5_order_X5
  have hl := lv_entry ([.ref (a 0), .int (iI x)]) (n := 2) (Nat.le_of_ble_eq_true rfl)
  rw [lg_entry_eq]
  generalize (lg_sl ([.ref (a 0), .int (iI x)]) ++ List.replicate (2 - (lg_sl ([.ref (a 0), .int (iI x)])).length) Slot.unset).toArray = ls at hl ⊢
  have hl : lv_has ls 2 [(0, .ref (a 0)), (1, .int (iI x))] := hl
  obtain ⟨hB, hEn, hMk, hAs, hPm⟩ := id hI
  refine lv_aload_n hex hbc dX5_order_0 rfl (lv_at hl 0 rfl) ?_
  refine lv_iload_n hex hbc dX5_order_1 rfl (lv_at hl 1 rfl) ?_
  refine g_calli [.int (iI x)] ⟨hex, hbc, hml, hown, hts⟩ (mX5_isSlice l G cx a σ x (by omega) hI) (cwV 1 hts gX5_order_X5_isSlice rfl rfl rfl (by decide +kernel) ⟨Nat.le_of_ble_eq_true rfl, Nat.le_of_ble_eq_true rfl⟩) hK hP hD hS (fun _ h => h) 0 5 rfl rfl rfl rfl hl.1 (Nat.le_of_ble_eq_true rfl) dX5_order_2 ⟨Nat.zero_le _, Nat.zero_le _⟩ (fun r_2 u_2 H locs hw_2 hP hD hS hz_2 hk_2 => ?_)
  obtain ⟨rfl, vb2, rfl, hv2⟩ := hw_2
  refine zt_ifb_eq (P := (0 ≤ x ∧ x < σ 0 74)) (tgt := 20) hex hbc hv2 dX5_order_5 (by decide) (fun c5 => ?_) (fun c5 => ?_)
  · skip
    refine lv_iconst (v := iI (-1)) hex hbc dX5_order_20 rfl ?_
    exact g_iret hex hbc hrt hlocks hK hP hD hS ⟨fun h => absurd h c5, fun _ => rfl, ⟨rfl, rfl, rfl, rfl, rfl⟩⟩ dX5_order_21
  · skip
    refine lv_aload_n hex hbc dX5_order_8 rfl (lv_at hl 0 rfl) ?_
    refine va_get (v := .ref (a 1)) hex hbc hts hin5 hown hK hP 0 rfl rfl 0 (by decide) (hts _ (List.mem_of_getElem? (i := 1) rfl)) (fun _ h => h) rfl dX5_order_9 ?_
    refine lv_bipush (v := iI 91) hex hbc dX5_order_12 (by decide) ?_
    refine lv_iload_n hex hbc dX5_order_14 rfl (lv_at hl 1 rfl) ?_
    refine zt_iadd hex hbc dX5_order_15 ?_
    refine g_iald (f := (σ 0)) (v := (σ 0 (91 + x))) (i := (91 + x)) hex hbc hK hP 1 0 rfl rfl (by decide) (by omega) rfl dX5_order_16 ?_
    refine lv_goto (tgt := 21) hex hbc dX5_order_17 (by decide) ?_
    exact g_iret hex hbc hrt hlocks hK hP hD hS ⟨fun _ => rfl, fun h => absurd c5 h, ⟨rfl, rfl, rfl, rfl, rfl⟩⟩ dX5_order_21
set_option maxHeartbeats 4000000 in
set_option maxRecDepth 100000 in
theorem mX5_marksWith (l : Launch) (G : va_G) (cx a : Nat → Nat) (σ : Nat → Int → Int)  (x : Int) (hx : -2147483648 ≤ x ∧ x < 2147483648) (hI : Inv (σ 0)) : Met l yX5_marksWith wsX5_marksWith ({ frames := 1, cells := 0, slots := 0, locals := 23 }) (va_Pc [.ref (a 0), .int (iI x)] (gW G (tm cx) (MA a) (wm cx a) σ)) (va_Qi (fun r u => ((1 ≤ x ∧ x ≤ 999) → iI (fnd (σ 0) x) = r) ∧ (¬ (1 ≤ x ∧ x ≤ 999) → iI (-1) = r) ∧ MQ_ σ u) (gW G (tm cx) (MA a) (wm cx a)) (MA a)) 0 0 (MA a) := by
  refine Met.ofW (cc := cX5_marksWith) (maxL := 2) (ret := some .int) (by decide) rfl ?_
  intro p e s m args below meth c s₁ B hml hv
  obtain ⟨rfl, hP, hK, hD⟩ := hv
  have hex := B.exec
  have hbc := B.bytes
  have hrt := B.returns
  have hts := atoms_spec (ws := wsX5_marksWith) B.pre
  have hown : s.vm.findClass RX5 = some m.cls := findClass_of_methodNamed B.named
  have hlocks := B.notSynchronized
  have hS : va_S (MA a) s.heap s.heap [] := va_S.rf
  have hl := lv_entry ([.ref (a 0), .int (iI x)]) (n := 2) (Nat.le_of_ble_eq_true rfl)
  rw [lg_entry_eq]
  generalize (lg_sl ([.ref (a 0), .int (iI x)]) ++ List.replicate (2 - (lg_sl ([.ref (a 0), .int (iI x)])).length) Slot.unset).toArray = ls at hl ⊢
  have hl : lv_has ls 2 [(0, .ref (a 0)), (1, .int (iI x))] := hl
  obtain ⟨hB, hEn, hMk, hAs, hPm⟩ := id hI
  have hf1 := (fbn_1 (σ 0) x (fun k => σ 0 (75 + k)) (σ 4) (σ 0 0 - 1).toNat).1
  refine lv_iload_n hex hbc dX5_marksWith_0 rfl (lv_at hl 1 rfl) ?_
  refine lv_iconst (v := iI 1) hex hbc dX5_marksWith_1 rfl ?_
  refine lv_sipush (v := iI 999) hex hbc dX5_marksWith_2 (by decide) ?_
  refine g_callS [.int (iI x), .int (iI 1), .int (iI 999)] ⟨hex, hbc, hml, hown, hts⟩ (mX5_isIn l x 1 999 (by omega) (by omega) (by omega)) (va_cwS 3 hts gX5_marksWith_X5_isIn rfl rfl rfl (by decide +kernel) ⟨Nat.le_of_ble_eq_true rfl, Nat.le_of_ble_eq_true rfl⟩) hP hS rfl rfl hl.1 (Nat.le_of_ble_eq_true rfl) dX5_marksWith_5 ⟨Nat.zero_le _, Nat.zero_le _⟩ (fun r_5 H locs hw_5 hP hS => ?_)
  obtain ⟨vb5, rfl, hv5⟩ := hw_5
  refine zt_ifb_eq (P := (1 ≤ x ∧ x ≤ 999)) (tgt := 19) hex hbc hv5 dX5_marksWith_8 (by decide) (fun c8 => ?_) (fun c8 => ?_)
  · skip
    refine lv_iconst (v := iI (-1)) hex hbc dX5_marksWith_19 rfl ?_
    exact g_iret hex hbc hrt hlocks hK hP hD hS ⟨fun h => absurd h c8, fun _ => rfl, ⟨rfl, rfl, rfl, rfl, rfl⟩⟩ dX5_marksWith_20
  · skip
    refine lv_aload_n hex hbc dX5_marksWith_11 rfl (lv_at hl 0 rfl) ?_
    refine lv_iload_n hex hbc dX5_marksWith_12 rfl (lv_at hl 1 rfl) ?_
    refine g_calli [.int (iI x)] ⟨hex, hbc, hml, hown, hts⟩ (mX5_findBy l G cx a σ x (by omega) hI) (cwV 1 hts gX5_marksWith_X5_findBy rfl rfl rfl (by decide +kernel) ⟨Nat.le_of_ble_eq_true rfl, Nat.le_of_ble_eq_true rfl⟩) hK hP hD hS (fun _ h => h) 0 5 rfl rfl rfl rfl hl.1 (Nat.le_of_ble_eq_true rfl) dX5_marksWith_13 ⟨Nat.zero_le _, Nat.zero_le _⟩ (fun r_13 u_13 H locs hw_13 hP hD hS hz_13 hk_13 => ?_)
    obtain ⟨rfl, rfl⟩ := hw_13
    have hP : va_P G vwCl (wm cx a (sc σ 4 ((fbn (σ 0) x (σ 4) (σ 0 0 - 1).toNat).2))) H := hP
    have hD : va_D (MA a) (wm cx a (sc σ 4 ((fbn (σ 0) x (σ 4) (σ 0 0 - 1).toNat).2))) := hD
    refine lv_goto (tgt := 20) hex hbc dX5_marksWith_16 (by decide) ?_
    exact g_iret hex hbc hrt hlocks hK hP hD hS ⟨fun _ => congrArg iI hf1, fun h => absurd c8 h, ⟨rfl, rfl, rfl, rfl, rfl⟩⟩ dX5_marksWith_20
set_option maxHeartbeats 4000000 in
set_option maxRecDepth 100000 in
theorem mX5_thresholdFor (l : Launch) (G : va_G) (cx a : Nat → Nat) (σ : Nat → Int → Int)  (x : Int) (hx : -2147483648 ≤ x ∧ x < 2147483648) (hI : Inv (σ 0)) : Met l yX5_thresholdFor wsX5_thresholdFor ({ frames := 1, cells := 0, slots := 0, locals := 23 }) (va_Pc [.ref (a 0), .int (iI x)] (gW G (tm cx) (MA a) (wm cx a) σ)) (va_Qi (fun r u => (¬ (1 ≤ x ∧ x ≤ 16) → iI (-1) = r) ∧ ((1 ≤ x ∧ x ≤ 16) → ∃ v, iI v = r ∧ TF_ (σ 0) x v) ∧ MQ_ σ u) (gW G (tm cx) (MA a) (wm cx a)) (MA a)) 0 0 (MA a) := by
  refine Met.ofW (cc := cX5_thresholdFor) (maxL := 3) (ret := some .int) (by decide) rfl ?_
  intro p e s m args below meth c s₁ B hml hv
  obtain ⟨rfl, hP, hK, hD⟩ := hv
  have hex := B.exec
  have hbc := B.bytes
  have hrt := B.returns
  have hts := atoms_spec (ws := wsX5_thresholdFor) B.pre
  have hown : s.vm.findClass RX5 = some m.cls := findClass_of_methodNamed B.named
  have hlocks := B.notSynchronized
  have hS : va_S (MA a) s.heap s.heap [] := va_S.rf
  have hl := lv_entry ([.ref (a 0), .int (iI x)]) (n := 3) (Nat.le_of_ble_eq_true rfl)
  rw [lg_entry_eq]
  generalize (lg_sl ([.ref (a 0), .int (iI x)]) ++ List.replicate (3 - (lg_sl ([.ref (a 0), .int (iI x)])).length) Slot.unset).toArray = ls at hl ⊢
  have hl : lv_has ls 3 [(0, .ref (a 0)), (1, .int (iI x))] := hl
  obtain ⟨hB, hEn, hMk, hAs, hPm⟩ := id hI
  refine lv_iload_n hex hbc dX5_thresholdFor_0 rfl (lv_at hl 1 rfl) ?_
  refine lv_iconst (v := iI 1) hex hbc dX5_thresholdFor_1 rfl ?_
  refine lv_bipush (v := iI 16) hex hbc dX5_thresholdFor_2 (by decide) ?_
  refine g_callS [.int (iI x), .int (iI 1), .int (iI 16)] ⟨hex, hbc, hml, hown, hts⟩ (mX5_isIn l x 1 16 (by omega) (by omega) (by omega)) (va_cwS 3 hts gX5_thresholdFor_X5_isIn rfl rfl rfl (by decide +kernel) ⟨Nat.le_of_ble_eq_true rfl, Nat.le_of_ble_eq_true rfl⟩) hP hS rfl rfl hl.1 (Nat.le_of_ble_eq_true rfl) dX5_thresholdFor_4 ⟨Nat.zero_le _, Nat.zero_le _⟩ (fun r_4 H locs hw_4 hP hS => ?_)
  obtain ⟨vb4, rfl, hv4⟩ := hw_4
  refine zt_ifb_ne (P := (1 ≤ x ∧ x ≤ 16)) (tgt := 12) hex hbc hv4 dX5_thresholdFor_7 (by decide) (fun c7 => ?_) (fun c7 => ?_)
  · skip
    refine lv_sipush (v := iI 999) hex hbc dX5_thresholdFor_12 (by decide) ?_
    refine lv_istore_n (lv' := [(2, .int (iI 999)), (0, .ref (a 0)), (1, .int (iI x))]) hex hbc dX5_thresholdFor_15 rfl hl (by decide) rfl (fun ls hl => ?_)
    have loop_16 : ∀ (N : Nat) (i1 : Int) (w4 : Int → Int), (0 ≤ i1 ∧ i1 ≤ 999 ∧ ∀ t, i1 < t → t ≤ 999 → fnd (σ 0) t < x) → (i1) < (N : Int) → ∀ (H : Heap) (locs : List Loc) (ls : Array Slot), va_P G vwCl (wm cx a (sc σ 4 w4)) H → va_D (MA a) (wm cx a (sc σ 4 w4)) → va_S (MA a) s.heap H locs → lv_has ls 3 [(2, .int (iI i1)), (0, .ref (a 0)), (1, .int (iI x))] → W p l e (headSpec wsX5_thresholdFor ({ frames := 1, cells := 0, slots := 0, locals := 23 })).room s m ([.ref (a 0), .int (iI x)] : List Value).toArray below meth c H locs 0 0 (MQ below (va_Qi (fun r u => (¬ (1 ≤ x ∧ x ≤ 16) → iI (-1) = r) ∧ ((1 ≤ x ∧ x ≤ 16) → ∃ v, iI v = r ∧ TF_ (σ 0) x v) ∧ MQ_ σ u) (gW G (tm cx) (MA a) (wm cx a)) (MA a)) ([.ref (a 0), .int (iI x)] : List Value).toArray s 0 0 (MA a)) (F0 m 16 ls []) := by
      intro N
      induction N with
      | zero => intro i1 w4 hinv hlt; exfalso; omega
      | succ N ih_16 =>
        intro i1 w4 ⟨hi0, hi1, hw⟩ hlt_16 H locs ls hP hD hS hl
        refine lv_iload_n hex hbc dX5_thresholdFor_16 rfl (lv_at hl 0 rfl) ?_
        refine zt_if_le (a := i1) (tgt := 37) hex hbc (by omega) dX5_thresholdFor_17 (by decide) (fun c17 => ?_) (fun c17 => ?_)
        · skip
          refine lv_bipush (v := iI (-9)) hex hbc dX5_thresholdFor_37 (by decide) ?_
          exact g_iret hex hbc hrt hlocks hK hP hD hS ⟨fun h => absurd c7 h, fun _ => ⟨-9, rfl, Or.inl ⟨rfl, fun t h1 h2 => hw t (by omega) h2⟩⟩, ⟨rfl, rfl, rfl, rfl, rfl⟩⟩ dX5_thresholdFor_39
        · skip
          refine lv_aload_n hex hbc dX5_thresholdFor_20 rfl (lv_at hl 1 rfl) ?_
          refine lv_iload_n hex hbc dX5_thresholdFor_21 rfl (lv_at hl 0 rfl) ?_
          refine g_calli [.int (iI i1)] ⟨hex, hbc, hml, hown, hts⟩ (mX5_findBy l G cx a (sc σ 4 w4) i1 (show -2147483648 ≤ i1 ∧ i1 < 2147483648 from by omega) hI) (cwV 1 hts gX5_thresholdFor_X5_findBy rfl rfl rfl (by decide +kernel) ⟨Nat.le_of_ble_eq_true rfl, Nat.le_of_ble_eq_true rfl⟩) hK hP hD hS (fun _ h => h) 0 5 rfl rfl rfl rfl hl.1 (Nat.le_of_ble_eq_true rfl) dX5_thresholdFor_22 ⟨Nat.zero_le _, Nat.zero_le _⟩ (fun r_22 u_22 H locs hw_22 hP hD hS hz_22 hk_22 => ?_)
          obtain ⟨rfl, rfl⟩ := hw_22
          have hP : va_P G vwCl (wm cx a (sc σ 4 ((fbn (σ 0) i1 (w4) (σ 0 0 - 1).toNat).2))) H := hP
          have hD : va_D (MA a) (wm cx a (sc σ 4 ((fbn (σ 0) i1 (w4) (σ 0 0 - 1).toNat).2))) := hD
          have hf1 : fnd (σ 0) i1 = (fbn (σ 0) i1 w4 (σ 0 0 - 1).toNat).1 := (fbn_1 (σ 0) i1 (fun k => σ 0 (75 + k)) w4 (σ 0 0 - 1).toNat).1
          have hfi := fbn_in (σ 0) i1 w4 (σ 0 0 - 1).toNat
          have hfi1 := hfi.1
          have hfi2 := hfi.2.1
          refine lv_iload_n hex hbc dX5_thresholdFor_25 rfl (lv_at hl 2 rfl) ?_
          refine zt_icmp_lt (a := ((fbn (σ 0) i1 (w4) (σ 0 0 - 1).toNat).1)) (b := x) (tgt := 31) hex hbc (by omega) dX5_thresholdFor_26 (by decide) (fun c26 => ?_) (fun c26 => ?_)
          · skip
            refine lv_iinc (v := iI (i1 + (-1))) (lv' := [(2, .int (iI (i1 + (-1)))), (0, .ref (a 0)), (1, .int (iI x))]) hex hbc dX5_thresholdFor_31 hl (k := 0) rfl (iI_add _ _) (by decide) rfl (fun ls hl => ?_)
            refine lv_goto (tgt := 16) hex hbc dX5_thresholdFor_34 (by decide) ?_
            exact ih_16 (i1 + (-1)) ((fbn (σ 0) i1 (w4) (σ 0 0 - 1).toNat).2) ⟨by omega, by omega, fun t h1 h2 => if hq : t = i1 then (by rw [hq]; omega) else hw t (by omega) h2⟩ (by omega) _ _ _ hP hD hS (lv_sub hl [0, 1, 2] rfl)
          · skip
            refine lv_iload_n hex hbc dX5_thresholdFor_29 rfl (lv_at hl 0 rfl) ?_
            exact g_iret hex hbc hrt hlocks hK hP hD hS ⟨fun h => absurd c7 h, fun _ => ⟨i1, rfl, Or.inr ⟨by omega, hi1, by omega, hw⟩⟩, ⟨rfl, rfl, rfl, rfl, rfl⟩⟩ dX5_thresholdFor_30
    exact loop_16 _ 999 (σ 4) ⟨by omega, by omega, fun t h1 h2 => by omega⟩ (mz_lt _) _ _ _ hP hD hS (lv_sub hl [0, 1, 2] rfl)
  · skip
    refine lv_iconst (v := iI (-1)) hex hbc dX5_thresholdFor_10 rfl ?_
    exact g_iret hex hbc hrt hlocks hK hP hD hS ⟨fun _ => rfl, fun h => absurd h c7, ⟨rfl, rfl, rfl, rfl, rfl⟩⟩ dX5_thresholdFor_11
