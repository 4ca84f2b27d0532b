/-! the reference: its budgets, fades, places (rows laid by wip/gen) -/
theorem iX5_layFree_X5 : ∀ w ∈ wsX50, w ∈ wsX5_layFree := fun _ h => List.mem_cons_of_mem _ (List.mem_append_right _ h)
set_option maxHeartbeats 4000000 in
set_option maxRecDepth 100000 in
theorem mX5_layFree (l : Launch) (G : va_G) (cx a : Nat → Nat) (σ : Nat → Int → Int)   (hI : Inv (σ 0)) : Met l yX5_layFree wsX5_layFree ({ frames := 3, cells := 0, slots := 0, locals := 63 }) (va_Pc [.ref (a 0)] (gW G (tm cx) (MA a) (wm cx a) σ)) (va_Qv (fun u => ∃ f5 f8, (∀ k, 0 ≤ k → k < σ 0 74 → f5 k = fbu (σ 0) k) ∧ sc (sc σ 5 f5) 8 f8 = u) (gW G (tm cx) (MA a) (wm cx a)) (MA a)) 0 0 (MA a) := by
  refine Met.ofW (cc := cX5_layFree) (maxL := 6) (ret := none) (by decide) rfl ?_
  intro p e s m args below meth c s₁ B hml hv
  obtain ⟨rfl, hP, hK, hD⟩ := hv
  have hex := B.exec
  have hbc := B.bytes
  have hrt := B.returns
  have hts := atoms_spec (ws := wsX5_layFree) B.pre
  have hown : s.vm.findClass RX5 = some m.cls := findClass_of_methodNamed B.named
  have hlocks := B.notSynchronized
  have hS : va_S (MA a) s.heap s.heap [] := va_S.rf
  have hin5 := iX5_layFree_X5
  have hl := lv_entry ([.ref (a 0)]) (n := 6) (Nat.le_of_ble_eq_true rfl)
  rw [lg_entry_eq]
  generalize (lg_sl ([.ref (a 0)]) ++ List.replicate (6 - (lg_sl ([.ref (a 0)])).length) Slot.unset).toArray = ls at hl ⊢
  have hl : lv_has ls 6 [(0, .ref (a 0))] := hl
  obtain ⟨hB, hEn, hMk, hAs, hPm⟩ := id hI
  have hwh := hI.wh_in
  have hlf := left_in hI
  have hb0p : ∀ n : Nat, (n : Int) ≤ σ 0 74 → sumN (b0_ (σ 0)) n ≤ σ 0 6 := fun n hn => by have h1 := sumN_mono (f := b0_ (σ 0)) n ((σ 0 74).toNat - n) (fun k k0 k1 => (b0_in hI k0 (by omega)).1); rw [show n + ((σ 0 74).toNat - n) = (σ 0 74).toNat by omega] at h1; unfold left_ at hlf; omega
  have hb0q : ∀ n : Nat, (n : Int) ≤ σ 0 74 → 0 ≤ sumN (b0_ (σ 0)) n := fun n hn => sumN_pos n (fun k k0 k1 => (b0_in hI k0 (by omega)).1)
  refine lv_iconst (v := iI 0) hex hbc dX5_layFree_0 rfl ?_
  refine lv_istore_n (lv' := [(1, .int (iI 0)), (0, .ref (a 0))]) hex hbc dX5_layFree_1 rfl hl (by decide) rfl (fun ls hl => ?_)
  refine lv_iconst (v := iI 0) hex hbc dX5_layFree_2 rfl ?_
  refine lv_istore_n (lv' := [(2, .int (iI 0)), (1, .int (iI 0)), (0, .ref (a 0))]) hex hbc dX5_layFree_3 rfl hl (by decide) rfl (fun ls hl => ?_)
  have loop_4 : ∀ (N : Nat) (i1 : Int) (g1 : Int) (w5 : Int → Int), (0 ≤ i1 ∧ i1 ≤ σ 0 74 ∧ g1 = sumN (b0_ (σ 0)) i1.toNat ∧ ∀ k, 0 ≤ k → k < i1 → w5 k = b0_ (σ 0) k) → (σ 0 74 - i1) < (N : Int) → ∀ (H : Heap) (locs : List Loc) (ls : Array Slot), va_P G vwCl (wm cx a (sc σ 5 w5)) H → va_D (MA a) (wm cx a (sc σ 5 w5)) → va_S (MA a) s.heap H locs → lv_has ls 6 [(2, .int (iI i1)), (1, .int (iI g1)), (0, .ref (a 0))] → W p l e (headSpec wsX5_layFree ({ frames := 3, cells := 0, slots := 0, locals := 63 })).room s m ([.ref (a 0)] : List Value).toArray below meth c H locs 0 0 (MQ below (va_Qv (fun u => ∃ f5 f8, (∀ k, 0 ≤ k → k < σ 0 74 → f5 k = fbu (σ 0) k) ∧ sc (sc σ 5 f5) 8 f8 = u) (gW G (tm cx) (MA a) (wm cx a)) (MA a)) ([.ref (a 0)] : List Value).toArray s 0 0 (MA a)) (F0 m 4 ls []) := by
    intro N
    induction N with
    | zero => intro i1 g1 w5 hinv hlt; exfalso; omega
    | succ N ih_4 =>
      intro i1 g1 w5 ⟨hi0, hi1, hg1, hw5⟩ hlt_4 H locs ls hP hD hS hl
      have hgp := hb0p i1.toNat (by omega)
      have hgq := hb0q i1.toNat (by omega)
      refine lv_iload_n hex hbc dX5_layFree_4 rfl (lv_at hl 0 rfl) ?_
      refine lv_aload_n hex hbc dX5_layFree_5 rfl (lv_at hl 2 rfl) ?_
      refine va_get (v := .ref (a 1)) hex hbc hts hin5 hown hK hP 0 rfl rfl 0 (by decide) (hts _ (List.mem_of_getElem? (i := 1) rfl)) (fun _ h => h) rfl dX5_layFree_6 ?_
      refine lv_bipush (v := iI 74) hex hbc dX5_layFree_9 (by decide) ?_
      refine g_iald (f := (σ 0)) (v := (σ 0 74)) (i := 74) hex hbc hK hP 1 0 rfl rfl (by decide) (by omega) rfl dX5_layFree_11 ?_
      refine zt_icmp_ge (a := i1) (b := (σ 0 74)) (tgt := 58) hex hbc (by omega) dX5_layFree_12 (by decide) (fun c12 => ?_) (fun c12 => ?_)
      · skip
        refine lv_iconst (v := iI 0) hex hbc dX5_layFree_58 rfl ?_
        refine lv_istore_n (lv' := [(2, .int (iI 0)), (1, .int (iI g1)), (0, .ref (a 0))]) hex hbc dX5_layFree_59 rfl hl (by decide) rfl (fun ls hl => ?_)
        have loop_60 : ∀ (N : Nat) (i2 : Int) (w8 : Int → Int), (0 ≤ i2 ∧ i2 ≤ 16 ∧ ∀ k, 0 ≤ k → k < i2 → w8 k = 0) → (16 - i2) < (N : Int) → ∀ (H : Heap) (locs : List Loc) (ls : Array Slot), va_P G vwCl (wm cx a (sc (sc σ 5 w5) 8 w8)) H → va_D (MA a) (wm cx a (sc (sc σ 5 w5) 8 w8)) → va_S (MA a) s.heap H locs → lv_has ls 6 [(2, .int (iI i2)), (1, .int (iI g1)), (0, .ref (a 0))] → W p l e (headSpec wsX5_layFree ({ frames := 3, cells := 0, slots := 0, locals := 63 })).room s m ([.ref (a 0)] : List Value).toArray below meth c H locs 0 0 (MQ below (va_Qv (fun u => ∃ f5 f8, (∀ k, 0 ≤ k → k < σ 0 74 → f5 k = fbu (σ 0) k) ∧ sc (sc σ 5 f5) 8 f8 = u) (gW G (tm cx) (MA a) (wm cx a)) (MA a)) ([.ref (a 0)] : List Value).toArray s 0 0 (MA a)) (F0 m 60 ls []) := by
          intro N
          induction N with
          | zero => intro i2 w8 hinv hlt; exfalso; omega
          | succ N ih_60 =>
            intro i2 w8 ⟨hj0, hj1, hw8⟩ hlt_60 H locs ls hP hD hS hl
            refine lv_iload_n hex hbc dX5_layFree_60 rfl (lv_at hl 0 rfl) ?_
            refine lv_bipush (v := iI 16) hex hbc dX5_layFree_61 (by decide) ?_
            refine zt_icmp_ge (a := i2) (b := 16) (tgt := 79) hex hbc (by omega) dX5_layFree_63 (by decide) (fun c63 => ?_) (fun c63 => ?_)
            · skip
              refine lv_aload_n hex hbc dX5_layFree_79 rfl (lv_at hl 2 rfl) ?_
              refine va_get (v := .ref (a 1)) hex hbc hts hin5 hown hK hP 0 rfl rfl 0 (by decide) (hts _ (List.mem_of_getElem? (i := 1) rfl)) (fun _ h => h) rfl dX5_layFree_80 ?_
              refine lv_bipush (v := iI 6) hex hbc dX5_layFree_83 (by decide) ?_
              refine g_iald (f := (σ 0)) (v := (σ 0 6)) (i := 6) hex hbc hK hP 1 0 rfl rfl (by decide) (by omega) rfl dX5_layFree_85 ?_
              refine lv_iload_n hex hbc dX5_layFree_86 rfl (lv_at hl 1 rfl) ?_
              refine zt_isub hex hbc dX5_layFree_87 ?_
              refine lv_istore_n (lv' := [(2, .int (iI ((σ 0 6) - g1))), (1, .int (iI g1)), (0, .ref (a 0))]) hex hbc dX5_layFree_88 rfl hl (by decide) rfl (fun ls hl => ?_)
              have loop_89 : ∀ (N : Nat) (n1 : Nat) (l2 : Int) (v5 : Int → Int) (v8 : Int → Int), (l2 = left_ (σ 0) - (n1 : Int) ∧ 0 ≤ l2 ∧ (∀ k, 0 ≤ k → k < σ 0 74 → v5 k = b0_ (σ 0) k + sv_ (σ 0) n1 k) ∧ (∀ k, 0 ≤ k → k < σ 0 74 → v8 k = sv_ (σ 0) n1 k)) → (l2) < (N : Int) → ∀ (H : Heap) (locs : List Loc) (ls : Array Slot), va_P G vwCl (wm cx a (sc (sc σ 5 v5) 8 v8)) H → va_D (MA a) (wm cx a (sc (sc σ 5 v5) 8 v8)) → va_S (MA a) s.heap H locs → lv_has ls 6 [(2, .int (iI l2)), (0, .ref (a 0))] → W p l e (headSpec wsX5_layFree ({ frames := 3, cells := 0, slots := 0, locals := 63 })).room s m ([.ref (a 0)] : List Value).toArray below meth c H locs 0 0 (MQ below (va_Qv (fun u => ∃ f5 f8, (∀ k, 0 ≤ k → k < σ 0 74 → f5 k = fbu (σ 0) k) ∧ sc (sc σ 5 f5) 8 f8 = u) (gW G (tm cx) (MA a) (wm cx a)) (MA a)) ([.ref (a 0)] : List Value).toArray s 0 0 (MA a)) (F0 m 89 ls []) := by
                intro N
                induction N with
                | zero => intro n1 l2 v5 v8 hinv hlt; exfalso; omega
                | succ N ih_89 =>
                  intro n1 l2 v5 v8 ⟨hl2, hl3, hb9, hv8⟩ hlt_89 H locs ls hP hD hS hl
                  refine lv_iload_n hex hbc dX5_layFree_89 rfl (lv_at hl 0 rfl) ?_
                  refine zt_if_le (a := l2) (tgt := 190) hex hbc (by omega) dX5_layFree_90 (by decide) (fun c90 => ?_) (fun c90 => ?_)
                  · skip
                    exact g_vret hex hbc hrt hlocks hK hP hD hS ⟨v5, v8, fun k k0 k1 => (by rw [hb9 k k0 k1]; unfold fbu; rw [show (left_ (σ 0)).toNat = n1 by omega]), rfl⟩ dX5_layFree_190
                  · skip
                    refine lv_bipush (v := iI (-9)) hex hbc dX5_layFree_93 (by decide) ?_
                    refine lv_istore_n (lv' := [(3, .int (iI (-9))), (2, .int (iI l2)), (0, .ref (a 0))]) hex hbc dX5_layFree_95 rfl hl (by decide) rfl (fun ls hl => ?_)
                    refine lv_iconst (v := iI 0) hex hbc dX5_layFree_96 rfl ?_
                    refine lv_istore (lv' := [(4, .int (iI 0)), (3, .int (iI (-9))), (2, .int (iI l2)), (0, .ref (a 0))]) hex hbc dX5_layFree_97 hl (by decide) rfl (fun ls hl => ?_)
                    have loop_99 : ∀ (N : Nat) (i3 : Int) (t1 : Int), (0 ≤ i3 ∧ i3 ≤ σ 0 74 ∧ PK (σ 0) n1 i3 t1) → (σ 0 74 - i3) < (N : Int) → ∀ (H : Heap) (locs : List Loc) (ls : Array Slot), va_P G vwCl (wm cx a (sc (sc σ 5 v5) 8 v8)) H → va_D (MA a) (wm cx a (sc (sc σ 5 v5) 8 v8)) → va_S (MA a) s.heap H locs → lv_has ls 6 [(4, .int (iI i3)), (3, .int (iI t1)), (2, .int (iI l2)), (0, .ref (a 0))] → W p l e (headSpec wsX5_layFree ({ frames := 3, cells := 0, slots := 0, locals := 63 })).room s m ([.ref (a 0)] : List Value).toArray below meth c H locs 0 0 (MQ below (va_Qv (fun u => ∃ f5 f8, (∀ k, 0 ≤ k → k < σ 0 74 → f5 k = fbu (σ 0) k) ∧ sc (sc σ 5 f5) 8 f8 = u) (gW G (tm cx) (MA a) (wm cx a)) (MA a)) ([.ref (a 0)] : List Value).toArray s 0 0 (MA a)) (F0 m 99 ls []) := by
                      intro N
                      induction N with
                      | zero => intro i3 t1 hinv hlt; exfalso; omega
                      | succ N ih_99 =>
                        intro i3 t1 ⟨hm0, hm1, hpk⟩ hlt_99 H locs ls hP hD hS hl
                        have hpr := PK_rng hpk
                        have hsv := (sv_in hI n1 (by omega)).2 i3
                        have hr3 := rm_in hI i3
                        have hr1 := rm_in hI t1
                        have hr3e : rm_ (σ 0) i3 = ln (σ 0) i3 * σ 0 6 % (σ 0 0 * σ 0 1) := rfl
                        have hr1e : rm_ (σ 0) t1 = ln (σ 0) t1 * σ 0 6 % (σ 0 0 * σ 0 1) := rfl
                        refine lv_iload hex hbc dX5_layFree_99 (lv_at hl 0 rfl) ?_
                        refine lv_aload_n hex hbc dX5_layFree_101 rfl (lv_at hl 3 rfl) ?_
                        refine va_get (v := .ref (a 1)) hex hbc hts hin5 hown hK hP 0 rfl rfl 0 (by decide) (hts _ (List.mem_of_getElem? (i := 1) rfl)) (fun _ h => h) rfl dX5_layFree_102 ?_
                        refine lv_bipush (v := iI 74) hex hbc dX5_layFree_105 (by decide) ?_
                        refine g_iald (f := (σ 0)) (v := (σ 0 74)) (i := 74) hex hbc hK hP 1 0 rfl rfl (by decide) (by omega) rfl dX5_layFree_107 ?_
                        refine zt_icmp_ge (a := i3) (b := (σ 0 74)) (tgt := 167) hex hbc (by omega) dX5_layFree_108 (by decide) (fun c108 => ?_) (fun c108 => ?_)
                        · skip
                          have hpe : PK (σ 0) n1 (σ 0 74) t1 := by rw [show σ 0 74 = i3 by omega]; exact hpk
                          obtain ⟨hp0, hp1, hp2⟩ := PK_end hI (n := n1) (by omega) hpe
                          have hnew := sv_new hI (n := n1) (by omega)
                          rw [← hp2] at hnew
                          have hsu : sv_ (σ 0) (n1 + 1) = ups (sv_ (σ 0) n1) t1 1 := by rw [hp2]; rfl
                          have hbt := b0_in hI hp0 hp1
                          refine lv_aload_n hex hbc dX5_layFree_167 rfl (lv_at hl 3 rfl) ?_
                          refine va_get (v := .ref (a 8)) hex hbc hts hin5 hown hK hP 0 rfl rfl 10 (by decide) (hts _ (List.mem_of_getElem? (i := 3) rfl)) (fun _ h => h) rfl dX5_layFree_168 ?_
                          refine lv_iload_n hex hbc dX5_layFree_171 rfl (lv_at hl 1 rfl) ?_
                          refine lv_iconst (v := iI 1) hex hbc dX5_layFree_172 rfl ?_
                          have hi_173 : (0 : Int) ≤ t1 ∧ t1 < (16 : Int) := (by omega)
                          refine g_zast (σ := (sc (sc σ 5 v5) 8 v8)) (f := v8) (i := t1) (v := 1) (τ := st (sc (sc σ 5 v5) 8 v8) 8 t1 1) hex hbc hK hP hD hS 8 2 rfl rfl (by decide) hi_173 (by omega) dX5_layFree_173 (wm_up_8 hi_173) (fun H locs hP hD hS => ?_)
                          obtain ⟨f8_173, ef8_173⟩ : ∃ z : Int → Int, z = ups v8 t1 1 := ⟨_, rfl⟩
                          have hP : va_P G vwCl (wm cx a (sc (sc σ 5 v5) 8 f8_173)) H := by rw [ef8_173]; exact hP
                          have hD : va_D (MA a) (wm cx a (sc (sc σ 5 v5) 8 f8_173)) := by rw [ef8_173]; exact hD
                          refine lv_aload_n hex hbc dX5_layFree_174 rfl (lv_at hl 3 rfl) ?_
                          refine va_get (v := .ref (a 5)) hex hbc hts hin5 hown hK hP 0 rfl rfl 6 (by decide) (hts _ (List.mem_of_getElem? (i := 2) rfl)) (fun _ h => h) rfl dX5_layFree_175 ?_
                          refine lv_iload_n hex hbc dX5_layFree_178 rfl (lv_at hl 1 rfl) ?_
                          refine lv_dup2_11 hex hbc dX5_layFree_179 rfl rfl ?_
                          refine g_iald (f := v5) (v := (v5 t1)) (i := t1) hex hbc hK hP 5 0 rfl rfl (by decide) (by omega) rfl dX5_layFree_180 ?_
                          refine lv_iconst (v := iI 1) hex hbc dX5_layFree_181 rfl ?_
                          refine zt_iadd hex hbc dX5_layFree_182 ?_
                          have hi_183 : (0 : Int) ≤ t1 ∧ t1 < (16 : Int) := (by omega)
                          refine g_iast (σ := (sc (sc σ 5 v5) 8 f8_173)) (f := v5) (i := t1) (v := ((v5 t1) + 1)) (τ := st (sc (sc σ 5 v5) 8 f8_173) 5 t1 ((v5 t1) + 1)) hex hbc hK hP hD hS 5 0 rfl rfl (by decide) hi_183 dX5_layFree_183 (wm_up_5 hi_183) (fun H locs hP hD hS => ?_)
                          obtain ⟨f5_183, ef5_183⟩ : ∃ z : Int → Int, z = ups v5 t1 ((v5 t1) + 1) := ⟨_, rfl⟩
                          have hP : va_P G vwCl (wm cx a (sc (sc σ 5 f5_183) 8 f8_173)) H := by rw [ef5_183]; exact hP
                          have hD : va_D (MA a) (wm cx a (sc (sc σ 5 f5_183) 8 f8_173)) := by rw [ef5_183]; exact hD
                          refine lv_iinc (v := iI (l2 + (-1))) (lv' := [(2, .int (iI (l2 + (-1)))), (4, .int (iI i3)), (3, .int (iI t1)), (0, .ref (a 0))]) hex hbc dX5_layFree_184 hl (k := 2) rfl (iI_add _ _) (by decide) rfl (fun ls hl => ?_)
                          refine lv_goto (tgt := 89) hex hbc dX5_layFree_187 (by decide) ?_
                          exact ih_89 (n1 + 1) (l2 + (-1)) f5_183 f8_173 ⟨by omega, by omega, fun k k0 k1 => (if hq : k = t1 then (by rw [ef5_183, hsu, hq, ups_s, ups_s, hb9 t1 (by omega) (by omega), hnew]; omega) else (by rw [ef5_183, hsu, ups_n _ _ hq, ups_n _ _ hq]; exact hb9 k k0 k1)), fun k k0 k1 => (if hq : k = t1 then (by rw [ef8_173, hsu, hq, ups_s, ups_s]) else (by rw [ef8_173, hsu, ups_n _ _ hq, ups_n _ _ hq]; exact hv8 k k0 k1))⟩ (by omega) _ _ _ hP hD hS (lv_sub hl [0, 3] rfl)
                        · skip
                          refine lv_aload_n hex hbc dX5_layFree_111 rfl (lv_at hl 3 rfl) ?_
                          refine va_get (v := .ref (a 8)) hex hbc hts hin5 hown hK hP 0 rfl rfl 10 (by decide) (hts _ (List.mem_of_getElem? (i := 3) rfl)) (fun _ h => h) rfl dX5_layFree_112 ?_
                          refine lv_iload hex hbc dX5_layFree_115 (lv_at hl 0 rfl) ?_
                          refine g_zald (f := v8) (v := (v8 i3)) (i := i3) hex hbc hK hP 8 2 rfl rfl (by decide) (by omega) rfl dX5_layFree_117 ?_
                          refine zt_nm (a := (v8 i3)) (b := (sv_ (σ 0) n1 i3)) (hv8 i3 hm0 (by omega)) ?_
                          refine zt_if_ne (a := (sv_ (σ 0) n1 i3)) (tgt := 146) hex hbc (by omega) dX5_layFree_118 (by decide) (fun c118 => ?_) (fun c118 => ?_)
                          · skip
                            refine lv_iconst (v := iI 0) hex hbc dX5_layFree_146 rfl ?_
                            refine lv_istore (lv' := [(5, .int (iI 0)), (4, .int (iI i3)), (3, .int (iI t1)), (2, .int (iI l2)), (0, .ref (a 0))]) hex hbc dX5_layFree_147 hl (by decide) rfl (fun ls hl => ?_)
                            refine lv_iload hex hbc dX5_layFree_149 (lv_at hl 0 rfl) ?_
                            refine zt_if_eq (a := 0) (tgt := 159) hex hbc (by decide) dX5_layFree_151 (by decide) (fun _ => ?_) (fun h => absurd h (by decide))
                            refine lv_iload_n hex hbc dX5_layFree_159 rfl (lv_at hl 2 rfl) ?_
                            refine lv_istore_n (lv' := [(3, .int (iI t1)), (5, .int (iI 0)), (4, .int (iI i3)), (2, .int (iI l2)), (0, .ref (a 0))]) hex hbc dX5_layFree_160 rfl hl (by decide) rfl (fun ls hl => ?_)
                            refine lv_iinc (v := iI (i3 + 1)) (lv' := [(4, .int (iI (i3 + 1))), (3, .int (iI t1)), (5, .int (iI 0)), (2, .int (iI l2)), (0, .ref (a 0))]) hex hbc dX5_layFree_161 hl (k := 2) rfl (iI_add _ _) (by decide) rfl (fun ls hl => ?_)
                            refine lv_goto (tgt := 99) hex hbc dX5_layFree_164 (by decide) ?_
                            exact ih_99 (i3 + 1) t1 ⟨by omega, by omega, by first | exact PK_s hI hm0 hpk (hsv.elim (fun q => absurd q c118) (fun q => q)) | exact PK_n hI hm0 (c124 ▸ hpk) c118 | exact PK_gt hm0 hpk c124 c118 (by omega) | exact PK_le hpk c124 c118 (by omega)⟩ (by omega) _ _ _ hP hD hS (lv_sub hl [0, 1, 3, 4] rfl)
                          · skip
                            refine lv_iload_n hex hbc dX5_layFree_121 rfl (lv_at hl 1 rfl) ?_
                            refine lv_bipush (v := iI (-9)) hex hbc dX5_layFree_122 (by decide) ?_
                            refine zt_icmp_eq (a := t1) (b := (-9)) (tgt := 142) hex hbc (by omega) dX5_layFree_124 (by decide) (fun c124 => ?_) (fun c124 => ?_)
                            · skip
                              refine lv_iconst (v := iI 1) hex hbc dX5_layFree_142 rfl ?_
                              refine lv_goto (tgt := 147) hex hbc dX5_layFree_143 (by decide) ?_
                              refine lv_istore (lv' := [(5, .int (iI 1)), (4, .int (iI i3)), (3, .int (iI t1)), (2, .int (iI l2)), (0, .ref (a 0))]) hex hbc dX5_layFree_147 hl (by decide) rfl (fun ls hl => ?_)
                              refine lv_iload hex hbc dX5_layFree_149 (lv_at hl 0 rfl) ?_
                              refine zt_if_eq (a := 1) (tgt := 159) hex hbc (by decide) dX5_layFree_151 (by decide) (fun h => absurd h (by decide)) (fun _ => ?_)
                              refine lv_iload hex hbc dX5_layFree_154 (lv_at hl 1 rfl) ?_
                              refine lv_goto (tgt := 160) hex hbc dX5_layFree_156 (by decide) ?_
                              refine lv_istore_n (lv' := [(3, .int (iI i3)), (5, .int (iI 1)), (4, .int (iI i3)), (2, .int (iI l2)), (0, .ref (a 0))]) hex hbc dX5_layFree_160 rfl hl (by decide) rfl (fun ls hl => ?_)
                              refine lv_iinc (v := iI (i3 + 1)) (lv' := [(4, .int (iI (i3 + 1))), (3, .int (iI i3)), (5, .int (iI 1)), (2, .int (iI l2)), (0, .ref (a 0))]) hex hbc dX5_layFree_161 hl (k := 2) rfl (iI_add _ _) (by decide) rfl (fun ls hl => ?_)
                              refine lv_goto (tgt := 99) hex hbc dX5_layFree_164 (by decide) ?_
                              exact ih_99 (i3 + 1) i3 ⟨by omega, by omega, by first | exact PK_s hI hm0 hpk (hsv.elim (fun q => absurd q c118) (fun q => q)) | exact PK_n hI hm0 (c124 ▸ hpk) c118 | exact PK_gt hm0 hpk c124 c118 (by omega) | exact PK_le hpk c124 c118 (by omega)⟩ (by omega) _ _ _ hP hD hS (lv_sub hl [0, 1, 3, 4] rfl)
                            · skip
                              refine lv_aload_n hex hbc dX5_layFree_127 rfl (lv_at hl 3 rfl) ?_
                              refine lv_iload hex hbc dX5_layFree_128 (lv_at hl 0 rfl) ?_
                              refine g_calll [.int (iI i3)] ⟨hex, hbc, hml, hown, hts⟩ (mX5_remainder l G cx a (sc (sc σ 5 v5) 8 v8) i3 (show 0 ≤ i3 ∧ i3 < σ 0 74 from by omega) hI) (cwV 1 hts gX5_layFree_X5_remainder rfl rfl rfl (by decide +kernel) ⟨Nat.le_of_ble_eq_true rfl, Nat.le_of_ble_eq_true rfl⟩) hK hP hD hS (fun _ h => h) 0 5 rfl rfl rfl rfl hl.1 (Nat.le_of_ble_eq_true rfl) dX5_layFree_130 ⟨Nat.zero_le _, Nat.zero_le _⟩ (fun r_130 u_130 H locs hw_130 hP hD hS hz_130 hk_130 => ?_)
                              obtain ⟨rfl, rfl⟩ := hw_130
                              refine lv_aload_n hex hbc dX5_layFree_133 rfl (lv_at hl 3 rfl) ?_
                              refine lv_iload_n hex hbc dX5_layFree_134 rfl (lv_at hl 1 rfl) ?_
                              refine g_calll [.int (iI t1)] ⟨hex, hbc, hml, hown, hts⟩ (mX5_remainder l G cx a (sc (sc σ 5 v5) 8 v8) t1 (show 0 ≤ t1 ∧ t1 < σ 0 74 from by omega) hI) (cwV 1 hts gX5_layFree_X5_remainder rfl rfl rfl (by decide +kernel) ⟨Nat.le_of_ble_eq_true rfl, Nat.le_of_ble_eq_true rfl⟩) hK hP hD hS (fun _ h => h) 0 5 rfl rfl rfl rfl hl.1 (Nat.le_of_ble_eq_true rfl) dX5_layFree_135 ⟨Nat.zero_le _, Nat.zero_le _⟩ (fun r_135 u_135 H locs hw_135 hP hD hS hz_135 hk_135 => ?_)
                              obtain ⟨rfl, rfl⟩ := hw_135
                              refine zt_lcmp (a := (ln (σ 0) i3 * σ 0 6 % (σ 0 0 * σ 0 1))) (b := (ln (σ 0) t1 * σ 0 6 % (σ 0 0 * σ 0 1))) hex hbc (by omega) dX5_layFree_138 (fun dc138 hdc138 => ?_)
                              refine zt_if_le (a := dc138) (tgt := 146) hex hbc (by omega) dX5_layFree_139 (by decide) (fun c139 => ?_) (fun c139 => ?_)
                              · skip
                                refine lv_iconst (v := iI 0) hex hbc dX5_layFree_146 rfl ?_
                                refine lv_istore (lv' := [(5, .int (iI 0)), (4, .int (iI i3)), (3, .int (iI t1)), (2, .int (iI l2)), (0, .ref (a 0))]) hex hbc dX5_layFree_147 hl (by decide) rfl (fun ls hl => ?_)
                                refine lv_iload hex hbc dX5_layFree_149 (lv_at hl 0 rfl) ?_
                                refine zt_if_eq (a := 0) (tgt := 159) hex hbc (by decide) dX5_layFree_151 (by decide) (fun _ => ?_) (fun h => absurd h (by decide))
                                refine lv_iload_n hex hbc dX5_layFree_159 rfl (lv_at hl 2 rfl) ?_
                                refine lv_istore_n (lv' := [(3, .int (iI t1)), (5, .int (iI 0)), (4, .int (iI i3)), (2, .int (iI l2)), (0, .ref (a 0))]) hex hbc dX5_layFree_160 rfl hl (by decide) rfl (fun ls hl => ?_)
                                refine lv_iinc (v := iI (i3 + 1)) (lv' := [(4, .int (iI (i3 + 1))), (3, .int (iI t1)), (5, .int (iI 0)), (2, .int (iI l2)), (0, .ref (a 0))]) hex hbc dX5_layFree_161 hl (k := 2) rfl (iI_add _ _) (by decide) rfl (fun ls hl => ?_)
                                refine lv_goto (tgt := 99) hex hbc dX5_layFree_164 (by decide) ?_
                                exact ih_99 (i3 + 1) t1 ⟨by omega, by omega, by first | exact PK_s hI hm0 hpk (hsv.elim (fun q => absurd q c118) (fun q => q)) | exact PK_n hI hm0 (c124 ▸ hpk) c118 | exact PK_gt hm0 hpk c124 c118 (by omega) | exact PK_le hpk c124 c118 (by omega)⟩ (by omega) _ _ _ hP hD hS (lv_sub hl [0, 1, 3, 4] rfl)
                              · skip
                                refine lv_iconst (v := iI 1) hex hbc dX5_layFree_142 rfl ?_
                                refine lv_goto (tgt := 147) hex hbc dX5_layFree_143 (by decide) ?_
                                refine lv_istore (lv' := [(5, .int (iI 1)), (4, .int (iI i3)), (3, .int (iI t1)), (2, .int (iI l2)), (0, .ref (a 0))]) hex hbc dX5_layFree_147 hl (by decide) rfl (fun ls hl => ?_)
                                refine lv_iload hex hbc dX5_layFree_149 (lv_at hl 0 rfl) ?_
                                refine zt_if_eq (a := 1) (tgt := 159) hex hbc (by decide) dX5_layFree_151 (by decide) (fun h => absurd h (by decide)) (fun _ => ?_)
                                refine lv_iload hex hbc dX5_layFree_154 (lv_at hl 1 rfl) ?_
                                refine lv_goto (tgt := 160) hex hbc dX5_layFree_156 (by decide) ?_
                                refine lv_istore_n (lv' := [(3, .int (iI i3)), (5, .int (iI 1)), (4, .int (iI i3)), (2, .int (iI l2)), (0, .ref (a 0))]) hex hbc dX5_layFree_160 rfl hl (by decide) rfl (fun ls hl => ?_)
                                refine lv_iinc (v := iI (i3 + 1)) (lv' := [(4, .int (iI (i3 + 1))), (3, .int (iI i3)), (5, .int (iI 1)), (2, .int (iI l2)), (0, .ref (a 0))]) hex hbc dX5_layFree_161 hl (k := 2) rfl (iI_add _ _) (by decide) rfl (fun ls hl => ?_)
                                refine lv_goto (tgt := 99) hex hbc dX5_layFree_164 (by decide) ?_
                                exact ih_99 (i3 + 1) i3 ⟨by omega, by omega, by first | exact PK_s hI hm0 hpk (hsv.elim (fun q => absurd q c118) (fun q => q)) | exact PK_n hI hm0 (c124 ▸ hpk) c118 | exact PK_gt hm0 hpk c124 c118 (by omega) | exact PK_le hpk c124 c118 (by omega)⟩ (by omega) _ _ _ hP hD hS (lv_sub hl [0, 1, 3, 4] rfl)
                    exact loop_99 _ 0 (-9) ⟨by omega, by omega, Or.inl ⟨rfl, fun k k0 k1 => by omega⟩⟩ (mz_lt _) _ _ _ hP hD hS (lv_sub hl [0, 1, 2, 3] rfl)
              exact loop_89 _ 0 ((σ 0 6) - g1) w5 w8 ⟨by unfold left_; rw [hg1, show i1 = σ 0 74 by omega]; omega, by unfold left_ at hlf; rw [hg1, show i1 = σ 0 74 by omega]; omega, fun k k0 k1 => (by rw [hw5 k k0 (by omega)]; show _ = _ + 0; omega), fun k k0 k1 => (by rw [hw8 k k0 (by omega)]; rfl)⟩ (mz_lt _) _ _ _ hP hD hS (lv_sub hl [0, 2] rfl)
            · skip
              refine lv_aload_n hex hbc dX5_layFree_66 rfl (lv_at hl 2 rfl) ?_
              refine va_get (v := .ref (a 8)) hex hbc hts hin5 hown hK hP 0 rfl rfl 10 (by decide) (hts _ (List.mem_of_getElem? (i := 3) rfl)) (fun _ h => h) rfl dX5_layFree_67 ?_
              refine lv_iload_n hex hbc dX5_layFree_70 rfl (lv_at hl 0 rfl) ?_
              refine lv_iconst (v := iI 0) hex hbc dX5_layFree_71 rfl ?_
              have hi_72 : (0 : Int) ≤ i2 ∧ i2 < (16 : Int) := (by omega)
              refine g_zast (σ := (sc (sc σ 5 w5) 8 w8)) (f := w8) (i := i2) (v := 0) (τ := st (sc (sc σ 5 w5) 8 w8) 8 i2 0) hex hbc hK hP hD hS 8 2 rfl rfl (by decide) hi_72 (by omega) dX5_layFree_72 (wm_up_8 hi_72) (fun H locs hP hD hS => ?_)
              obtain ⟨f8_72, ef8_72⟩ : ∃ z : Int → Int, z = ups w8 i2 0 := ⟨_, rfl⟩
              have hP : va_P G vwCl (wm cx a (sc (sc σ 5 w5) 8 f8_72)) H := by rw [ef8_72]; exact hP
              have hD : va_D (MA a) (wm cx a (sc (sc σ 5 w5) 8 f8_72)) := by rw [ef8_72]; exact hD
              refine lv_iinc (v := iI (i2 + 1)) (lv' := [(2, .int (iI (i2 + 1))), (1, .int (iI g1)), (0, .ref (a 0))]) hex hbc dX5_layFree_73 hl (k := 0) rfl (iI_add _ _) (by decide) rfl (fun ls hl => ?_)
              refine lv_goto (tgt := 60) hex hbc dX5_layFree_76 (by decide) ?_
              exact ih_60 (i2 + 1) f8_72 ⟨by omega, by omega, fun k k0 k1 => if hq : k = i2 then (by rw [ef8_72, hq, ups_s]) else (by rw [ef8_72, ups_n _ _ hq]; exact hw8 k k0 (by omega))⟩ (by omega) _ _ _ hP hD hS (lv_sub hl [0, 1, 2] rfl)
        exact loop_60 _ 0 (σ 8) ⟨by omega, by omega, fun k k0 k1 => by omega⟩ (mz_lt _) _ _ _ hP hD hS (lv_sub hl [0, 1, 2] rfl)
      · skip
        have hln := hI.ln_in hi0 c12
        have hmm := mulb (a := ln (σ 0) i1) (b := σ 0 6) (A := 64000) (B := 200000) (by omega) (by omega) (by omega) (by omega)
        have hbi := b0_in hI hi0 c12
        refine lv_aload_n hex hbc dX5_layFree_15 rfl (lv_at hl 2 rfl) ?_
        refine va_get (v := .ref (a 5)) hex hbc hts hin5 hown hK hP 0 rfl rfl 6 (by decide) (hts _ (List.mem_of_getElem? (i := 2) rfl)) (fun _ h => h) rfl dX5_layFree_16 ?_
        refine lv_iload_n hex hbc dX5_layFree_19 rfl (lv_at hl 0 rfl) ?_
        refine lv_aload_n hex hbc dX5_layFree_20 rfl (lv_at hl 2 rfl) ?_
        refine lv_iload_n hex hbc dX5_layFree_21 rfl (lv_at hl 0 rfl) ?_
        refine g_calli [.int (iI i1)] ⟨hex, hbc, hml, hown, hts⟩ (mX5_lengthOf l G cx a (sc σ 5 w5) i1 (show 0 ≤ i1 ∧ i1 < σ 0 74 from by omega) hI) (cwV 1 hts gX5_layFree_X5_lengthOf rfl rfl rfl (by decide +kernel) ⟨Nat.le_of_ble_eq_true rfl, Nat.le_of_ble_eq_true rfl⟩) hK hP hD hS (fun _ h => h) 0 5 rfl rfl rfl rfl hl.1 (Nat.le_of_ble_eq_true rfl) dX5_layFree_22 ⟨Nat.zero_le _, Nat.zero_le _⟩ (fun r_22 u_22 H locs hw_22 hP hD hS hz_22 hk_22 => ?_)
        obtain ⟨rfl, rfl⟩ := hw_22
        refine zt_i2l (a := (ln (σ 0) i1)) hex hbc (by omega) dX5_layFree_25 ?_
        refine lv_aload_n hex hbc dX5_layFree_26 rfl (lv_at hl 2 rfl) ?_
        refine va_get (v := .ref (a 1)) hex hbc hts hin5 hown hK hP 0 rfl rfl 0 (by decide) (hts _ (List.mem_of_getElem? (i := 1) rfl)) (fun _ h => h) rfl dX5_layFree_27 ?_
        refine lv_bipush (v := iI 6) hex hbc dX5_layFree_30 (by decide) ?_
        refine g_iald (f := (σ 0)) (v := (σ 0 6)) (i := 6) hex hbc hK hP 1 0 rfl rfl (by decide) (by omega) rfl dX5_layFree_32 ?_
        refine zt_i2l (a := (σ 0 6)) hex hbc (by omega) dX5_layFree_33 ?_
        refine zt_lmul hex hbc dX5_layFree_34 ?_
        refine lv_aload_n hex hbc dX5_layFree_35 rfl (lv_at hl 2 rfl) ?_
        refine g_calli [] ⟨hex, hbc, hml, hown, hts⟩ (mX5_whole l G cx a (sc σ 5 w5)  hI) (cwV 0 hts gX5_layFree_X5_whole rfl rfl rfl (by decide +kernel) ⟨Nat.le_of_ble_eq_true rfl, Nat.le_of_ble_eq_true rfl⟩) hK hP hD hS (fun _ h => h) 0 5 rfl rfl rfl rfl hl.1 (Nat.le_of_ble_eq_true rfl) dX5_layFree_36 ⟨Nat.zero_le _, Nat.zero_le _⟩ (fun r_36 u_36 H locs hw_36 hP hD hS hz_36 hk_36 => ?_)
        obtain ⟨rfl, rfl⟩ := hw_36
        refine zt_i2l (a := (σ 0 0 * σ 0 1)) hex hbc (by omega) dX5_layFree_39 ?_
        refine zt_ldiv (a := ((ln (σ 0) i1) * (σ 0 6))) (b := (σ 0 0 * σ 0 1)) hex hbc (by omega) dX5_layFree_40 ?_
        refine zt_l2i hex hbc dX5_layFree_41 ?_
        have hi_42 : (0 : Int) ≤ i1 ∧ i1 < (16 : Int) := (by omega)
        refine g_iast (σ := (sc σ 5 w5)) (f := w5) (i := i1) (v := (((ln (σ 0) i1) * (σ 0 6)) / (σ 0 0 * σ 0 1))) (τ := st (sc σ 5 w5) 5 i1 (((ln (σ 0) i1) * (σ 0 6)) / (σ 0 0 * σ 0 1))) hex hbc hK hP hD hS 5 0 rfl rfl (by decide) hi_42 dX5_layFree_42 (wm_up_5 hi_42) (fun H locs hP hD hS => ?_)
        obtain ⟨f5_42, ef5_42⟩ : ∃ z : Int → Int, z = ups w5 i1 (((ln (σ 0) i1) * (σ 0 6)) / (σ 0 0 * σ 0 1)) := ⟨_, rfl⟩
        have hP : va_P G vwCl (wm cx a (sc σ 5 f5_42)) H := by rw [ef5_42]; exact hP
        have hD : va_D (MA a) (wm cx a (sc σ 5 f5_42)) := by rw [ef5_42]; exact hD
        refine lv_iload_n hex hbc dX5_layFree_43 rfl (lv_at hl 1 rfl) ?_
        refine lv_aload_n hex hbc dX5_layFree_44 rfl (lv_at hl 2 rfl) ?_
        refine va_get (v := .ref (a 5)) hex hbc hts hin5 hown hK hP 0 rfl rfl 6 (by decide) (hts _ (List.mem_of_getElem? (i := 2) rfl)) (fun _ h => h) rfl dX5_layFree_45 ?_
        refine lv_iload_n hex hbc dX5_layFree_48 rfl (lv_at hl 0 rfl) ?_
        refine g_iald (f := f5_42) (v := (f5_42 i1)) (i := i1) hex hbc hK hP 5 0 rfl rfl (by decide) (by omega) rfl dX5_layFree_49 ?_
        refine zt_nm (a := (f5_42 i1)) (b := (b0_ (σ 0) i1)) (by rw [ef5_42, ups_s]; rfl) ?_
        refine zt_iadd hex hbc dX5_layFree_50 ?_
        refine lv_istore_n (lv' := [(1, .int (iI (g1 + (b0_ (σ 0) i1)))), (2, .int (iI i1)), (0, .ref (a 0))]) hex hbc dX5_layFree_51 rfl hl (by decide) rfl (fun ls hl => ?_)
        refine lv_iinc (v := iI (i1 + 1)) (lv' := [(2, .int (iI (i1 + 1))), (1, .int (iI (g1 + (b0_ (σ 0) i1)))), (0, .ref (a 0))]) hex hbc dX5_layFree_52 hl (k := 1) rfl (iI_add _ _) (by decide) rfl (fun ls hl => ?_)
        refine lv_goto (tgt := 4) hex hbc dX5_layFree_55 (by decide) ?_
        exact ih_4 (i1 + 1) (g1 + (b0_ (σ 0) i1)) f5_42 ⟨by omega, by omega, by rw [sumN_at hi0, ← hg1], fun k k0 k1 => if hq : k = i1 then (by rw [ef5_42, hq, ups_s]; rfl) else (by rw [ef5_42, ups_n _ _ hq]; exact hw5 k k0 (by omega))⟩ (by omega) _ _ _ hP hD hS (lv_sub hl [0, 1, 2] rfl)
  exact loop_4 _ 0 0 (σ 5) ⟨by omega, by omega, rfl, fun k k0 k1 => by omega⟩ (mz_lt _) _ _ _ hP hD hS (lv_sub hl [0, 1, 2] rfl)
theorem iX5_isLaid_X5 : ∀ w ∈ wsX50, w ∈ wsX5_isLaid := fun _ h => List.mem_cons_of_mem _ (List.mem_append_right _ h)
set_option maxHeartbeats 4000000 in
set_option maxRecDepth 100000 in
theorem mX5_isLaid (l : Launch) (G : va_G) (cx a : Nat → Nat) (σ : Nat → Int → Int)   (hI : Inv (σ 0)) : Met l yX5_isLaid wsX5_isLaid ({ frames := 5, cells := 0, slots := 0, locals := 121 }) (va_Pc [.ref (a 0)] (gW G (tm cx) (MA a) (wm cx a) σ)) (va_Qi (fun r u => (∃ v, iI v = r ∧ ((lay_ (σ 0) ∧ v = 1) ∨ (¬ lay_ (σ 0) ∧ v = 0))) ∧ ∃ f2 f5 f6 f7 f8, (f2 0 = σ 2 0 ∧ f2 1 = σ 2 1) ∧ (lay_ (σ 0) → ∀ k, 0 ≤ k → k < σ 0 74 → f5 k = bud (σ 0) k) ∧ (lay_ (σ 0) → σ 0 8 ≠ 0 → ∀ k, 0 ≤ k → k < σ 0 74 → f6 k = stp (σ 0) (σ 0 6) (σ 0 7) k) ∧ sc (sc (sc (sc (sc σ 2 f2) 5 f5) 6 f6) 7 f7) 8 f8 = u) (gW G (tm cx) (MA a) (wm cx a)) (MA a)) 0 0 (MA a) := by
  refine Met.ofW (cc := cX5_isLaid) (maxL := 1) (ret := some .boolean) (by decide) rfl ?_
  intro p e s m args below meth c s₁ B hml hv
  obtain ⟨rfl, hP, hK, hD⟩ := hv
  have hex := B.exec
  have hbc := B.bytes
  have hrt := B.returns
  have hts := atoms_spec (ws := wsX5_isLaid) B.pre
  have hown : s.vm.findClass RX5 = some m.cls := findClass_of_methodNamed B.named
  have hlocks := B.notSynchronized
  have hS : va_S (MA a) s.heap s.heap [] := va_S.rf
  have hin5 := iX5_isLaid_X5
  have hl := lv_entry ([.ref (a 0)]) (n := 1) (Nat.le_of_ble_eq_true rfl)
  rw [lg_entry_eq]
  generalize (lg_sl ([.ref (a 0)]) ++ List.replicate (1 - (lg_sl ([.ref (a 0)])).length) Slot.unset).toArray = ls at hl ⊢
  have hl : lv_has ls 1 [(0, .ref (a 0))] := hl
  obtain ⟨hB, hEn, hMk, hAs, hPm⟩ := id hI
  refine lv_aload_n hex hbc dX5_isLaid_0 rfl (lv_at hl 0 rfl) ?_
  refine va_get (v := .ref (a 1)) hex hbc hts hin5 hown hK hP 0 rfl rfl 0 (by decide) (hts _ (List.mem_of_getElem? (i := 1) rfl)) (fun _ h => h) rfl dX5_isLaid_1 ?_
  refine lv_bipush (v := iI 8) hex hbc dX5_isLaid_4 (by decide) ?_
  refine g_iald (f := (σ 0)) (v := (σ 0 8)) (i := 8) hex hbc hK hP 1 0 rfl rfl (by decide) (by omega) rfl dX5_isLaid_6 ?_
  refine lv_iconst (v := iI 1) hex hbc dX5_isLaid_7 rfl ?_
  refine zt_icmp_ne (a := (σ 0 8)) (b := 1) (tgt := 30) hex hbc (by omega) dX5_isLaid_8 (by decide) (fun c8 => ?_) (fun c8 => ?_)
  · skip
    refine lv_aload_n hex hbc dX5_isLaid_30 rfl (lv_at hl 0 rfl) ?_
    refine g_callv [] ⟨hex, hbc, hml, hown, hts⟩ (mX5_layFree l G cx a σ  hI) (cwV 0 hts gX5_isLaid_X5_layFree rfl rfl rfl (by decide +kernel) ⟨Nat.le_of_ble_eq_true rfl, Nat.le_of_ble_eq_true rfl⟩) hK hP hD hS (fun _ h => h) 0 5 rfl rfl rfl rfl hl.1 (Nat.le_of_ble_eq_true rfl) dX5_isLaid_31 ⟨Nat.zero_le _, Nat.zero_le _⟩ (fun u_31 H locs hw_31 hP hD hS hz_31 hk_31 => ?_)
    obtain ⟨f5_31, f8_31, hfb_31, rfl⟩ := hw_31
    have hP : va_P G vwCl (wm cx a (sc (sc σ 5 f5_31) 8 f8_31)) H := hP
    have hD : va_D (MA a) (wm cx a (sc (sc σ 5 f5_31) 8 f8_31)) := hD
    refine lv_iconst (v := iI 1) hex hbc dX5_isLaid_34 rfl ?_
    exact g_zret hex hbc hrt hlocks rfl hK hP hD hS ⟨⟨1, rfl, Or.inl ⟨Or.inl (by omega), rfl⟩⟩, σ 2, f5_31, σ 6, σ 7, f8_31, ⟨rfl, rfl⟩, fun _ k k0 k1 => (by rw [hfb_31 k k0 k1]; unfold bud; rw [if_pos (by omega)]), fun _ h => absurd (show σ 0 8 = 0 by omega) h, sc_self267⟩ dX5_isLaid_35
  · skip
    refine lv_aload_n hex hbc dX5_isLaid_11 rfl (lv_at hl 0 rfl) ?_
    refine lv_aload_n hex hbc dX5_isLaid_12 rfl (lv_at hl 0 rfl) ?_
    refine va_get (v := .ref (a 1)) hex hbc hts hin5 hown hK hP 0 rfl rfl 0 (by decide) (hts _ (List.mem_of_getElem? (i := 1) rfl)) (fun _ h => h) rfl dX5_isLaid_13 ?_
    refine lv_bipush (v := iI 6) hex hbc dX5_isLaid_16 (by decide) ?_
    refine g_iald (f := (σ 0)) (v := (σ 0 6)) (i := 6) hex hbc hK hP 1 0 rfl rfl (by decide) (by omega) rfl dX5_isLaid_18 ?_
    refine lv_aload_n hex hbc dX5_isLaid_19 rfl (lv_at hl 0 rfl) ?_
    refine va_get (v := .ref (a 1)) hex hbc hts hin5 hown hK hP 0 rfl rfl 0 (by decide) (hts _ (List.mem_of_getElem? (i := 1) rfl)) (fun _ h => h) rfl dX5_isLaid_20 ?_
    refine lv_bipush (v := iI 7) hex hbc dX5_isLaid_23 (by decide) ?_
    refine g_iald (f := (σ 0)) (v := (σ 0 7)) (i := 7) hex hbc hK hP 1 0 rfl rfl (by decide) (by omega) rfl dX5_isLaid_25 ?_
    refine g_calli [.int (iI (σ 0 6)), .int (iI (σ 0 7))] ⟨hex, hbc, hml, hown, hts⟩ (mX5_layGrid l G cx a σ (σ 0 6) (σ 0 7) (by omega) (by omega) hI) (cwV 2 hts gX5_isLaid_X5_layGrid rfl rfl rfl (by decide +kernel) ⟨Nat.le_of_ble_eq_true rfl, Nat.le_of_ble_eq_true rfl⟩) hK hP hD hS (fun _ h => h) 0 5 rfl rfl rfl rfl hl.1 (Nat.le_of_ble_eq_true rfl) dX5_isLaid_26 ⟨Nat.zero_le _, Nat.zero_le _⟩ (fun r_26 u_26 H locs hw_26 hP hD hS hz_26 hk_26 => ?_)
    obtain ⟨⟨vb26, rfl, hv26⟩, f2_26, f5_26, f6_26, f7_26, hf2_26, hgr_26, rfl⟩ := hw_26
    have hP : va_P G vwCl (wm cx a (sc (sc (sc (sc σ 2 f2_26) 5 f5_26) 6 f6_26) 7 f7_26)) H := hP
    have hD : va_D (MA a) (wm cx a (sc (sc (sc (sc σ 2 f2_26) 5 f5_26) 6 f6_26) 7 f7_26)) := hD
    have hll : lay_ (σ 0) ↔ can_ (σ 0) (σ 0 6) (σ 0 7) := ⟨fun h => h.elim (fun q => by omega) (fun q => q), Or.inr⟩
    have hb8 : bud (σ 0) = gbu (σ 0) (σ 0 6) (σ 0 7) := if_neg (by omega)
    exact g_zret hex hbc hrt hlocks (nar_b hv26) hK hP hD hS ⟨⟨vb26, rfl, hv26.elim (fun h => Or.inl ⟨hll.mpr h.1, h.2⟩) (fun h => Or.inr ⟨fun q => h.1 (hll.mp q), h.2⟩)⟩, f2_26, f5_26, f6_26, f7_26, σ 8, ⟨hf2_26.1, hf2_26.2.1⟩, fun h k k0 k1 => (by rw [hb8]; exact (hgr_26 (hll.mp h)).1 k k0 k1), fun h _ k k0 k1 => (hgr_26 (hll.mp h)).2 k k0 (by omega), sc_self (sc (sc (sc (sc σ 2 f2_26) 5 f5_26) 6 f6_26) 7 f7_26) 8⟩ dX5_isLaid_29
theorem iX5_placeOf_X5 : ∀ w ∈ wsX50, w ∈ wsX5_placeOf := fun _ h => List.mem_cons_of_mem _ (List.mem_append_right _ h)
set_option maxHeartbeats 4000000 in
set_option maxRecDepth 100000 in
theorem mX5_placeOf (l : Launch) (G : va_G) (cx a : Nat → Nat) (σ : Nat → Int → Int)  (x : Int) (hx : -2147483648 ≤ x ∧ x < 2147483648) (hI : Inv (σ 0)) (hq : ∃ p, 0 ≤ p ∧ p < σ 0 74 ∧ σ 0 (91 + p) = x) : Met l yX5_placeOf wsX5_placeOf ({ frames := 0, cells := 0, slots := 0, locals := 0 }) (va_Pc [.ref (a 0), .int (iI x)] (gW G (tm cx) (MA a) (wm cx a) σ)) (va_Qi (fun r u => σ = u ∧ ∃ p, iI p = r ∧ Plc (σ 0) x p) (gW G (tm cx) (MA a) (wm cx a)) (MA a)) 0 0 (MA a) := by
  refine Met.ofW (cc := cX5_placeOf) (maxL := 3) (ret := some .int) (by decide) rfl ?_
  intro p e s m args below meth c s₁ B hml hv
  obtain ⟨rfl, hP, hK, hD⟩ := hv
  have hex := B.exec
  have hbc := B.bytes
  have hrt := B.returns
  have hts := atoms_spec (ws := wsX5_placeOf) B.pre
  have hown : s.vm.findClass RX5 = some m.cls := findClass_of_methodNamed B.named
  have hlocks := B.notSynchronized
  have hS : va_S (MA a) s.heap s.heap [] := va_S.rf
  have hin5 := iX5_placeOf_X5
  have hl := lv_entry ([.ref (a 0), .int (iI x)]) (n := 3) (Nat.le_of_ble_eq_true rfl)
  rw [lg_entry_eq]
  generalize (lg_sl ([.ref (a 0), .int (iI x)]) ++ List.replicate (3 - (lg_sl ([.ref (a 0), .int (iI x)])).length) Slot.unset).toArray = ls at hl ⊢
  have hl : lv_has ls 3 [(0, .ref (a 0)), (1, .int (iI x))] := hl
  obtain ⟨hB, hEn, hMk, hAs, hPm⟩ := id hI
  obtain ⟨q0, hq0, hq1, hq2⟩ := hq
  have hO := hPm.1
  refine lv_iconst (v := iI 0) hex hbc dX5_placeOf_0 rfl ?_
  refine lv_istore_n (lv' := [(2, .int (iI 0)), (0, .ref (a 0)), (1, .int (iI x))]) hex hbc dX5_placeOf_1 rfl hl (by decide) rfl (fun ls hl => ?_)
  have loop_2 : ∀ (N : Nat) (i1 : Int), (0 ≤ i1 ∧ i1 ≤ q0 ∧ ∀ k, 0 ≤ k → k < i1 → σ 0 (91 + k) ≠ x) → (q0 - i1) < (N : Int) → ∀ (H : Heap) (locs : List Loc) (ls : Array Slot), va_P G vwCl (wm cx a σ) H → va_D (MA a) (wm cx a σ) → va_S (MA a) s.heap H locs → lv_has ls 3 [(2, .int (iI i1)), (0, .ref (a 0)), (1, .int (iI x))] → W p l e (headSpec wsX5_placeOf ({ frames := 0, cells := 0, slots := 0, locals := 0 })).room s m ([.ref (a 0), .int (iI x)] : List Value).toArray below meth c H locs 0 0 (MQ below (va_Qi (fun r u => σ = u ∧ ∃ p, iI p = r ∧ Plc (σ 0) x p) (gW G (tm cx) (MA a) (wm cx a)) (MA a)) ([.ref (a 0), .int (iI x)] : List Value).toArray s 0 0 (MA a)) (F0 m 2 ls []) := by
    intro N
    induction N with
    | zero => intro i1 hinv hlt; exfalso; omega
    | succ N ih_2 =>
      intro i1 ⟨hi0, hi1, hw⟩ hlt_2 H locs ls hP hD hS hl
      have ho := hO i1 hi0 (by omega)
      refine lv_aload_n hex hbc dX5_placeOf_2 rfl (lv_at hl 1 rfl) ?_
      refine va_get (v := .ref (a 1)) hex hbc hts hin5 hown hK hP 0 rfl rfl 0 (by decide) (hts _ (List.mem_of_getElem? (i := 1) rfl)) (fun _ h => h) rfl dX5_placeOf_3 ?_
      refine lv_bipush (v := iI 91) hex hbc dX5_placeOf_6 (by decide) ?_
      refine lv_iload_n hex hbc dX5_placeOf_8 rfl (lv_at hl 0 rfl) ?_
      refine zt_iadd hex hbc dX5_placeOf_9 ?_
      refine g_iald (f := (σ 0)) (v := (σ 0 (91 + i1))) (i := (91 + i1)) hex hbc hK hP 1 0 rfl rfl (by decide) (by omega) rfl dX5_placeOf_10 ?_
      refine lv_iload_n hex hbc dX5_placeOf_11 rfl (lv_at hl 2 rfl) ?_
      refine zt_icmp_eq (a := (σ 0 (91 + i1))) (b := x) (tgt := 21) hex hbc (by omega) dX5_placeOf_12 (by decide) (fun c12 => ?_) (fun c12 => ?_)
      · skip
        refine lv_iload_n hex hbc dX5_placeOf_21 rfl (lv_at hl 0 rfl) ?_
        exact g_iret hex hbc hrt hlocks hK hP hD hS ⟨rfl, i1, rfl, hi0, by omega, hw, c12⟩ dX5_placeOf_22
      · skip
        refine lv_iinc (v := iI (i1 + 1)) (lv' := [(2, .int (iI (i1 + 1))), (0, .ref (a 0)), (1, .int (iI x))]) hex hbc dX5_placeOf_15 hl (k := 0) rfl (iI_add _ _) (by decide) rfl (fun ls hl => ?_)
        refine lv_goto (tgt := 2) hex hbc dX5_placeOf_18 (by decide) ?_
        exact ih_2 (i1 + 1) ⟨by omega, (Int.lt_or_le i1 q0).elim (fun q => by omega) (fun q => absurd hq2 (by rw [show q0 = i1 by omega]; exact c12)), fun k h1 h2 => if hk : k = i1 then by subst hk; exact c12 else hw k h1 (by omega)⟩ (by omega) _ _ _ hP hD hS (lv_sub hl [0, 1, 2] rfl)
  exact loop_2 _ 0 ⟨by omega, by omega, fun k h1 h2 => by omega⟩ (mz_lt _) _ _ _ hP hD hS (lv_sub hl [0, 1, 2] rfl)
theorem iX5_fadeOf_X5 : ∀ w ∈ wsX50, w ∈ wsX5_fadeOf := fun _ h => List.mem_cons_of_mem _ (List.mem_append_right _ h)
set_option maxHeartbeats 4000000 in
set_option maxRecDepth 100000 in
theorem mX5_fadeOf (l : Launch) (G : va_G) (cx a : Nat → Nat) (σ : Nat → Int → Int)  (x : Int) (hx : 0 ≤ x ∧ x < σ 0 74) (hlay : lay_ (σ 0)) (hbud : ∀ k, 0 ≤ k → k < σ 0 74 → σ 5 k = bud (σ 0) k) (hI : Inv (σ 0)) : Met l yX5_fadeOf wsX5_fadeOf ({ frames := 1, cells := 0, slots := 0, locals := 22 }) (va_Pc [.ref (a 0), .int (iI x)] (gW G (tm cx) (MA a) (wm cx a) σ)) (va_Qi (fun r u => σ = u ∧ iI (fad (σ 0) (bud (σ 0)) (plcf (σ 0) x)) = r) (gW G (tm cx) (MA a) (wm cx a)) (MA a)) 0 0 (MA a) := by
  refine Met.ofW (cc := cX5_fadeOf) (maxL := 4) (ret := some .int) (by decide) rfl ?_
  intro p e s m args below meth c s₁ B hml hv
  obtain ⟨rfl, hP, hK, hD⟩ := hv
  have hex := B.exec
  have hbc := B.bytes
  have hrt := B.returns
  have hts := atoms_spec (ws := wsX5_fadeOf) B.pre
  have hown : s.vm.findClass RX5 = some m.cls := findClass_of_methodNamed B.named
  have hlocks := B.notSynchronized
  have hS : va_S (MA a) s.heap s.heap [] := va_S.rf
  have hin5 := iX5_fadeOf_X5
  have hl := lv_entry ([.ref (a 0), .int (iI x)]) (n := 4) (Nat.le_of_ble_eq_true rfl)
  rw [lg_entry_eq]
  generalize (lg_sl ([.ref (a 0), .int (iI x)]) ++ List.replicate (4 - (lg_sl ([.ref (a 0), .int (iI x)])).length) Slot.unset).toArray = ls at hl ⊢
  have hl : lv_has ls 4 [(0, .ref (a 0)), (1, .int (iI x))] := hl
  obtain ⟨hB, hEn, hMk, hAs, hPm⟩ := id hI
  have hO := hPm.1
  have hpl := hI.plc hx
  have hb1 := bud_in hI hlay hx.1 hx.2
  refine lv_aload_n hex hbc dX5_fadeOf_0 rfl (lv_at hl 0 rfl) ?_
  refine va_get (v := .ref (a 1)) hex hbc hts hin5 hown hK hP 0 rfl rfl 0 (by decide) (hts _ (List.mem_of_getElem? (i := 1) rfl)) (fun _ h => h) rfl dX5_fadeOf_1 ?_
  refine lv_bipush (v := iI 91) hex hbc dX5_fadeOf_4 (by decide) ?_
  refine lv_aload_n hex hbc dX5_fadeOf_6 rfl (lv_at hl 0 rfl) ?_
  refine lv_iload_n hex hbc dX5_fadeOf_7 rfl (lv_at hl 1 rfl) ?_
  refine g_calli [.int (iI x)] ⟨hex, hbc, hml, hown, hts⟩ (mX5_placeOf l G cx a σ x (by omega) hI hpl) (cwV 1 hts gX5_fadeOf_X5_placeOf rfl rfl rfl (by decide +kernel) ⟨Nat.le_of_ble_eq_true rfl, Nat.le_of_ble_eq_true rfl⟩) hK hP hD hS (fun _ h => h) 0 5 rfl rfl rfl rfl hl.1 (Nat.le_of_ble_eq_true rfl) dX5_fadeOf_8 ⟨Nat.zero_le _, Nat.zero_le _⟩ (fun r_8 u_8 H locs hw_8 hP hD hS hz_8 hk_8 => ?_)
  obtain ⟨rfl, p8, rfl, hp8⟩ := hw_8
  have hp0 := hp8.1
  have hp1 := hp8.2.1
  have hnx := nxp_in (w := σ 0) (p := p8) ⟨hp0, hp1⟩
  have ho2 := hO (nxp (σ 0) p8) hnx.1 hnx.2
  have hb2 := bud_in hI hlay ho2.1 ho2.2
  have hpf := plcf_eq hp8
  have hpx : σ 0 (91 + p8) = x := hp8.2.2.2
  have hfd : fad (σ 0) (bud (σ 0)) (plcf (σ 0) x) = min (σ 0 9) (min (bud (σ 0) x / 4) (bud (σ 0) (σ 0 (91 + nxp (σ 0) p8)) / 4)) := by rw [hpf, ← hpx]; rfl
  refine lv_iconst (v := iI 1) hex hbc dX5_fadeOf_11 rfl ?_
  refine zt_iadd hex hbc dX5_fadeOf_12 ?_
  refine lv_aload_n hex hbc dX5_fadeOf_13 rfl (lv_at hl 0 rfl) ?_
  refine va_get (v := .ref (a 1)) hex hbc hts hin5 hown hK hP 0 rfl rfl 0 (by decide) (hts _ (List.mem_of_getElem? (i := 1) rfl)) (fun _ h => h) rfl dX5_fadeOf_14 ?_
  refine lv_bipush (v := iI 74) hex hbc dX5_fadeOf_17 (by decide) ?_
  refine g_iald (f := (σ 0)) (v := (σ 0 74)) (i := 74) hex hbc hK hP 1 0 rfl rfl (by decide) (by omega) rfl dX5_fadeOf_19 ?_
  refine zt_irem (a := (p8 + 1)) (b := (σ 0 74)) hex hbc (by omega) dX5_fadeOf_20 ?_
  refine zt_nm (a := ((p8 + 1) % (σ 0 74))) (b := (nxp (σ 0) p8)) (nxp_mod ⟨hp0, hp1⟩) ?_
  refine zt_iadd hex hbc dX5_fadeOf_21 ?_
  refine g_iald (f := (σ 0)) (v := (σ 0 (91 + (nxp (σ 0) p8)))) (i := (91 + (nxp (σ 0) p8))) hex hbc hK hP 1 0 rfl rfl (by decide) (by omega) rfl dX5_fadeOf_22 ?_
  refine lv_istore_n (lv' := [(2, .int (iI (σ 0 (91 + (nxp (σ 0) p8))))), (0, .ref (a 0)), (1, .int (iI x))]) hex hbc dX5_fadeOf_23 rfl hl (by decide) rfl (fun ls hl => ?_)
  refine lv_aload_n hex hbc dX5_fadeOf_24 rfl (lv_at hl 1 rfl) ?_
  refine va_get (v := .ref (a 1)) hex hbc hts hin5 hown hK hP 0 rfl rfl 0 (by decide) (hts _ (List.mem_of_getElem? (i := 1) rfl)) (fun _ h => h) rfl dX5_fadeOf_25 ?_
  refine lv_bipush (v := iI 9) hex hbc dX5_fadeOf_28 (by decide) ?_
  refine g_iald (f := (σ 0)) (v := (σ 0 9)) (i := 9) hex hbc hK hP 1 0 rfl rfl (by decide) (by omega) rfl dX5_fadeOf_30 ?_
  refine lv_istore_n (lv' := [(3, .int (iI (σ 0 9))), (2, .int (iI (σ 0 (91 + (nxp (σ 0) p8))))), (0, .ref (a 0)), (1, .int (iI x))]) hex hbc dX5_fadeOf_31 rfl hl (by decide) rfl (fun ls hl => ?_)
  refine lv_aload_n hex hbc dX5_fadeOf_32 rfl (lv_at hl 2 rfl) ?_
  refine va_get (v := .ref (a 5)) hex hbc hts hin5 hown hK hP 0 rfl rfl 6 (by decide) (hts _ (List.mem_of_getElem? (i := 2) rfl)) (fun _ h => h) rfl dX5_fadeOf_33 ?_
  refine lv_iload_n hex hbc dX5_fadeOf_36 rfl (lv_at hl 3 rfl) ?_
  refine g_iald (f := (σ 5)) (v := (σ 5 x)) (i := x) hex hbc hK hP 5 0 rfl rfl (by decide) (by omega) rfl dX5_fadeOf_37 ?_
  refine zt_nm (a := (σ 5 x)) (b := (bud (σ 0) x)) (hbud x hx.1 hx.2) ?_
  refine lv_iconst (v := iI 4) hex hbc dX5_fadeOf_38 rfl ?_
  refine zt_idiv (a := (bud (σ 0) x)) (b := 4) hex hbc (by omega) dX5_fadeOf_39 ?_
  refine lv_iload_n hex hbc dX5_fadeOf_40 rfl (lv_at hl 0 rfl) ?_
  refine zt_icmp_ge (a := ((bud (σ 0) x) / 4)) (b := (σ 0 9)) (tgt := 55) hex hbc (by omega) dX5_fadeOf_41 (by decide) (fun c41 => ?_) (fun c41 => ?_)
  · skip
    refine lv_iload_n hex hbc dX5_fadeOf_55 rfl (lv_at hl 0 rfl) ?_
    refine lv_istore_n (lv' := [(3, .int (iI (σ 0 9))), (2, .int (iI (σ 0 (91 + (nxp (σ 0) p8))))), (0, .ref (a 0)), (1, .int (iI x))]) hex hbc dX5_fadeOf_56 rfl hl (by decide) rfl (fun ls hl => ?_)
    refine lv_aload_n hex hbc dX5_fadeOf_57 rfl (lv_at hl 2 rfl) ?_
    refine va_get (v := .ref (a 5)) hex hbc hts hin5 hown hK hP 0 rfl rfl 6 (by decide) (hts _ (List.mem_of_getElem? (i := 2) rfl)) (fun _ h => h) rfl dX5_fadeOf_58 ?_
    refine lv_iload_n hex hbc dX5_fadeOf_61 rfl (lv_at hl 1 rfl) ?_
    refine g_iald (f := (σ 5)) (v := (σ 5 (σ 0 (91 + (nxp (σ 0) p8))))) (i := (σ 0 (91 + (nxp (σ 0) p8)))) hex hbc hK hP 5 0 rfl rfl (by decide) (by omega) rfl dX5_fadeOf_62 ?_
    refine zt_nm (a := (σ 5 (σ 0 (91 + (nxp (σ 0) p8))))) (b := (bud (σ 0) (σ 0 (91 + nxp (σ 0) p8)))) (hbud _ ho2.1 ho2.2) ?_
    refine lv_iconst (v := iI 4) hex hbc dX5_fadeOf_63 rfl ?_
    refine zt_idiv (a := (bud (σ 0) (σ 0 (91 + nxp (σ 0) p8)))) (b := 4) hex hbc (by omega) dX5_fadeOf_64 ?_
    refine lv_iload_n hex hbc dX5_fadeOf_65 rfl (lv_at hl 0 rfl) ?_
    refine zt_icmp_ge (a := ((bud (σ 0) (σ 0 (91 + nxp (σ 0) p8))) / 4)) (b := (σ 0 9)) (tgt := 80) hex hbc (by omega) dX5_fadeOf_66 (by decide) (fun c66 => ?_) (fun c66 => ?_)
    · skip
      refine lv_iload_n hex hbc dX5_fadeOf_80 rfl (lv_at hl 0 rfl) ?_
      exact g_iret hex hbc hrt hlocks hK hP hD hS ⟨rfl, congrArg iI (by rw [hfd]; omega)⟩ dX5_fadeOf_81
    · skip
      refine lv_aload_n hex hbc dX5_fadeOf_69 rfl (lv_at hl 2 rfl) ?_
      refine va_get (v := .ref (a 5)) hex hbc hts hin5 hown hK hP 0 rfl rfl 6 (by decide) (hts _ (List.mem_of_getElem? (i := 2) rfl)) (fun _ h => h) rfl dX5_fadeOf_70 ?_
      refine lv_iload_n hex hbc dX5_fadeOf_73 rfl (lv_at hl 1 rfl) ?_
      refine g_iald (f := (σ 5)) (v := (σ 5 (σ 0 (91 + (nxp (σ 0) p8))))) (i := (σ 0 (91 + (nxp (σ 0) p8)))) hex hbc hK hP 5 0 rfl rfl (by decide) (by omega) rfl dX5_fadeOf_74 ?_
      refine zt_nm (a := (σ 5 (σ 0 (91 + (nxp (σ 0) p8))))) (b := (bud (σ 0) (σ 0 (91 + nxp (σ 0) p8)))) (hbud _ ho2.1 ho2.2) ?_
      refine lv_iconst (v := iI 4) hex hbc dX5_fadeOf_75 rfl ?_
      refine zt_idiv (a := (bud (σ 0) (σ 0 (91 + nxp (σ 0) p8)))) (b := 4) hex hbc (by omega) dX5_fadeOf_76 ?_
      refine lv_goto (tgt := 81) hex hbc dX5_fadeOf_77 (by decide) ?_
      exact g_iret hex hbc hrt hlocks hK hP hD hS ⟨rfl, congrArg iI (by rw [hfd]; omega)⟩ dX5_fadeOf_81
  · skip
    refine lv_aload_n hex hbc dX5_fadeOf_44 rfl (lv_at hl 2 rfl) ?_
    refine va_get (v := .ref (a 5)) hex hbc hts hin5 hown hK hP 0 rfl rfl 6 (by decide) (hts _ (List.mem_of_getElem? (i := 2) rfl)) (fun _ h => h) rfl dX5_fadeOf_45 ?_
    refine lv_iload_n hex hbc dX5_fadeOf_48 rfl (lv_at hl 3 rfl) ?_
    refine g_iald (f := (σ 5)) (v := (σ 5 x)) (i := x) hex hbc hK hP 5 0 rfl rfl (by decide) (by omega) rfl dX5_fadeOf_49 ?_
    refine zt_nm (a := (σ 5 x)) (b := (bud (σ 0) x)) (hbud x hx.1 hx.2) ?_
    refine lv_iconst (v := iI 4) hex hbc dX5_fadeOf_50 rfl ?_
    refine zt_idiv (a := (bud (σ 0) x)) (b := 4) hex hbc (by omega) dX5_fadeOf_51 ?_
    refine lv_goto (tgt := 56) hex hbc dX5_fadeOf_52 (by decide) ?_
    refine lv_istore_n (lv' := [(3, .int (iI ((bud (σ 0) x) / 4))), (2, .int (iI (σ 0 (91 + (nxp (σ 0) p8))))), (0, .ref (a 0)), (1, .int (iI x))]) hex hbc dX5_fadeOf_56 rfl hl (by decide) rfl (fun ls hl => ?_)
    refine lv_aload_n hex hbc dX5_fadeOf_57 rfl (lv_at hl 2 rfl) ?_
    refine va_get (v := .ref (a 5)) hex hbc hts hin5 hown hK hP 0 rfl rfl 6 (by decide) (hts _ (List.mem_of_getElem? (i := 2) rfl)) (fun _ h => h) rfl dX5_fadeOf_58 ?_
    refine lv_iload_n hex hbc dX5_fadeOf_61 rfl (lv_at hl 1 rfl) ?_
    refine g_iald (f := (σ 5)) (v := (σ 5 (σ 0 (91 + (nxp (σ 0) p8))))) (i := (σ 0 (91 + (nxp (σ 0) p8)))) hex hbc hK hP 5 0 rfl rfl (by decide) (by omega) rfl dX5_fadeOf_62 ?_
    refine zt_nm (a := (σ 5 (σ 0 (91 + (nxp (σ 0) p8))))) (b := (bud (σ 0) (σ 0 (91 + nxp (σ 0) p8)))) (hbud _ ho2.1 ho2.2) ?_
    refine lv_iconst (v := iI 4) hex hbc dX5_fadeOf_63 rfl ?_
    refine zt_idiv (a := (bud (σ 0) (σ 0 (91 + nxp (σ 0) p8)))) (b := 4) hex hbc (by omega) dX5_fadeOf_64 ?_
    refine lv_iload_n hex hbc dX5_fadeOf_65 rfl (lv_at hl 0 rfl) ?_
    refine zt_icmp_ge (a := ((bud (σ 0) (σ 0 (91 + nxp (σ 0) p8))) / 4)) (b := ((bud (σ 0) x) / 4)) (tgt := 80) hex hbc (by omega) dX5_fadeOf_66 (by decide) (fun c66 => ?_) (fun c66 => ?_)
    · skip
      refine lv_iload_n hex hbc dX5_fadeOf_80 rfl (lv_at hl 0 rfl) ?_
      exact g_iret hex hbc hrt hlocks hK hP hD hS ⟨rfl, congrArg iI (by rw [hfd]; omega)⟩ dX5_fadeOf_81
    · skip
      refine lv_aload_n hex hbc dX5_fadeOf_69 rfl (lv_at hl 2 rfl) ?_
      refine va_get (v := .ref (a 5)) hex hbc hts hin5 hown hK hP 0 rfl rfl 6 (by decide) (hts _ (List.mem_of_getElem? (i := 2) rfl)) (fun _ h => h) rfl dX5_fadeOf_70 ?_
      refine lv_iload_n hex hbc dX5_fadeOf_73 rfl (lv_at hl 1 rfl) ?_
      refine g_iald (f := (σ 5)) (v := (σ 5 (σ 0 (91 + (nxp (σ 0) p8))))) (i := (σ 0 (91 + (nxp (σ 0) p8)))) hex hbc hK hP 5 0 rfl rfl (by decide) (by omega) rfl dX5_fadeOf_74 ?_
      refine zt_nm (a := (σ 5 (σ 0 (91 + (nxp (σ 0) p8))))) (b := (bud (σ 0) (σ 0 (91 + nxp (σ 0) p8)))) (hbud _ ho2.1 ho2.2) ?_
      refine lv_iconst (v := iI 4) hex hbc dX5_fadeOf_75 rfl ?_
      refine zt_idiv (a := (bud (σ 0) (σ 0 (91 + nxp (σ 0) p8)))) (b := 4) hex hbc (by omega) dX5_fadeOf_76 ?_
      refine lv_goto (tgt := 81) hex hbc dX5_fadeOf_77 (by decide) ?_
      exact g_iret hex hbc hrt hlocks hK hP hD hS ⟨rfl, congrArg iI (by rw [hfd]; omega)⟩ dX5_fadeOf_81
theorem iX5_beginOf_X5 : ∀ w ∈ wsX50, w ∈ wsX5_beginOf := fun _ h => List.mem_cons_of_mem _ (List.mem_append_right _ h)
set_option maxHeartbeats 4000000 in
set_option maxRecDepth 100000 in
theorem mX5_beginOf (l : Launch) (G : va_G) (cx a : Nat → Nat) (σ : Nat → Int → Int)  (x : Int) (hx : 0 ≤ x ∧ x < σ 0 74) (hlay : lay_ (σ 0)) (hbud : ∀ k, 0 ≤ k → k < σ 0 74 → σ 5 k = bud (σ 0) k) (hI : Inv (σ 0)) : Met l yX5_beginOf wsX5_beginOf ({ frames := 0, cells := 0, slots := 0, locals := 0 }) (va_Pc [.ref (a 0), .int (iI x)] (gW G (tm cx) (MA a) (wm cx a) σ)) (va_Qi (fun r u => σ = u ∧ ∃ p, Plc (σ 0) x p ∧ iI (sumN (fun k => bud (σ 0) (σ 0 (91 + k))) p.toNat) = r) (gW G (tm cx) (MA a) (wm cx a)) (MA a)) 0 0 (MA a) := by
  refine Met.ofW (cc := cX5_beginOf) (maxL := 4) (ret := some .int) (by decide) rfl ?_
  intro p e s m args below meth c s₁ B hml hv
  obtain ⟨rfl, hP, hK, hD⟩ := hv
  have hex := B.exec
  have hbc := B.bytes
  have hrt := B.returns
  have hts := atoms_spec (ws := wsX5_beginOf) B.pre
  have hown : s.vm.findClass RX5 = some m.cls := findClass_of_methodNamed B.named
  have hlocks := B.notSynchronized
  have hS : va_S (MA a) s.heap s.heap [] := va_S.rf
  have hin5 := iX5_beginOf_X5
  have hl := lv_entry ([.ref (a 0), .int (iI x)]) (n := 4) (Nat.le_of_ble_eq_true rfl)
  rw [lg_entry_eq]
  generalize (lg_sl ([.ref (a 0), .int (iI x)]) ++ List.replicate (4 - (lg_sl ([.ref (a 0), .int (iI x)])).length) Slot.unset).toArray = ls at hl ⊢
  have hl : lv_has ls 4 [(0, .ref (a 0)), (1, .int (iI x))] := hl
  obtain ⟨hB, hEn, hMk, hAs, hPm⟩ := id hI
  have hO := hPm.1
  obtain ⟨q0, hq0, hq1, hq2⟩ := hI.plc hx
  refine lv_iconst (v := iI 0) hex hbc dX5_beginOf_0 rfl ?_
  refine lv_istore_n (lv' := [(2, .int (iI 0)), (0, .ref (a 0)), (1, .int (iI x))]) hex hbc dX5_beginOf_1 rfl hl (by decide) rfl (fun ls hl => ?_)
  refine lv_iconst (v := iI 0) hex hbc dX5_beginOf_2 rfl ?_
  refine lv_istore_n (lv' := [(3, .int (iI 0)), (2, .int (iI 0)), (0, .ref (a 0)), (1, .int (iI x))]) hex hbc dX5_beginOf_3 rfl hl (by decide) rfl (fun ls hl => ?_)
  have loop_4 : ∀ (N : Nat) (i1 : Int) (n1 : Int), (0 ≤ i1 ∧ i1 ≤ q0 ∧ n1 = sumN (fun k => bud (σ 0) (σ 0 (91 + k))) i1.toNat ∧ ∀ k, 0 ≤ k → k < i1 → σ 0 (91 + k) ≠ x) → (q0 - i1) < (N : Int) → ∀ (H : Heap) (locs : List Loc) (ls : Array Slot), va_P G vwCl (wm cx a σ) H → va_D (MA a) (wm cx a σ) → va_S (MA a) s.heap H locs → lv_has ls 4 [(3, .int (iI i1)), (2, .int (iI n1)), (0, .ref (a 0)), (1, .int (iI x))] → W p l e (headSpec wsX5_beginOf ({ frames := 0, cells := 0, slots := 0, locals := 0 })).room s m ([.ref (a 0), .int (iI x)] : List Value).toArray below meth c H locs 0 0 (MQ below (va_Qi (fun r u => σ = u ∧ ∃ p, Plc (σ 0) x p ∧ iI (sumN (fun k => bud (σ 0) (σ 0 (91 + k))) p.toNat) = r) (gW G (tm cx) (MA a) (wm cx a)) (MA a)) ([.ref (a 0), .int (iI x)] : List Value).toArray s 0 0 (MA a)) (F0 m 4 ls []) := by
    intro N
    induction N with
    | zero => intro i1 n1 hinv hlt; exfalso; omega
    | succ N ih_4 =>
      intro i1 n1 ⟨hi0, hi1, hn1, hw⟩ hlt_4 H locs ls hP hD hS hl
      have ho1 := hO i1 hi0 (by omega)
      have hb1 := bud_in hI hlay ho1.1 ho1.2
      refine lv_aload_n hex hbc dX5_beginOf_4 rfl (lv_at hl 2 rfl) ?_
      refine va_get (v := .ref (a 1)) hex hbc hts hin5 hown hK hP 0 rfl rfl 0 (by decide) (hts _ (List.mem_of_getElem? (i := 1) rfl)) (fun _ h => h) rfl dX5_beginOf_5 ?_
      refine lv_bipush (v := iI 91) hex hbc dX5_beginOf_8 (by decide) ?_
      refine lv_iload_n hex hbc dX5_beginOf_10 rfl (lv_at hl 0 rfl) ?_
      refine zt_iadd hex hbc dX5_beginOf_11 ?_
      refine g_iald (f := (σ 0)) (v := (σ 0 (91 + i1))) (i := (91 + i1)) hex hbc hK hP 1 0 rfl rfl (by decide) (by omega) rfl dX5_beginOf_12 ?_
      refine lv_iload_n hex hbc dX5_beginOf_13 rfl (lv_at hl 3 rfl) ?_
      refine zt_icmp_eq (a := (σ 0 (91 + i1))) (b := x) (tgt := 40) hex hbc (by omega) dX5_beginOf_14 (by decide) (fun c14 => ?_) (fun c14 => ?_)
      · skip
        refine lv_iload_n hex hbc dX5_beginOf_40 rfl (lv_at hl 1 rfl) ?_
        exact g_iret hex hbc hrt hlocks hK hP hD hS ⟨rfl, i1, ⟨hi0, by omega, hw, c14⟩, congrArg iI hn1.symm⟩ dX5_beginOf_41
      · skip
        refine lv_iload_n hex hbc dX5_beginOf_17 rfl (lv_at hl 1 rfl) ?_
        refine lv_aload_n hex hbc dX5_beginOf_18 rfl (lv_at hl 2 rfl) ?_
        refine va_get (v := .ref (a 5)) hex hbc hts hin5 hown hK hP 0 rfl rfl 6 (by decide) (hts _ (List.mem_of_getElem? (i := 2) rfl)) (fun _ h => h) rfl dX5_beginOf_19 ?_
        refine lv_aload_n hex hbc dX5_beginOf_22 rfl (lv_at hl 2 rfl) ?_
        refine va_get (v := .ref (a 1)) hex hbc hts hin5 hown hK hP 0 rfl rfl 0 (by decide) (hts _ (List.mem_of_getElem? (i := 1) rfl)) (fun _ h => h) rfl dX5_beginOf_23 ?_
        refine lv_bipush (v := iI 91) hex hbc dX5_beginOf_26 (by decide) ?_
        refine lv_iload_n hex hbc dX5_beginOf_28 rfl (lv_at hl 0 rfl) ?_
        refine zt_iadd hex hbc dX5_beginOf_29 ?_
        refine g_iald (f := (σ 0)) (v := (σ 0 (91 + i1))) (i := (91 + i1)) hex hbc hK hP 1 0 rfl rfl (by decide) (by omega) rfl dX5_beginOf_30 ?_
        refine g_iald (f := (σ 5)) (v := (σ 5 (σ 0 (91 + i1)))) (i := (σ 0 (91 + i1))) hex hbc hK hP 5 0 rfl rfl (by decide) (by omega) rfl dX5_beginOf_31 ?_
        refine zt_nm (a := (σ 5 (σ 0 (91 + i1)))) (b := (bud (σ 0) (σ 0 (91 + i1)))) (hbud _ ho1.1 ho1.2) ?_
        refine zt_iadd hex hbc dX5_beginOf_32 ?_
        refine lv_istore_n (lv' := [(2, .int (iI (n1 + (bud (σ 0) (σ 0 (91 + i1)))))), (3, .int (iI i1)), (0, .ref (a 0)), (1, .int (iI x))]) hex hbc dX5_beginOf_33 rfl hl (by decide) rfl (fun ls hl => ?_)
        refine lv_iinc (v := iI (i1 + 1)) (lv' := [(3, .int (iI (i1 + 1))), (2, .int (iI (n1 + (bud (σ 0) (σ 0 (91 + i1)))))), (0, .ref (a 0)), (1, .int (iI x))]) hex hbc dX5_beginOf_34 hl (k := 1) rfl (iI_add _ _) (by decide) rfl (fun ls hl => ?_)
        refine lv_goto (tgt := 4) hex hbc dX5_beginOf_37 (by decide) ?_
        exact ih_4 (i1 + 1) (n1 + (bud (σ 0) (σ 0 (91 + i1)))) ⟨by omega, (Int.lt_or_le i1 q0).elim (fun q => by omega) (fun q => absurd hq2 (by rw [show q0 = i1 by omega]; exact c14)), by rw [sumN_at hi0, ← hn1], fun k h1 h2 => if hk : k = i1 then by subst hk; exact c14 else hw k h1 (by omega)⟩ (by omega) _ _ _ hP hD hS (lv_sub hl [0, 1, 2, 3] rfl)
  exact loop_4 _ 0 0 ⟨by omega, by omega, rfl, fun k k0 k1 => by omega⟩ (mz_lt _) _ _ _ hP hD hS (lv_sub hl [0, 1, 2, 3] rfl)
theorem iX5_beyond_X5 : ∀ w ∈ wsX50, w ∈ wsX5_beyond := fun _ h => List.mem_cons_of_mem _ (List.mem_append_right _ h)
set_option maxHeartbeats 4000000 in
set_option maxRecDepth 100000 in
theorem mX5_beyond (l : Launch) (G : va_G) (cx a : Nat → Nat) (σ : Nat → Int → Int)   (hI : Inv (σ 0)) : Met l yX5_beyond wsX5_beyond ({ frames := 6, cells := 0, slots := 0, locals := 141 }) (va_Pc [.ref (a 0)] (gW G (tm cx) (MA a) (wm cx a) σ)) (va_Qi (fun r u => ((lay_ (σ 0) → iI (sumN (bey (σ 0) (bud (σ 0))) (σ 0 74).toNat) = r) ∧ (¬ lay_ (σ 0) → iI (-9) = r)) ∧ ∃ f2 f5 f6 f7 f8, (f2 0 = σ 2 0 ∧ f2 1 = σ 2 1) ∧ sc (sc (sc (sc (sc σ 2 f2) 5 f5) 6 f6) 7 f7) 8 f8 = u) (gW G (tm cx) (MA a) (wm cx a)) (MA a)) 0 0 (MA a) := by
  refine Met.ofW (cc := cX5_beyond) (maxL := 3) (ret := some .int) (by decide) rfl ?_
  intro p e s m args below meth c s₁ B hml hv
  obtain ⟨rfl, hP, hK, hD⟩ := hv
  have hex := B.exec
  have hbc := B.bytes
  have hrt := B.returns
  have hts := atoms_spec (ws := wsX5_beyond) B.pre
  have hown : s.vm.findClass RX5 = some m.cls := findClass_of_methodNamed B.named
  have hlocks := B.notSynchronized
  have hS : va_S (MA a) s.heap s.heap [] := va_S.rf
  have hin5 := iX5_beyond_X5
  have hl := lv_entry ([.ref (a 0)]) (n := 3) (Nat.le_of_ble_eq_true rfl)
  rw [lg_entry_eq]
  generalize (lg_sl ([.ref (a 0)]) ++ List.replicate (3 - (lg_sl ([.ref (a 0)])).length) Slot.unset).toArray = ls at hl ⊢
  have hl : lv_has ls 3 [(0, .ref (a 0))] := hl
  obtain ⟨hB, hEn, hMk, hAs, hPm⟩ := id hI
  refine lv_aload_n hex hbc dX5_beyond_0 rfl (lv_at hl 0 rfl) ?_
  refine g_calli [] ⟨hex, hbc, hml, hown, hts⟩ (mX5_isLaid l G cx a σ  hI) (cwV 0 hts gX5_beyond_X5_isLaid rfl rfl rfl (by decide +kernel) ⟨Nat.le_of_ble_eq_true rfl, Nat.le_of_ble_eq_true rfl⟩) hK hP hD hS (fun _ h => h) 0 5 rfl rfl rfl rfl hl.1 (Nat.le_of_ble_eq_true rfl) dX5_beyond_1 ⟨Nat.zero_le _, Nat.zero_le _⟩ (fun r_1 u_1 H locs hw_1 hP hD hS hz_1 hk_1 => ?_)
  obtain ⟨⟨vb1, rfl, hv1⟩, f2_1, f5_1, f6_1, f7_1, f8_1, hf2_1, hbu_1, hst_1, rfl⟩ := hw_1
  have hP : va_P G vwCl (wm cx a (sc (sc (sc (sc (sc σ 2 f2_1) 5 f5_1) 6 f6_1) 7 f7_1) 8 f8_1)) H := hP
  have hD : va_D (MA a) (wm cx a (sc (sc (sc (sc (sc σ 2 f2_1) 5 f5_1) 6 f6_1) 7 f7_1) 8 f8_1)) := hD
  refine zt_ifb_ne (P := (lay_ (σ 0))) (tgt := 10) hex hbc hv1 dX5_beyond_4 (by decide) (fun c4 => ?_) (fun c4 => ?_)
  · skip
    have hlay : lay_ (σ 0) := c4
    have hbud := hbu_1 hlay
    refine lv_iconst (v := iI 0) hex hbc dX5_beyond_10 rfl ?_
    refine lv_istore_n (lv' := [(1, .int (iI 0)), (0, .ref (a 0))]) hex hbc dX5_beyond_11 rfl hl (by decide) rfl (fun ls hl => ?_)
    refine lv_iconst (v := iI 0) hex hbc dX5_beyond_12 rfl ?_
    refine lv_istore_n (lv' := [(2, .int (iI 0)), (1, .int (iI 0)), (0, .ref (a 0))]) hex hbc dX5_beyond_13 rfl hl (by decide) rfl (fun ls hl => ?_)
    have loop_14 : ∀ (N : Nat) (i1 : Int) (n1 : Int), (0 ≤ i1 ∧ i1 ≤ σ 0 74 ∧ n1 = sumN (bey (σ 0) (bud (σ 0))) i1.toNat) → (σ 0 74 - i1) < (N : Int) → ∀ (H : Heap) (locs : List Loc) (ls : Array Slot), va_P G vwCl (wm cx a (sc (sc (sc (sc (sc σ 2 f2_1) 5 f5_1) 6 f6_1) 7 f7_1) 8 f8_1)) H → va_D (MA a) (wm cx a (sc (sc (sc (sc (sc σ 2 f2_1) 5 f5_1) 6 f6_1) 7 f7_1) 8 f8_1)) → va_S (MA a) s.heap H locs → lv_has ls 3 [(2, .int (iI i1)), (1, .int (iI n1)), (0, .ref (a 0))] → W p l e (headSpec wsX5_beyond ({ frames := 6, cells := 0, slots := 0, locals := 141 })).room s m ([.ref (a 0)] : List Value).toArray below meth c H locs 0 0 (MQ below (va_Qi (fun r u => ((lay_ (σ 0) → iI (sumN (bey (σ 0) (bud (σ 0))) (σ 0 74).toNat) = r) ∧ (¬ lay_ (σ 0) → iI (-9) = r)) ∧ ∃ f2 f5 f6 f7 f8, (f2 0 = σ 2 0 ∧ f2 1 = σ 2 1) ∧ sc (sc (sc (sc (sc σ 2 f2) 5 f5) 6 f6) 7 f7) 8 f8 = u) (gW G (tm cx) (MA a) (wm cx a)) (MA a)) ([.ref (a 0)] : List Value).toArray s 0 0 (MA a)) (F0 m 14 ls []) := by
      intro N
      induction N with
      | zero => intro i1 n1 hinv hlt; exfalso; omega
      | succ N ih_14 =>
        intro i1 n1 ⟨hi0, hi1, hn1⟩ hlt_14 H locs ls hP hD hS hl
        refine lv_iload_n hex hbc dX5_beyond_14 rfl (lv_at hl 0 rfl) ?_
        refine lv_aload_n hex hbc dX5_beyond_15 rfl (lv_at hl 2 rfl) ?_
        refine va_get (v := .ref (a 1)) hex hbc hts hin5 hown hK hP 0 rfl rfl 0 (by decide) (hts _ (List.mem_of_getElem? (i := 1) rfl)) (fun _ h => h) rfl dX5_beyond_16 ?_
        refine lv_bipush (v := iI 74) hex hbc dX5_beyond_19 (by decide) ?_
        refine g_iald (f := (σ 0)) (v := (σ 0 74)) (i := 74) hex hbc hK hP 1 0 rfl rfl (by decide) (by omega) rfl dX5_beyond_21 ?_
        refine zt_icmp_ge (a := i1) (b := (σ 0 74)) (tgt := 53) hex hbc (by omega) dX5_beyond_22 (by decide) (fun c22 => ?_) (fun c22 => ?_)
        · skip
          refine lv_iload_n hex hbc dX5_beyond_53 rfl (lv_at hl 1 rfl) ?_
          exact g_iret hex hbc hrt hlocks hK hP hD hS ⟨⟨fun _ => congrArg iI (by rw [hn1, show i1 = σ 0 74 by omega]), fun h => absurd hlay h⟩, f2_1, f5_1, f6_1, f7_1, f8_1, hf2_1, rfl⟩ dX5_beyond_54
        · skip
          have hbi := bud_in hI hlay hi0 c22
          refine lv_iload_n hex hbc dX5_beyond_25 rfl (lv_at hl 1 rfl) ?_
          refine lv_aload_n hex hbc dX5_beyond_26 rfl (lv_at hl 2 rfl) ?_
          refine lv_iload_n hex hbc dX5_beyond_27 rfl (lv_at hl 0 rfl) ?_
          refine lv_aload_n hex hbc dX5_beyond_28 rfl (lv_at hl 2 rfl) ?_
          refine va_get (v := .ref (a 5)) hex hbc hts hin5 hown hK hP 0 rfl rfl 6 (by decide) (hts _ (List.mem_of_getElem? (i := 2) rfl)) (fun _ h => h) rfl dX5_beyond_29 ?_
          refine lv_iload_n hex hbc dX5_beyond_32 rfl (lv_at hl 0 rfl) ?_
          refine g_iald (f := f5_1) (v := (f5_1 i1)) (i := i1) hex hbc hK hP 5 0 rfl rfl (by decide) (by omega) rfl dX5_beyond_33 ?_
          refine zt_nm (a := (f5_1 i1)) (b := (bud (σ 0) i1)) (hbud i1 hi0 c22) ?_
          refine g_calli [.int (iI i1), .int (iI (bud (σ 0) i1))] ⟨hex, hbc, hml, hown, hts⟩ (mX5_fits l G cx a (sc (sc (sc (sc (sc σ 2 f2_1) 5 f5_1) 6 f6_1) 7 f7_1) 8 f8_1) i1 (bud (σ 0) i1) (show 0 ≤ i1 ∧ i1 < σ 0 74 from by omega) (show -2147483648 ≤ (bud (σ 0) i1) ∧ (bud (σ 0) i1) < 2147483648 from by omega) hI) (cwV 2 hts gX5_beyond_X5_fits rfl rfl rfl (by decide +kernel) ⟨Nat.le_of_ble_eq_true rfl, Nat.le_of_ble_eq_true rfl⟩) hK hP hD hS (fun _ h => h) 0 5 rfl rfl rfl rfl hl.1 (Nat.le_of_ble_eq_true rfl) dX5_beyond_34 ⟨Nat.zero_le _, Nat.zero_le _⟩ (fun r_34 u_34 H locs hw_34 hP hD hS hz_34 hk_34 => ?_)
          obtain ⟨rfl, vb34, rfl, hv34⟩ := hw_34
          have hv34 : ((fits_ (σ 0) i1 (bud (σ 0) i1)) ∧ vb34 = 1) ∨ (¬ (fits_ (σ 0) i1 (bud (σ 0) i1)) ∧ vb34 = 0) := hv34
          refine zt_ifb_eq (P := (fits_ (σ 0) i1 (bud (σ 0) i1))) (tgt := 44) hex hbc hv34 dX5_beyond_37 (by decide) (fun c37 => ?_) (fun c37 => ?_)
          · skip
            refine lv_iconst (v := iI 1) hex hbc dX5_beyond_44 rfl ?_
            refine zt_iadd hex hbc dX5_beyond_45 ?_
            refine lv_istore_n (lv' := [(1, .int (iI (n1 + 1))), (2, .int (iI i1)), (0, .ref (a 0))]) hex hbc dX5_beyond_46 rfl hl (by decide) rfl (fun ls hl => ?_)
            refine lv_iinc (v := iI (i1 + 1)) (lv' := [(2, .int (iI (i1 + 1))), (1, .int (iI (n1 + 1))), (0, .ref (a 0))]) hex hbc dX5_beyond_47 hl (k := 1) rfl (iI_add _ _) (by decide) rfl (fun ls hl => ?_)
            refine lv_goto (tgt := 14) hex hbc dX5_beyond_50 (by decide) ?_
            exact ih_14 (i1 + 1) (n1 + 1) ⟨by omega, by omega, by rw [sumN_at hi0, ← hn1]; unfold bey; unfold fits_ at c37; first | rw [if_pos (by omega)] | (rw [if_neg (by omega)])⟩ (by omega) _ _ _ hP hD hS (lv_sub hl [0, 1, 2] rfl)
          · skip
            refine lv_iconst (v := iI 0) hex hbc dX5_beyond_40 rfl ?_
            refine lv_goto (tgt := 45) hex hbc dX5_beyond_41 (by decide) ?_
            refine zt_iadd hex hbc dX5_beyond_45 ?_
            refine lv_istore_n (lv' := [(1, .int (iI (n1 + 0))), (2, .int (iI i1)), (0, .ref (a 0))]) hex hbc dX5_beyond_46 rfl hl (by decide) rfl (fun ls hl => ?_)
            refine lv_iinc (v := iI (i1 + 1)) (lv' := [(2, .int (iI (i1 + 1))), (1, .int (iI (n1 + 0))), (0, .ref (a 0))]) hex hbc dX5_beyond_47 hl (k := 1) rfl (iI_add _ _) (by decide) rfl (fun ls hl => ?_)
            refine lv_goto (tgt := 14) hex hbc dX5_beyond_50 (by decide) ?_
            exact ih_14 (i1 + 1) (n1 + 0) ⟨by omega, by omega, by rw [sumN_at hi0, ← hn1]; unfold bey; unfold fits_ at c37; first | rw [if_pos (by omega)] | (rw [if_neg (by omega)])⟩ (by omega) _ _ _ hP hD hS (lv_sub hl [0, 1, 2] rfl)
    exact loop_14 _ 0 0 ⟨by omega, by omega, rfl⟩ (mz_lt _) _ _ _ hP hD hS (lv_sub hl [0, 1, 2] rfl)
  · skip
    refine lv_bipush (v := iI (-9)) hex hbc dX5_beyond_7 (by decide) ?_
    exact g_iret hex hbc hrt hlocks hK hP hD hS ⟨⟨fun h => absurd h c4, fun _ => rfl⟩, f2_1, f5_1, f6_1, f7_1, f8_1, hf2_1, rfl⟩ dX5_beyond_9
theorem iX5_fades_X5 : ∀ w ∈ wsX50, w ∈ wsX5_fades := fun _ h => List.mem_cons_of_mem _ (List.mem_append_right _ h)
set_option maxHeartbeats 4000000 in
set_option maxRecDepth 100000 in
theorem mX5_fades (l : Launch) (G : va_G) (cx a : Nat → Nat) (σ : Nat → Int → Int)   (hI : Inv (σ 0)) : Met l yX5_fades wsX5_fades ({ frames := 6, cells := 0, slots := 0, locals := 141 }) (va_Pc [.ref (a 0)] (gW G (tm cx) (MA a) (wm cx a) σ)) (va_Qi (fun r u => ((lay_ (σ 0) → iI (sumN (fad (σ 0) (bud (σ 0))) (σ 0 74).toNat) = r) ∧ (¬ lay_ (σ 0) → iI (-9) = r)) ∧ ∃ f2 f5 f6 f7 f8, (f2 0 = σ 2 0 ∧ f2 1 = σ 2 1) ∧ sc (sc (sc (sc (sc σ 2 f2) 5 f5) 6 f6) 7 f7) 8 f8 = u) (gW G (tm cx) (MA a) (wm cx a)) (MA a)) 0 0 (MA a) := by
  refine Met.ofW (cc := cX5_fades) (maxL := 3) (ret := some .int) (by decide) rfl ?_
  intro p e s m args below meth c s₁ B hml hv
  obtain ⟨rfl, hP, hK, hD⟩ := hv
  have hex := B.exec
  have hbc := B.bytes
  have hrt := B.returns
  have hts := atoms_spec (ws := wsX5_fades) B.pre
  have hown : s.vm.findClass RX5 = some m.cls := findClass_of_methodNamed B.named
  have hlocks := B.notSynchronized
  have hS : va_S (MA a) s.heap s.heap [] := va_S.rf
  have hin5 := iX5_fades_X5
  have hl := lv_entry ([.ref (a 0)]) (n := 3) (Nat.le_of_ble_eq_true rfl)
  rw [lg_entry_eq]
  generalize (lg_sl ([.ref (a 0)]) ++ List.replicate (3 - (lg_sl ([.ref (a 0)])).length) Slot.unset).toArray = ls at hl ⊢
  have hl : lv_has ls 3 [(0, .ref (a 0))] := hl
  obtain ⟨hB, hEn, hMk, hAs, hPm⟩ := id hI
  refine lv_aload_n hex hbc dX5_fades_0 rfl (lv_at hl 0 rfl) ?_
  refine g_calli [] ⟨hex, hbc, hml, hown, hts⟩ (mX5_isLaid l G cx a σ  hI) (cwV 0 hts gX5_fades_X5_isLaid rfl rfl rfl (by decide +kernel) ⟨Nat.le_of_ble_eq_true rfl, Nat.le_of_ble_eq_true rfl⟩) hK hP hD hS (fun _ h => h) 0 5 rfl rfl rfl rfl hl.1 (Nat.le_of_ble_eq_true rfl) dX5_fades_1 ⟨Nat.zero_le _, Nat.zero_le _⟩ (fun r_1 u_1 H locs hw_1 hP hD hS hz_1 hk_1 => ?_)
  obtain ⟨⟨vb1, rfl, hv1⟩, f2_1, f5_1, f6_1, f7_1, f8_1, hf2_1, hbu_1, hst_1, rfl⟩ := hw_1
  have hP : va_P G vwCl (wm cx a (sc (sc (sc (sc (sc σ 2 f2_1) 5 f5_1) 6 f6_1) 7 f7_1) 8 f8_1)) H := hP
  have hD : va_D (MA a) (wm cx a (sc (sc (sc (sc (sc σ 2 f2_1) 5 f5_1) 6 f6_1) 7 f7_1) 8 f8_1)) := hD
  refine zt_ifb_ne (P := (lay_ (σ 0))) (tgt := 10) hex hbc hv1 dX5_fades_4 (by decide) (fun c4 => ?_) (fun c4 => ?_)
  · skip
    have hlay : lay_ (σ 0) := c4
    have hbud := hbu_1 hlay
    refine lv_iconst (v := iI 0) hex hbc dX5_fades_10 rfl ?_
    refine lv_istore_n (lv' := [(1, .int (iI 0)), (0, .ref (a 0))]) hex hbc dX5_fades_11 rfl hl (by decide) rfl (fun ls hl => ?_)
    refine lv_iconst (v := iI 0) hex hbc dX5_fades_12 rfl ?_
    refine lv_istore_n (lv' := [(2, .int (iI 0)), (1, .int (iI 0)), (0, .ref (a 0))]) hex hbc dX5_fades_13 rfl hl (by decide) rfl (fun ls hl => ?_)
    have loop_14 : ∀ (N : Nat) (i1 : Int) (n1 : Int), (0 ≤ i1 ∧ i1 ≤ σ 0 74 ∧ n1 = sumN (fun k => fad (σ 0) (bud (σ 0)) (plcf (σ 0) k)) i1.toNat) → (σ 0 74 - i1) < (N : Int) → ∀ (H : Heap) (locs : List Loc) (ls : Array Slot), va_P G vwCl (wm cx a (sc (sc (sc (sc (sc σ 2 f2_1) 5 f5_1) 6 f6_1) 7 f7_1) 8 f8_1)) H → va_D (MA a) (wm cx a (sc (sc (sc (sc (sc σ 2 f2_1) 5 f5_1) 6 f6_1) 7 f7_1) 8 f8_1)) → va_S (MA a) s.heap H locs → lv_has ls 3 [(2, .int (iI i1)), (1, .int (iI n1)), (0, .ref (a 0))] → W p l e (headSpec wsX5_fades ({ frames := 6, cells := 0, slots := 0, locals := 141 })).room s m ([.ref (a 0)] : List Value).toArray below meth c H locs 0 0 (MQ below (va_Qi (fun r u => ((lay_ (σ 0) → iI (sumN (fad (σ 0) (bud (σ 0))) (σ 0 74).toNat) = r) ∧ (¬ lay_ (σ 0) → iI (-9) = r)) ∧ ∃ f2 f5 f6 f7 f8, (f2 0 = σ 2 0 ∧ f2 1 = σ 2 1) ∧ sc (sc (sc (sc (sc σ 2 f2) 5 f5) 6 f6) 7 f7) 8 f8 = u) (gW G (tm cx) (MA a) (wm cx a)) (MA a)) ([.ref (a 0)] : List Value).toArray s 0 0 (MA a)) (F0 m 14 ls []) := by
      intro N
      induction N with
      | zero => intro i1 n1 hinv hlt; exfalso; omega
      | succ N ih_14 =>
        intro i1 n1 ⟨hi0, hi1, hn1⟩ hlt_14 H locs ls hP hD hS hl
        refine lv_iload_n hex hbc dX5_fades_14 rfl (lv_at hl 0 rfl) ?_
        refine lv_aload_n hex hbc dX5_fades_15 rfl (lv_at hl 2 rfl) ?_
        refine va_get (v := .ref (a 1)) hex hbc hts hin5 hown hK hP 0 rfl rfl 0 (by decide) (hts _ (List.mem_of_getElem? (i := 1) rfl)) (fun _ h => h) rfl dX5_fades_16 ?_
        refine lv_bipush (v := iI 74) hex hbc dX5_fades_19 (by decide) ?_
        refine g_iald (f := (σ 0)) (v := (σ 0 74)) (i := 74) hex hbc hK hP 1 0 rfl rfl (by decide) (by omega) rfl dX5_fades_21 ?_
        refine zt_icmp_ge (a := i1) (b := (σ 0 74)) (tgt := 39) hex hbc (by omega) dX5_fades_22 (by decide) (fun c22 => ?_) (fun c22 => ?_)
        · skip
          refine lv_iload_n hex hbc dX5_fades_39 rfl (lv_at hl 1 rfl) ?_
          exact g_iret hex hbc hrt hlocks hK hP hD hS ⟨⟨fun _ => congrArg iI (by rw [hn1, show i1 = σ 0 74 by omega]; exact (hI.sum_plc _).symm), fun h => absurd hlay h⟩, f2_1, f5_1, f6_1, f7_1, f8_1, hf2_1, rfl⟩ dX5_fades_40
        · skip
          refine lv_iload_n hex hbc dX5_fades_25 rfl (lv_at hl 1 rfl) ?_
          refine lv_aload_n hex hbc dX5_fades_26 rfl (lv_at hl 2 rfl) ?_
          refine lv_iload_n hex hbc dX5_fades_27 rfl (lv_at hl 0 rfl) ?_
          refine g_calli [.int (iI i1)] ⟨hex, hbc, hml, hown, hts⟩ (mX5_fadeOf l G cx a (sc (sc (sc (sc (sc σ 2 f2_1) 5 f5_1) 6 f6_1) 7 f7_1) 8 f8_1) i1 (show 0 ≤ i1 ∧ i1 < σ 0 74 from by omega) hlay hbud hI) (cwV 1 hts gX5_fades_X5_fadeOf rfl rfl rfl (by decide +kernel) ⟨Nat.le_of_ble_eq_true rfl, Nat.le_of_ble_eq_true rfl⟩) hK hP hD hS (fun _ h => h) 0 5 rfl rfl rfl rfl hl.1 (Nat.le_of_ble_eq_true rfl) dX5_fades_28 ⟨Nat.zero_le _, Nat.zero_le _⟩ (fun r_28 u_28 H locs hw_28 hP hD hS hz_28 hk_28 => ?_)
          obtain ⟨rfl, rfl⟩ := hw_28
          refine zt_iadd hex hbc dX5_fades_31 ?_
          refine lv_istore_n (lv' := [(1, .int (iI (n1 + (fad (σ 0) (bud (σ 0)) (plcf (σ 0) i1))))), (2, .int (iI i1)), (0, .ref (a 0))]) hex hbc dX5_fades_32 rfl hl (by decide) rfl (fun ls hl => ?_)
          refine lv_iinc (v := iI (i1 + 1)) (lv' := [(2, .int (iI (i1 + 1))), (1, .int (iI (n1 + (fad (σ 0) (bud (σ 0)) (plcf (σ 0) i1))))), (0, .ref (a 0))]) hex hbc dX5_fades_33 hl (k := 1) rfl (iI_add _ _) (by decide) rfl (fun ls hl => ?_)
          refine lv_goto (tgt := 14) hex hbc dX5_fades_36 (by decide) ?_
          exact ih_14 (i1 + 1) (n1 + (fad (σ 0) (bud (σ 0)) (plcf (σ 0) i1))) ⟨by omega, by omega, by rw [sumN_at hi0, ← hn1]⟩ (by omega) _ _ _ hP hD hS (lv_sub hl [0, 1, 2] rfl)
    exact loop_14 _ 0 0 ⟨by omega, by omega, rfl⟩ (mz_lt _) _ _ _ hP hD hS (lv_sub hl [0, 1, 2] rfl)
  · skip
    refine lv_bipush (v := iI (-9)) hex hbc dX5_fades_7 (by decide) ?_
    exact g_iret hex hbc hrt hlocks hK hP hD hS ⟨⟨fun h => absurd h c4, fun _ => rfl⟩, f2_1, f5_1, f6_1, f7_1, f8_1, hf2_1, rfl⟩ dX5_fades_9
theorem iX5_loudest_X5 : ∀ w ∈ wsX50, w ∈ wsX5_loudest := fun _ h => List.mem_cons_of_mem _ (List.mem_append_right _ h)
set_option maxHeartbeats 4000000 in
set_option maxRecDepth 100000 in
theorem mX5_loudest (l : Launch) (G : va_G) (cx a : Nat → Nat) (σ : Nat → Int → Int)  (x : Int) (hx : 0 ≤ x ∧ x < σ 0 74) (hI : Inv (σ 0)) : Met l yX5_loudest wsX5_loudest ({ frames := 1, cells := 0, slots := 0, locals := 21 }) (va_Pc [.ref (a 0), .int (iI x)] (gW G (tm cx) (MA a) (wm cx a) σ)) (va_Qi (fun r u => σ = u ∧ iI (ldn (σ 0) (fr (σ 0) x) (fr (σ 0) (x + 1) - fr (σ 0) x - 1).toNat) = r) (gW G (tm cx) (MA a) (wm cx a)) (MA a)) 0 0 (MA a) := by
  refine Met.ofW (cc := cX5_loudest) (maxL := 4) (ret := some .int) (by decide) rfl ?_
  intro p e s m args below meth c s₁ B hml hv
  obtain ⟨rfl, hP, hK, hD⟩ := hv
  have hex := B.exec
  have hbc := B.bytes
  have hrt := B.returns
  have hts := atoms_spec (ws := wsX5_loudest) B.pre
  have hown : s.vm.findClass RX5 = some m.cls := findClass_of_methodNamed B.named
  have hlocks := B.notSynchronized
  have hS : va_S (MA a) s.heap s.heap [] := va_S.rf
  have hin5 := iX5_loudest_X5
  have hl := lv_entry ([.ref (a 0), .int (iI x)]) (n := 4) (Nat.le_of_ble_eq_true rfl)
  rw [lg_entry_eq]
  generalize (lg_sl ([.ref (a 0), .int (iI x)]) ++ List.replicate (4 - (lg_sl ([.ref (a 0), .int (iI x)])).length) Slot.unset).toArray = ls at hl ⊢
  have hl : lv_has ls 4 [(0, .ref (a 0)), (1, .int (iI x))] := hl
  obtain ⟨hB, hEn, hMk, hAs, hPm⟩ := id hI
  have hm0 := hMk x hx.1 hx.2
  have hup := hI.fr_up hx.1 hx.2
  have hfi := hI.fr_in (k := x + 1) (by omega)
  have hf0 := hI.fr_in hx.1
  refine lv_aload_n hex hbc dX5_loudest_0 rfl (lv_at hl 0 rfl) ?_
  refine lv_iload_n hex hbc dX5_loudest_1 rfl (lv_at hl 1 rfl) ?_
  refine g_calli [.int (iI x)] ⟨hex, hbc, hml, hown, hts⟩ (mX5_frameOf l G cx a σ x (by omega) hI) (cwV 1 hts gX5_loudest_X5_frameOf rfl rfl rfl (by decide +kernel) ⟨Nat.le_of_ble_eq_true rfl, Nat.le_of_ble_eq_true rfl⟩) hK hP hD hS (fun _ h => h) 0 5 rfl rfl rfl rfl hl.1 (Nat.le_of_ble_eq_true rfl) dX5_loudest_2 ⟨Nat.zero_le _, Nat.zero_le _⟩ (fun r_2 u_2 H locs hw_2 hP hD hS hz_2 hk_2 => ?_)
  obtain ⟨rfl, rfl⟩ := hw_2
  refine lv_istore_n (lv' := [(2, .int (iI (fr (σ 0) x))), (0, .ref (a 0)), (1, .int (iI x))]) hex hbc dX5_loudest_5 rfl hl (by decide) rfl (fun ls hl => ?_)
  refine lv_iload_n hex hbc dX5_loudest_6 rfl (lv_at hl 0 rfl) ?_
  refine lv_iconst (v := iI 1) hex hbc dX5_loudest_7 rfl ?_
  refine zt_iadd hex hbc dX5_loudest_8 ?_
  refine lv_istore_n (lv' := [(3, .int (iI ((fr (σ 0) x) + 1))), (2, .int (iI (fr (σ 0) x))), (0, .ref (a 0)), (1, .int (iI x))]) hex hbc dX5_loudest_9 rfl hl (by decide) rfl (fun ls hl => ?_)
  have loop_10 : ∀ (N : Nat) (n1 : Nat) (i1 : Int) (b1 : Int), (i1 = fr (σ 0) x + (n1 : Int) + 1 ∧ i1 ≤ fr (σ 0) (x + 1) ∧ b1 = ldn (σ 0) (fr (σ 0) x) n1) → (64 - i1) < (N : Int) → ∀ (H : Heap) (locs : List Loc) (ls : Array Slot), va_P G vwCl (wm cx a σ) H → va_D (MA a) (wm cx a σ) → va_S (MA a) s.heap H locs → lv_has ls 4 [(3, .int (iI i1)), (2, .int (iI b1)), (0, .ref (a 0)), (1, .int (iI x))] → W p l e (headSpec wsX5_loudest ({ frames := 1, cells := 0, slots := 0, locals := 21 })).room s m ([.ref (a 0), .int (iI x)] : List Value).toArray below meth c H locs 0 0 (MQ below (va_Qi (fun r u => σ = u ∧ iI (ldn (σ 0) (fr (σ 0) x) (fr (σ 0) (x + 1) - fr (σ 0) x - 1).toNat) = r) (gW G (tm cx) (MA a) (wm cx a)) (MA a)) ([.ref (a 0), .int (iI x)] : List Value).toArray s 0 0 (MA a)) (F0 m 10 ls []) := by
    intro N
    induction N with
    | zero => intro n1 i1 b1 hinv hlt; exfalso; omega
    | succ N ih_10 =>
      intro n1 i1 b1 ⟨hi0, hi1, hb1⟩ hlt_10 H locs ls hP hD hS hl
      have hld := ldn_in (σ 0) (fr (σ 0) x) n1
      rw [← hb1] at hld
      have he1 := hEn b1 (by omega) (by omega)
      refine lv_iload_n hex hbc dX5_loudest_10 rfl (lv_at hl 0 rfl) ?_
      refine lv_aload_n hex hbc dX5_loudest_11 rfl (lv_at hl 2 rfl) ?_
      refine lv_iload_n hex hbc dX5_loudest_12 rfl (lv_at hl 3 rfl) ?_
      refine lv_iconst (v := iI 1) hex hbc dX5_loudest_13 rfl ?_
      refine zt_iadd hex hbc dX5_loudest_14 ?_
      refine g_calli [.int (iI (x + 1))] ⟨hex, hbc, hml, hown, hts⟩ (mX5_frameOf l G cx a σ (x + 1) (by omega) hI) (cwV 1 hts gX5_loudest_X5_frameOf rfl rfl rfl (by decide +kernel) ⟨Nat.le_of_ble_eq_true rfl, Nat.le_of_ble_eq_true rfl⟩) hK hP hD hS (fun _ h => h) 0 5 rfl rfl rfl rfl hl.1 (Nat.le_of_ble_eq_true rfl) dX5_loudest_15 ⟨Nat.zero_le _, Nat.zero_le _⟩ (fun r_15 u_15 H locs hw_15 hP hD hS hz_15 hk_15 => ?_)
      obtain ⟨rfl, rfl⟩ := hw_15
      refine zt_icmp_ge (a := i1) (b := (fr (σ 0) (x + 1))) (tgt := 54) hex hbc (by omega) dX5_loudest_18 (by decide) (fun c18 => ?_) (fun c18 => ?_)
      · skip
        refine lv_iload_n hex hbc dX5_loudest_54 rfl (lv_at hl 1 rfl) ?_
        exact g_iret hex hbc hrt hlocks hK hP hD hS ⟨rfl, congrArg iI (by rw [hb1, show (fr (σ 0) (x + 1) - fr (σ 0) x - 1).toNat = n1 from by omega])⟩ dX5_loudest_55
      · skip
        have he2 := hEn i1 (by omega) (by omega)
        refine lv_aload_n hex hbc dX5_loudest_21 rfl (lv_at hl 2 rfl) ?_
        refine va_get (v := .ref (a 1)) hex hbc hts hin5 hown hK hP 0 rfl rfl 0 (by decide) (hts _ (List.mem_of_getElem? (i := 1) rfl)) (fun _ h => h) rfl dX5_loudest_22 ?_
        refine lv_bipush (v := iI 10) hex hbc dX5_loudest_25 (by decide) ?_
        refine lv_iload_n hex hbc dX5_loudest_27 rfl (lv_at hl 0 rfl) ?_
        refine zt_iadd hex hbc dX5_loudest_28 ?_
        refine g_iald (f := (σ 0)) (v := (σ 0 (10 + i1))) (i := (10 + i1)) hex hbc hK hP 1 0 rfl rfl (by decide) (by omega) rfl dX5_loudest_29 ?_
        refine lv_aload_n hex hbc dX5_loudest_30 rfl (lv_at hl 2 rfl) ?_
        refine va_get (v := .ref (a 1)) hex hbc hts hin5 hown hK hP 0 rfl rfl 0 (by decide) (hts _ (List.mem_of_getElem? (i := 1) rfl)) (fun _ h => h) rfl dX5_loudest_31 ?_
        refine lv_bipush (v := iI 10) hex hbc dX5_loudest_34 (by decide) ?_
        refine lv_iload_n hex hbc dX5_loudest_36 rfl (lv_at hl 1 rfl) ?_
        refine zt_iadd hex hbc dX5_loudest_37 ?_
        refine g_iald (f := (σ 0)) (v := (σ 0 (10 + b1))) (i := (10 + b1)) hex hbc hK hP 1 0 rfl rfl (by decide) (by omega) rfl dX5_loudest_38 ?_
        refine zt_icmp_le (a := (σ 0 (10 + i1))) (b := (σ 0 (10 + b1))) (tgt := 46) hex hbc (by omega) dX5_loudest_39 (by decide) (fun c39 => ?_) (fun c39 => ?_)
        · skip
          refine lv_iload_n hex hbc dX5_loudest_46 rfl (lv_at hl 1 rfl) ?_
          refine lv_istore_n (lv' := [(2, .int (iI b1)), (3, .int (iI i1)), (0, .ref (a 0)), (1, .int (iI x))]) hex hbc dX5_loudest_47 rfl hl (by decide) rfl (fun ls hl => ?_)
          refine lv_iinc (v := iI (i1 + 1)) (lv' := [(3, .int (iI (i1 + 1))), (2, .int (iI b1)), (0, .ref (a 0)), (1, .int (iI x))]) hex hbc dX5_loudest_48 hl (k := 1) rfl (iI_add _ _) (by decide) rfl (fun ls hl => ?_)
          refine lv_goto (tgt := 10) hex hbc dX5_loudest_51 (by decide) ?_
          exact ih_10 (n1 + 1) (i1 + 1) b1 ⟨by omega, by omega, by unfold ldn; rw [← hb1, show fr (σ 0) x + (n1 : Int) + 1 = i1 from by omega]; first | rw [if_pos (by omega)] | rw [if_neg (by omega)]⟩ (by omega) _ _ _ hP hD hS (lv_sub hl [0, 1, 2, 3] rfl)
        · skip
          refine lv_iload_n hex hbc dX5_loudest_42 rfl (lv_at hl 0 rfl) ?_
          refine lv_goto (tgt := 47) hex hbc dX5_loudest_43 (by decide) ?_
          refine lv_istore_n (lv' := [(2, .int (iI i1)), (3, .int (iI i1)), (0, .ref (a 0)), (1, .int (iI x))]) hex hbc dX5_loudest_47 rfl hl (by decide) rfl (fun ls hl => ?_)
          refine lv_iinc (v := iI (i1 + 1)) (lv' := [(3, .int (iI (i1 + 1))), (2, .int (iI i1)), (0, .ref (a 0)), (1, .int (iI x))]) hex hbc dX5_loudest_48 hl (k := 1) rfl (iI_add _ _) (by decide) rfl (fun ls hl => ?_)
          refine lv_goto (tgt := 10) hex hbc dX5_loudest_51 (by decide) ?_
          exact ih_10 (n1 + 1) (i1 + 1) i1 ⟨by omega, by omega, by unfold ldn; rw [← hb1, show fr (σ 0) x + (n1 : Int) + 1 = i1 from by omega]; first | rw [if_pos (by omega)] | rw [if_neg (by omega)]⟩ (by omega) _ _ _ hP hD hS (lv_sub hl [0, 1, 2, 3] rfl)
  exact loop_10 _ 0 (fr (σ 0) x + 1) (fr (σ 0) x) ⟨by omega, by omega, rfl⟩ (mz_lt _) _ _ _ hP hD hS (lv_sub hl [0, 1, 2, 3] rfl)
theorem iX5_layOrder_X5 : ∀ w ∈ wsX50, w ∈ wsX5_layOrder := fun _ h => List.mem_cons_of_mem _ (List.mem_append_right _ h)
set_option maxHeartbeats 4000000 in
set_option maxRecDepth 100000 in
theorem mX5_layOrder (l : Launch) (G : va_G) (cx a : Nat → Nat) (σ : Nat → Int → Int)    : Met l yX5_layOrder wsX5_layOrder ({ frames := 0, cells := 0, slots := 0, locals := 0 }) (va_Pc [.ref (a 0)] (gW G (tm cx) (MA a) (wm cx a) σ)) (va_Qv (fun u => sc σ 0 (spo (σ 0)) = u) (gW G (tm cx) (MA a) (wm cx a)) (MA a)) 0 0 (MA a) := by
  refine Met.ofW (cc := cX5_layOrder) (maxL := 2) (ret := none) (by decide) rfl ?_
  intro p e s m args below meth c s₁ B hml hv
  obtain ⟨rfl, hP, hK, hD⟩ := hv
  have hex := B.exec
  have hbc := B.bytes
  have hrt := B.returns
  have hts := atoms_spec (ws := wsX5_layOrder) B.pre
  have hown : s.vm.findClass RX5 = some m.cls := findClass_of_methodNamed B.named
  have hlocks := B.notSynchronized
  have hS : va_S (MA a) s.heap s.heap [] := va_S.rf
  have hin5 := iX5_layOrder_X5
  have hl := lv_entry ([.ref (a 0)]) (n := 2) (Nat.le_of_ble_eq_true rfl)
  rw [lg_entry_eq]
  generalize (lg_sl ([.ref (a 0)]) ++ List.replicate (2 - (lg_sl ([.ref (a 0)])).length) Slot.unset).toArray = ls at hl ⊢
  have hl : lv_has ls 2 [(0, .ref (a 0))] := hl
  refine lv_iconst (v := iI 0) hex hbc dX5_layOrder_0 rfl ?_
  refine lv_istore_n (lv' := [(1, .int (iI 0)), (0, .ref (a 0))]) hex hbc dX5_layOrder_1 rfl hl (by decide) rfl (fun ls hl => ?_)
  have loop_2 : ∀ (N : Nat) (i1 : Int) (w1 : Int → Int), (0 ≤ i1 ∧ i1 ≤ 16 ∧ ∀ k, w1 k = if 91 ≤ k ∧ k < 91 + i1 then k - 91 else σ 0 k) → (16 - i1) < (N : Int) → ∀ (H : Heap) (locs : List Loc) (ls : Array Slot), va_P G vwCl (wm cx a (sc σ 0 w1)) H → va_D (MA a) (wm cx a (sc σ 0 w1)) → va_S (MA a) s.heap H locs → lv_has ls 2 [(1, .int (iI i1)), (0, .ref (a 0))] → W p l e (headSpec wsX5_layOrder ({ frames := 0, cells := 0, slots := 0, locals := 0 })).room s m ([.ref (a 0)] : List Value).toArray below meth c H locs 0 0 (MQ below (va_Qv (fun u => sc σ 0 (spo (σ 0)) = u) (gW G (tm cx) (MA a) (wm cx a)) (MA a)) ([.ref (a 0)] : List Value).toArray s 0 0 (MA a)) (F0 m 2 ls []) := by
    intro N
    induction N with
    | zero => intro i1 w1 hinv hlt; exfalso; omega
    | succ N ih_2 =>
      intro i1 w1 ⟨hi0, hi1, hw⟩ hlt_2 H locs ls hP hD hS hl
      refine lv_iload_n hex hbc dX5_layOrder_2 rfl (lv_at hl 0 rfl) ?_
      refine lv_bipush (v := iI 16) hex hbc dX5_layOrder_3 (by decide) ?_
      refine zt_icmp_ge (a := i1) (b := 16) (tgt := 24) hex hbc (by omega) dX5_layOrder_5 (by decide) (fun c5 => ?_) (fun c5 => ?_)
      · skip
        exact g_vret hex hbc hrt hlocks hK hP hD hS (congrArg (sc σ 0) (funext fun k => by rw [hw k]; unfold spo; (repeat' split) <;> first | omega | exact congrArg _ (by omega))) dX5_layOrder_24
      · skip
        refine lv_aload_n hex hbc dX5_layOrder_8 rfl (lv_at hl 1 rfl) ?_
        refine va_get (v := .ref (a 1)) hex hbc hts hin5 hown hK hP 0 rfl rfl 0 (by decide) (hts _ (List.mem_of_getElem? (i := 1) rfl)) (fun _ h => h) rfl dX5_layOrder_9 ?_
        refine lv_bipush (v := iI 91) hex hbc dX5_layOrder_12 (by decide) ?_
        refine lv_iload_n hex hbc dX5_layOrder_14 rfl (lv_at hl 0 rfl) ?_
        refine zt_iadd hex hbc dX5_layOrder_15 ?_
        refine lv_iload_n hex hbc dX5_layOrder_16 rfl (lv_at hl 0 rfl) ?_
        have hi_17 : (0 : Int) ≤ (91 + i1) ∧ (91 + i1) < (107 : Int) := (by omega)
        refine g_iast (σ := (sc σ 0 w1)) (f := w1) (i := (91 + i1)) (v := i1) (τ := st (sc σ 0 w1) 0 (91 + i1) i1) hex hbc hK hP hD hS 1 0 rfl rfl (by decide) hi_17 dX5_layOrder_17 (wm_up_1 hi_17) (fun H locs hP hD hS => ?_)
        obtain ⟨f0_17, ef0_17⟩ : ∃ z : Int → Int, z = ups w1 (91 + i1) i1 := ⟨_, rfl⟩
        have hP : va_P G vwCl (wm cx a (sc σ 0 f0_17)) H := by rw [ef0_17]; exact hP
        have hD : va_D (MA a) (wm cx a (sc σ 0 f0_17)) := by rw [ef0_17]; exact hD
        refine lv_iinc (v := iI (i1 + 1)) (lv' := [(1, .int (iI (i1 + 1))), (0, .ref (a 0))]) hex hbc dX5_layOrder_18 hl (k := 0) rfl (iI_add _ _) (by decide) rfl (fun ls hl => ?_)
        refine lv_goto (tgt := 2) hex hbc dX5_layOrder_21 (by decide) ?_
        exact ih_2 (i1 + 1) f0_17 ⟨by omega, by omega, fun k => by rw [ef0_17]; unfold ups; rw [hw k]; (repeat' split) <;> first | omega | exact congrArg _ (by omega)⟩ (by omega) _ _ _ hP hD hS (lv_sub hl [0, 1] rfl)
  exact loop_2 _ 0 (σ 0) ⟨by omega, by omega, fun k => by rw [if_neg (by omega)]⟩ (mz_lt _) _ _ _ hP hD hS (lv_sub hl [0, 1] rfl)
theorem iX5_layLoop_X5 : ∀ w ∈ wsX50, w ∈ wsX5_layLoop := fun _ h => List.mem_cons_of_mem _ (List.mem_append_right _ h)
set_option maxHeartbeats 4000000 in
set_option maxRecDepth 100000 in
theorem mX5_layLoop (l : Launch) (G : va_G) (cx a : Nat → Nat) (σ : Nat → Int → Int)  (x : Int)  : Met l yX5_layLoop wsX5_layLoop ({ frames := 1, cells := 0, slots := 0, locals := 21 }) (va_Pc [.ref (a 0), .int (iI x)] (gW G (tm cx) (MA a) (wm cx a) σ)) (va_Qv (fun u => sc σ 0 (spc (σ 0) x) = u) (gW G (tm cx) (MA a) (wm cx a)) (MA a)) 0 0 (MA a) := by
  refine Met.ofW (cc := cX5_layLoop) (maxL := 3) (ret := none) (by decide) rfl ?_
  intro p e s m args below meth c s₁ B hml hv
  obtain ⟨rfl, hP, hK, hD⟩ := hv
  have hex := B.exec
  have hbc := B.bytes
  have hrt := B.returns
  have hts := atoms_spec (ws := wsX5_layLoop) B.pre
  have hown : s.vm.findClass RX5 = some m.cls := findClass_of_methodNamed B.named
  have hlocks := B.notSynchronized
  have hS : va_S (MA a) s.heap s.heap [] := va_S.rf
  have hin5 := iX5_layLoop_X5
  have hl := lv_entry ([.ref (a 0), .int (iI x)]) (n := 3) (Nat.le_of_ble_eq_true rfl)
  rw [lg_entry_eq]
  generalize (lg_sl ([.ref (a 0), .int (iI x)]) ++ List.replicate (3 - (lg_sl ([.ref (a 0), .int (iI x)])).length) Slot.unset).toArray = ls at hl ⊢
  have hl : lv_has ls 3 [(0, .ref (a 0)), (1, .int (iI x))] := hl
  refine lv_aload_n hex hbc dX5_layLoop_0 rfl (lv_at hl 0 rfl) ?_
  refine va_get (v := .ref (a 1)) hex hbc hts hin5 hown hK hP 0 rfl rfl 0 (by decide) (hts _ (List.mem_of_getElem? (i := 1) rfl)) (fun _ h => h) rfl dX5_layLoop_1 ?_
  refine lv_iconst (v := iI 0) hex hbc dX5_layLoop_4 rfl ?_
  refine lv_iload_n hex hbc dX5_layLoop_5 rfl (lv_at hl 1 rfl) ?_
  have hi_6 : (0 : Int) ≤ 0 ∧ 0 < (107 : Int) := (by omega)
  refine g_iast (σ := σ) (f := (σ 0)) (i := 0) (v := x) (τ := st σ 0 0 x) hex hbc hK hP hD hS 1 0 rfl rfl (by decide) hi_6 dX5_layLoop_6 (wm_up_1 hi_6) (fun H locs hP hD hS => ?_)
  obtain ⟨f0_6, ef0_6⟩ : ∃ z : Int → Int, z = ups (σ 0) 0 x := ⟨_, rfl⟩
  have hP : va_P G vwCl (wm cx a (sc σ 0 f0_6)) H := by rw [ef0_6]; exact hP
  have hD : va_D (MA a) (wm cx a (sc σ 0 f0_6)) := by rw [ef0_6]; exact hD
  refine lv_iconst (v := iI 0) hex hbc dX5_layLoop_7 rfl ?_
  refine lv_istore_n (lv' := [(2, .int (iI 0)), (0, .ref (a 0)), (1, .int (iI x))]) hex hbc dX5_layLoop_8 rfl hl (by decide) rfl (fun ls hl => ?_)
  have loop_9 : ∀ (N : Nat) (i1 : Int) (w1 : Int → Int), (0 ≤ i1 ∧ i1 ≤ 64 ∧ ∀ k, w1 k = if k = 0 then x else if 10 ≤ k ∧ k < 10 + i1 then 0 else σ 0 k) → (64 - i1) < (N : Int) → ∀ (H : Heap) (locs : List Loc) (ls : Array Slot), va_P G vwCl (wm cx a (sc σ 0 w1)) H → va_D (MA a) (wm cx a (sc σ 0 w1)) → va_S (MA a) s.heap H locs → lv_has ls 3 [(2, .int (iI i1)), (0, .ref (a 0)), (1, .int (iI x))] → W p l e (headSpec wsX5_layLoop ({ frames := 1, cells := 0, slots := 0, locals := 21 })).room s m ([.ref (a 0), .int (iI x)] : List Value).toArray below meth c H locs 0 0 (MQ below (va_Qv (fun u => sc σ 0 (spc (σ 0) x) = u) (gW G (tm cx) (MA a) (wm cx a)) (MA a)) ([.ref (a 0), .int (iI x)] : List Value).toArray s 0 0 (MA a)) (F0 m 9 ls []) := by
    intro N
    induction N with
    | zero => intro i1 w1 hinv hlt; exfalso; omega
    | succ N ih_9 =>
      intro i1 w1 ⟨hi0, hi1, hw⟩ hlt_9 H locs ls hP hD hS hl
      refine lv_iload_n hex hbc dX5_layLoop_9 rfl (lv_at hl 0 rfl) ?_
      refine lv_bipush (v := iI 64) hex hbc dX5_layLoop_10 (by decide) ?_
      refine zt_icmp_ge (a := i1) (b := 64) (tgt := 31) hex hbc (by omega) dX5_layLoop_12 (by decide) (fun c12 => ?_) (fun c12 => ?_)
      · skip
        refine lv_aload_n hex hbc dX5_layLoop_31 rfl (lv_at hl 1 rfl) ?_
        refine va_get (v := .ref (a 1)) hex hbc hts hin5 hown hK hP 0 rfl rfl 0 (by decide) (hts _ (List.mem_of_getElem? (i := 1) rfl)) (fun _ h => h) rfl dX5_layLoop_32 ?_
        refine lv_bipush (v := iI 74) hex hbc dX5_layLoop_35 (by decide) ?_
        refine lv_iconst (v := iI 1) hex hbc dX5_layLoop_37 rfl ?_
        have hi_38 : (0 : Int) ≤ 74 ∧ 74 < (107 : Int) := (by omega)
        refine g_iast (σ := (sc σ 0 w1)) (f := w1) (i := 74) (v := 1) (τ := st (sc σ 0 w1) 0 74 1) hex hbc hK hP hD hS 1 0 rfl rfl (by decide) hi_38 dX5_layLoop_38 (wm_up_1 hi_38) (fun H locs hP hD hS => ?_)
        obtain ⟨f0_38, ef0_38⟩ : ∃ z : Int → Int, z = ups w1 74 1 := ⟨_, rfl⟩
        have hP : va_P G vwCl (wm cx a (sc σ 0 f0_38)) H := by rw [ef0_38]; exact hP
        have hD : va_D (MA a) (wm cx a (sc σ 0 f0_38)) := by rw [ef0_38]; exact hD
        refine lv_aload_n hex hbc dX5_layLoop_39 rfl (lv_at hl 1 rfl) ?_
        refine va_get (v := .ref (a 1)) hex hbc hts hin5 hown hK hP 0 rfl rfl 0 (by decide) (hts _ (List.mem_of_getElem? (i := 1) rfl)) (fun _ h => h) rfl dX5_layLoop_40 ?_
        refine lv_bipush (v := iI 75) hex hbc dX5_layLoop_43 (by decide) ?_
        refine lv_iconst (v := iI 0) hex hbc dX5_layLoop_45 rfl ?_
        have hi_46 : (0 : Int) ≤ 75 ∧ 75 < (107 : Int) := (by omega)
        refine g_iast (σ := (sc σ 0 f0_38)) (f := f0_38) (i := 75) (v := 0) (τ := st (sc σ 0 f0_38) 0 75 0) hex hbc hK hP hD hS 1 0 rfl rfl (by decide) hi_46 dX5_layLoop_46 (wm_up_1 hi_46) (fun H locs hP hD hS => ?_)
        obtain ⟨f0_46, ef0_46⟩ : ∃ z : Int → Int, z = ups f0_38 75 0 := ⟨_, rfl⟩
        have hP : va_P G vwCl (wm cx a (sc σ 0 f0_46)) H := by rw [ef0_46]; exact hP
        have hD : va_D (MA a) (wm cx a (sc σ 0 f0_46)) := by rw [ef0_46]; exact hD
        refine lv_aload_n hex hbc dX5_layLoop_47 rfl (lv_at hl 1 rfl) ?_
        refine g_callv [] ⟨hex, hbc, hml, hown, hts⟩ (mX5_layOrder l G cx a (sc σ 0 f0_46)  ) (cwV 0 hts gX5_layLoop_X5_layOrder rfl rfl rfl (by decide +kernel) ⟨Nat.le_of_ble_eq_true rfl, Nat.le_of_ble_eq_true rfl⟩) hK hP hD hS (fun _ h => h) 0 5 rfl rfl rfl rfl hl.1 (Nat.le_of_ble_eq_true rfl) dX5_layLoop_48 ⟨Nat.zero_le _, Nat.zero_le _⟩ (fun u_48 H locs hw_48 hP hD hS hz_48 hk_48 => ?_)
        obtain rfl := hw_48
        have hP : va_P G vwCl (wm cx a (sc σ 0 (spo (f0_46)))) H := hP
        have hD : va_D (MA a) (wm cx a (sc σ 0 (spo (f0_46)))) := hD
        exact g_vret hex hbc hrt hlocks hK hP hD hS (congrArg (sc σ 0) (funext fun k => by unfold spo spc; rw [ef0_46]; unfold ups; rw [ef0_38]; unfold ups; rw [hw k]; (repeat' split) <;> first | omega | exact congrArg _ (by omega))) dX5_layLoop_51
      · skip
        refine lv_aload_n hex hbc dX5_layLoop_15 rfl (lv_at hl 1 rfl) ?_
        refine va_get (v := .ref (a 1)) hex hbc hts hin5 hown hK hP 0 rfl rfl 0 (by decide) (hts _ (List.mem_of_getElem? (i := 1) rfl)) (fun _ h => h) rfl dX5_layLoop_16 ?_
        refine lv_bipush (v := iI 10) hex hbc dX5_layLoop_19 (by decide) ?_
        refine lv_iload_n hex hbc dX5_layLoop_21 rfl (lv_at hl 0 rfl) ?_
        refine zt_iadd hex hbc dX5_layLoop_22 ?_
        refine lv_iconst (v := iI 0) hex hbc dX5_layLoop_23 rfl ?_
        have hi_24 : (0 : Int) ≤ (10 + i1) ∧ (10 + i1) < (107 : Int) := (by omega)
        refine g_iast (σ := (sc σ 0 w1)) (f := w1) (i := (10 + i1)) (v := 0) (τ := st (sc σ 0 w1) 0 (10 + i1) 0) hex hbc hK hP hD hS 1 0 rfl rfl (by decide) hi_24 dX5_layLoop_24 (wm_up_1 hi_24) (fun H locs hP hD hS => ?_)
        obtain ⟨f0_24, ef0_24⟩ : ∃ z : Int → Int, z = ups w1 (10 + i1) 0 := ⟨_, rfl⟩
        have hP : va_P G vwCl (wm cx a (sc σ 0 f0_24)) H := by rw [ef0_24]; exact hP
        have hD : va_D (MA a) (wm cx a (sc σ 0 f0_24)) := by rw [ef0_24]; exact hD
        refine lv_iinc (v := iI (i1 + 1)) (lv' := [(2, .int (iI (i1 + 1))), (0, .ref (a 0)), (1, .int (iI x))]) hex hbc dX5_layLoop_25 hl (k := 0) rfl (iI_add _ _) (by decide) rfl (fun ls hl => ?_)
        refine lv_goto (tgt := 9) hex hbc dX5_layLoop_28 (by decide) ?_
        exact ih_9 (i1 + 1) f0_24 ⟨by omega, by omega, fun k => by rw [ef0_24]; unfold ups; rw [hw k]; (repeat' split) <;> first | omega | exact congrArg _ (by omega)⟩ (by omega) _ _ _ hP hD hS (lv_sub hl [0, 1, 2] rfl)
  exact loop_9 _ 0 f0_6 ⟨by omega, by omega, fun k => by rw [ef0_6]; unfold ups; (repeat' split) <;> first | omega | exact congrArg _ (by omega)⟩ (mz_lt _) _ _ _ hP hD hS (lv_sub hl [0, 1, 2] rfl)
