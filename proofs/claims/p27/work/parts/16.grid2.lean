/-! the program: the grid is measured, a row of sums is filled (rows laid by wip/gen) -/
theorem iX0_measure_X0 : ∀ w ∈ wsX00, w ∈ wsX0_measure := fun _ h => List.mem_cons_of_mem _ (List.mem_append_left _ (List.mem_append_right _ h))
theorem iX0_measure_X2 : ∀ w ∈ wsX20, w ∈ wsX0_measure := fun _ h => List.mem_cons_of_mem _ (List.mem_append_right _ h)
set_option maxHeartbeats 4000000 in
set_option maxRecDepth 100000 in
theorem mX0_measure (l : Launch) (G : va_G) (cx a : Nat → Nat) (σ : Nat → Int → Int) (T0 : Int) (G0 : Int)  (hTG : (1 ≤ T0 ∧ T0 ≤ 200000) ∧ (1 ≤ G0 ∧ G0 ≤ 32) ∧ σ 0 74 ≤ G0) (hT : σ 21 0 = T0) (hGs : σ 21 1 = G0) (hI : Inv (σ 0)) : Met l yX0_measure wsX0_measure ({ frames := 2, cells := 0, slots := 0, locals := 42 }) (va_Pc [.ref (a 8)] (gW G (tx cx) (XA a) (wx cx a) σ)) (va_Qv (fun u => ∃ f14 f15 f16, (∀ i, 0 ≤ i → i ≤ G0 → f14 i = po T0 G0 i) ∧ (∀ k, 0 ≤ k → k < σ 0 74 → f15 k = ln (σ 0) k * σ 0 4 / 100) ∧ (∀ k, 0 ≤ k → k < σ 0 74 → f16 k = ln (σ 0) k * σ 0 5 / 100) ∧ sc (sc (sc σ 14 f14) 15 f15) 16 f16 = u) (gW G (tx cx) (XA a) (wx cx a)) (XA a)) 0 0 (XA a) := by
  refine Met.ofW (cc := cX0_measure) (maxL := 3) (ret := none) (by decide) rfl ?_
  intro p e s m args below meth c s₁ B hml hv
  obtain ⟨rfl, hP, hK, hD⟩ := hv
  have hex := B.exec
  have hbc := B.bytes
  have hrt := B.returns
  have hts := atoms_spec (ws := wsX0_measure) B.pre
  have hown : s.vm.findClass RX0 = some m.cls := findClass_of_methodNamed B.named
  have hlocks := B.notSynchronized
  have hS : va_S (XA a) s.heap s.heap [] := va_S.rf
  have hin0 := iX0_measure_X0
  have hin2 := iX0_measure_X2
  have hl := lv_entry ([.ref (a 8)]) (n := 3) (Nat.le_of_ble_eq_true rfl)
  rw [lg_entry_eq]
  generalize (lg_sl ([.ref (a 8)]) ++ List.replicate (3 - (lg_sl ([.ref (a 8)])).length) Slot.unset).toArray = ls at hl ⊢
  have hl : lv_has ls 3 [(0, .ref (a 8))] := hl
  obtain ⟨hB, hEn, hMk, hAs, hPm⟩ := id hI
  refine lv_iconst (v := iI 0) hex hbc dX0_measure_0 rfl ?_
  refine lv_istore_n (lv' := [(1, .int (iI 0)), (0, .ref (a 8))]) hex hbc dX0_measure_1 rfl hl (by decide) rfl (fun ls hl => ?_)
  have loop_2 : ∀ (N : Nat) (i1 : Int) (w1 : Int → Int), (0 ≤ i1 ∧ i1 ≤ G0 + 1 ∧ ∀ i, 0 ≤ i → i < i1 → w1 i = po T0 G0 i) → (G0 + 1 - i1) < (N : Int) → ∀ (H : Heap) (locs : List Loc) (ls : Array Slot), va_P G vwCl (wx cx a (sc σ 14 w1)) H → va_D (XA a) (wx cx a (sc σ 14 w1)) → va_S (XA a) s.heap H locs → lv_has ls 3 [(1, .int (iI i1)), (0, .ref (a 8))] → W p l e (headSpec wsX0_measure ({ frames := 2, cells := 0, slots := 0, locals := 42 })).room s m ([.ref (a 8)] : List Value).toArray below meth c H locs 0 0 (MQ below (va_Qv (fun u => ∃ f14 f15 f16, (∀ i, 0 ≤ i → i ≤ G0 → f14 i = po T0 G0 i) ∧ (∀ k, 0 ≤ k → k < σ 0 74 → f15 k = ln (σ 0) k * σ 0 4 / 100) ∧ (∀ k, 0 ≤ k → k < σ 0 74 → f16 k = ln (σ 0) k * σ 0 5 / 100) ∧ sc (sc (sc σ 14 f14) 15 f15) 16 f16 = u) (gW G (tx cx) (XA a) (wx cx a)) (XA a)) ([.ref (a 8)] : List Value).toArray s 0 0 (XA a)) (F0 m 2 ls []) := by
    intro N
    induction N with
    | zero => intro i1 w1 hinv hlt; exfalso; omega
    | succ N ih_2 =>
      intro i1 w1 ⟨hi0, hi1, hw⟩ hlt_2 H locs ls hP hD hS hl
      refine lv_iload_n hex hbc dX0_measure_2 rfl (lv_at hl 0 rfl) ?_
      refine lv_aload_n hex hbc dX0_measure_3 rfl (lv_at hl 1 rfl) ?_
      refine va_get (v := .int (iI (σ 21 1))) hex hbc hts hin0 hown hK hP 8 rfl rfl 2 (by decide) (hts _ (List.mem_of_getElem? (i := 1) rfl)) (fun _ h => h) rfl dX0_measure_4 ?_
      refine zt_icmp_gt (a := i1) (b := (σ 21 1)) (tgt := 33) hex hbc (by omega) dX0_measure_7 (by decide) (fun c7 => ?_) (fun c7 => ?_)
      · skip
        refine lv_iconst (v := iI 0) hex hbc dX0_measure_33 rfl ?_
        refine lv_istore_n (lv' := [(1, .int (iI 0)), (0, .ref (a 8))]) hex hbc dX0_measure_34 rfl hl (by decide) rfl (fun ls hl => ?_)
        have loop_35 : ∀ (N : Nat) (i2 : Int) (w5 : Int → Int) (w6 : Int → Int), (0 ≤ i2 ∧ i2 ≤ σ 0 74 ∧ (∀ k, 0 ≤ k → k < i2 → w5 k = ln (σ 0) k * σ 0 4 / 100) ∧ (∀ k, 0 ≤ k → k < i2 → w6 k = ln (σ 0) k * σ 0 5 / 100)) → (σ 0 74 - i2) < (N : Int) → ∀ (H : Heap) (locs : List Loc) (ls : Array Slot), va_P G vwCl (wx cx a (sc (sc (sc σ 14 w1) 15 w5) 16 w6)) H → va_D (XA a) (wx cx a (sc (sc (sc σ 14 w1) 15 w5) 16 w6)) → va_S (XA a) s.heap H locs → lv_has ls 3 [(1, .int (iI i2)), (0, .ref (a 8))] → W p l e (headSpec wsX0_measure ({ frames := 2, cells := 0, slots := 0, locals := 42 })).room s m ([.ref (a 8)] : List Value).toArray below meth c H locs 0 0 (MQ below (va_Qv (fun u => ∃ f14 f15 f16, (∀ i, 0 ≤ i → i ≤ G0 → f14 i = po T0 G0 i) ∧ (∀ k, 0 ≤ k → k < σ 0 74 → f15 k = ln (σ 0) k * σ 0 4 / 100) ∧ (∀ k, 0 ≤ k → k < σ 0 74 → f16 k = ln (σ 0) k * σ 0 5 / 100) ∧ sc (sc (sc σ 14 f14) 15 f15) 16 f16 = u) (gW G (tx cx) (XA a) (wx cx a)) (XA a)) ([.ref (a 8)] : List Value).toArray s 0 0 (XA a)) (F0 m 35 ls []) := by
          intro N
          induction N with
          | zero => intro i2 w5 w6 hinv hlt; exfalso; omega
          | succ N ih_35 =>
            intro i2 w5 w6 ⟨hk0, hk1, hw5, hw6⟩ hlt_35 H locs ls hP hD hS hl
            refine lv_iload_n hex hbc dX0_measure_35 rfl (lv_at hl 0 rfl) ?_
            refine lv_aload_n hex hbc dX0_measure_36 rfl (lv_at hl 1 rfl) ?_
            refine va_get (v := .ref (a 3)) hex hbc hts hin0 hown hK hP 8 rfl rfl 0 (by decide) (hts _ (List.mem_of_getElem? (i := 4) rfl)) (fun _ h => h) rfl dX0_measure_37 ?_
            refine va_get (v := .int (iI (σ 0 74))) hex hbc hts hin2 hown hK hP 3 rfl rfl 1 (by decide) (hts _ (List.mem_of_getElem? (i := 5) rfl)) (fun _ h => h) rfl dX0_measure_40 ?_
            refine zt_icmp_ge (a := i2) (b := (σ 0 74)) (tgt := 89) hex hbc (by omega) dX0_measure_43 (by decide) (fun c43 => ?_) (fun c43 => ?_)
            · skip
              exact g_vret hex hbc hrt hlocks hK hP hD hS ⟨w1, w5, w6, fun i j0 j1 => hw i j0 (by omega), fun k j0 j1 => hw5 k j0 (by omega), fun k j0 j1 => hw6 k j0 (by omega), rfl⟩ dX0_measure_89
            · skip
              have hln := hI.ln_in hk0 c43
              refine lv_aload_n hex hbc dX0_measure_46 rfl (lv_at hl 1 rfl) ?_
              refine va_get (v := .ref (a 3)) hex hbc hts hin0 hown hK hP 8 rfl rfl 0 (by decide) (hts _ (List.mem_of_getElem? (i := 4) rfl)) (fun _ h => h) rfl dX0_measure_47 ?_
              refine lv_iload_n hex hbc dX0_measure_50 rfl (lv_at hl 0 rfl) ?_
              refine g_calli [.int (iI i2)] ⟨hex, hbc, hml, hown, hts⟩ (mX2_lengthOf l G cx a (sc (sc (sc σ 14 w1) 15 w5) 16 w6) i2 (show 0 ≤ i2 ∧ i2 < σ 0 74 from by omega) hI) (cwV 1 hts gX0_measure_X2_lengthOf rfl rfl rfl (by decide +kernel) ⟨Nat.le_of_ble_eq_true rfl, Nat.le_of_ble_eq_true rfl⟩) hK hP hD hS (fun _ h => h) 3 2 rfl rfl rfl rfl hl.1 (Nat.le_of_ble_eq_true rfl) dX0_measure_51 ⟨Nat.zero_le _, Nat.zero_le _⟩ (fun r_51 u_51 H locs hw_51 hP hD hS hz_51 hk_51 => ?_)
              obtain ⟨rfl, rfl⟩ := hw_51
              refine lv_istore_n (lv' := [(2, .int (iI (ln (σ 0) i2))), (1, .int (iI i2)), (0, .ref (a 8))]) hex hbc dX0_measure_54 rfl hl (by decide) rfl (fun ls hl => ?_)
              refine lv_aload_n hex hbc dX0_measure_55 rfl (lv_at hl 2 rfl) ?_
              refine va_get (v := .ref (a 10)) hex hbc hts hin0 hown hK hP 8 rfl rfl 4 (by decide) (hts _ (List.mem_of_getElem? (i := 6) rfl)) (fun _ h => h) rfl dX0_measure_56 ?_
              refine lv_iload_n hex hbc dX0_measure_59 rfl (lv_at hl 1 rfl) ?_
              refine lv_aload_n hex hbc dX0_measure_60 rfl (lv_at hl 2 rfl) ?_
              refine va_get (v := .ref (a 3)) hex hbc hts hin0 hown hK hP 8 rfl rfl 0 (by decide) (hts _ (List.mem_of_getElem? (i := 4) rfl)) (fun _ h => h) rfl dX0_measure_61 ?_
              refine lv_iload_n hex hbc dX0_measure_64 rfl (lv_at hl 0 rfl) ?_
              refine g_calli [.int (iI (ln (σ 0) i2))] ⟨hex, hbc, hml, hown, hts⟩ (mX2_leastBudget l G cx a (sc (sc (sc σ 14 w1) 15 w5) 16 w6) (ln (σ 0) i2) (show 0 ≤ (ln (σ 0) i2) ∧ (ln (σ 0) i2) ≤ 64000 from by omega) hI) (cwV 1 hts gX0_measure_X2_leastBudget rfl rfl rfl (by decide +kernel) ⟨Nat.le_of_ble_eq_true rfl, Nat.le_of_ble_eq_true rfl⟩) hK hP hD hS (fun _ h => h) 3 2 rfl rfl rfl rfl hl.1 (Nat.le_of_ble_eq_true rfl) dX0_measure_65 ⟨Nat.zero_le _, Nat.zero_le _⟩ (fun r_65 u_65 H locs hw_65 hP hD hS hz_65 hk_65 => ?_)
              obtain ⟨rfl, rfl⟩ := hw_65
              have hi_68 : (0 : Int) ≤ i2 ∧ i2 < (16 : Int) := (by omega)
              refine g_iast (σ := (sc (sc (sc σ 14 w1) 15 w5) 16 w6)) (f := w5) (i := i2) (v := ((ln (σ 0) i2) * σ 0 4 / 100)) (τ := st (sc (sc (sc σ 14 w1) 15 w5) 16 w6) 15 i2 ((ln (σ 0) i2) * σ 0 4 / 100)) hex hbc hK hP hD hS 10 0 rfl rfl (by decide) hi_68 dX0_measure_68 (wx_up_10 hi_68) (fun H locs hP hD hS => ?_)
              obtain ⟨f15_68, ef15_68⟩ : ∃ z : Int → Int, z = ups w5 i2 ((ln (σ 0) i2) * σ 0 4 / 100) := ⟨_, rfl⟩
              have hP : va_P G vwCl (wx cx a (sc (sc (sc σ 14 w1) 15 f15_68) 16 w6)) H := by rw [ef15_68]; exact hP
              have hD : va_D (XA a) (wx cx a (sc (sc (sc σ 14 w1) 15 f15_68) 16 w6)) := by rw [ef15_68]; exact hD
              refine lv_aload_n hex hbc dX0_measure_69 rfl (lv_at hl 2 rfl) ?_
              refine va_get (v := .ref (a 11)) hex hbc hts hin0 hown hK hP 8 rfl rfl 5 (by decide) (hts _ (List.mem_of_getElem? (i := 7) rfl)) (fun _ h => h) rfl dX0_measure_70 ?_
              refine lv_iload_n hex hbc dX0_measure_73 rfl (lv_at hl 1 rfl) ?_
              refine lv_aload_n hex hbc dX0_measure_74 rfl (lv_at hl 2 rfl) ?_
              refine va_get (v := .ref (a 3)) hex hbc hts hin0 hown hK hP 8 rfl rfl 0 (by decide) (hts _ (List.mem_of_getElem? (i := 4) rfl)) (fun _ h => h) rfl dX0_measure_75 ?_
              refine lv_iload_n hex hbc dX0_measure_78 rfl (lv_at hl 0 rfl) ?_
              refine g_calli [.int (iI (ln (σ 0) i2))] ⟨hex, hbc, hml, hown, hts⟩ (mX2_mostBudget l G cx a (sc (sc (sc σ 14 w1) 15 f15_68) 16 w6) (ln (σ 0) i2) (show 0 ≤ (ln (σ 0) i2) ∧ (ln (σ 0) i2) ≤ 64000 from by omega) hI) (cwV 1 hts gX0_measure_X2_mostBudget rfl rfl rfl (by decide +kernel) ⟨Nat.le_of_ble_eq_true rfl, Nat.le_of_ble_eq_true rfl⟩) hK hP hD hS (fun _ h => h) 3 2 rfl rfl rfl rfl hl.1 (Nat.le_of_ble_eq_true rfl) dX0_measure_79 ⟨Nat.zero_le _, Nat.zero_le _⟩ (fun r_79 u_79 H locs hw_79 hP hD hS hz_79 hk_79 => ?_)
              obtain ⟨rfl, rfl⟩ := hw_79
              have hi_82 : (0 : Int) ≤ i2 ∧ i2 < (16 : Int) := (by omega)
              refine g_iast (σ := (sc (sc (sc σ 14 w1) 15 f15_68) 16 w6)) (f := w6) (i := i2) (v := ((ln (σ 0) i2) * σ 0 5 / 100)) (τ := st (sc (sc (sc σ 14 w1) 15 f15_68) 16 w6) 16 i2 ((ln (σ 0) i2) * σ 0 5 / 100)) hex hbc hK hP hD hS 11 0 rfl rfl (by decide) hi_82 dX0_measure_82 (wx_up_11 hi_82) (fun H locs hP hD hS => ?_)
              obtain ⟨f16_82, ef16_82⟩ : ∃ z : Int → Int, z = ups w6 i2 ((ln (σ 0) i2) * σ 0 5 / 100) := ⟨_, rfl⟩
              have hP : va_P G vwCl (wx cx a (sc (sc (sc σ 14 w1) 15 f15_68) 16 f16_82)) H := by rw [ef16_82]; exact hP
              have hD : va_D (XA a) (wx cx a (sc (sc (sc σ 14 w1) 15 f15_68) 16 f16_82)) := by rw [ef16_82]; exact hD
              refine lv_iinc (v := iI (i2 + 1)) (lv' := [(1, .int (iI (i2 + 1))), (2, .int (iI (ln (σ 0) i2))), (0, .ref (a 8))]) hex hbc dX0_measure_83 hl (k := 1) rfl (iI_add _ _) (by decide) rfl (fun ls hl => ?_)
              refine lv_goto (tgt := 35) hex hbc dX0_measure_86 (by decide) ?_
              exact ih_35 (i2 + 1) f15_68 f16_82 ⟨by omega, by omega, fun k j0 j1 => if hq : k = i2 then (by rw [ef15_68, hq, ups_s]) else (by rw [ef15_68, ups_n _ _ hq]; exact hw5 k j0 (by omega)), fun k j0 j1 => if hq : k = i2 then (by rw [ef16_82, hq, ups_s]) else (by rw [ef16_82, ups_n _ _ hq]; exact hw6 k j0 (by omega))⟩ (by omega) _ _ _ hP hD hS (lv_sub hl [0, 2] rfl)
        exact loop_35 _ 0 (σ 15) (σ 16) ⟨by omega, by omega, fun i j0 j1 => by omega, fun i j0 j1 => by omega⟩ (mz_lt _) _ _ _ hP hD hS (lv_sub hl [0, 1] rfl)
      · skip
        refine lv_aload_n hex hbc dX0_measure_10 rfl (lv_at hl 1 rfl) ?_
        refine va_get (v := .ref (a 9)) hex hbc hts hin0 hown hK hP 8 rfl rfl 3 (by decide) (hts _ (List.mem_of_getElem? (i := 2) rfl)) (fun _ h => h) rfl dX0_measure_11 ?_
        refine lv_iload_n hex hbc dX0_measure_14 rfl (lv_at hl 0 rfl) ?_
        refine lv_iload_n hex hbc dX0_measure_15 rfl (lv_at hl 0 rfl) ?_
        refine lv_aload_n hex hbc dX0_measure_16 rfl (lv_at hl 1 rfl) ?_
        refine va_get (v := .int (iI (σ 21 0))) hex hbc hts hin0 hown hK hP 8 rfl rfl 1 (by decide) (hts _ (List.mem_of_getElem? (i := 3) rfl)) (fun _ h => h) rfl dX0_measure_17 ?_
        have hmm := mulb (a := i1) (b := T0) (A := 32) (B := 200000) (by omega) (by omega) (by omega) (by omega)
        rw [← hT] at hmm
        refine zt_imul hex hbc dX0_measure_20 ?_
        refine lv_aload_n hex hbc dX0_measure_21 rfl (lv_at hl 1 rfl) ?_
        refine va_get (v := .int (iI (σ 21 1))) hex hbc hts hin0 hown hK hP 8 rfl rfl 2 (by decide) (hts _ (List.mem_of_getElem? (i := 1) rfl)) (fun _ h => h) rfl dX0_measure_22 ?_
        refine zt_idiv hex hbc (by omega) dX0_measure_25 ?_
        have hi_26 : (0 : Int) ≤ i1 ∧ i1 < (33 : Int) := (by omega)
        refine g_iast (σ := (sc σ 14 w1)) (f := w1) (i := i1) (v := ((i1 * (σ 21 0)) / (σ 21 1))) (τ := st (sc σ 14 w1) 14 i1 ((i1 * (σ 21 0)) / (σ 21 1))) hex hbc hK hP hD hS 9 0 rfl rfl (by decide) hi_26 dX0_measure_26 (wx_up_9 hi_26) (fun H locs hP hD hS => ?_)
        obtain ⟨f14_26, ef14_26⟩ : ∃ z : Int → Int, z = ups w1 i1 ((i1 * (σ 21 0)) / (σ 21 1)) := ⟨_, rfl⟩
        have hP : va_P G vwCl (wx cx a (sc σ 14 f14_26)) H := by rw [ef14_26]; exact hP
        have hD : va_D (XA a) (wx cx a (sc σ 14 f14_26)) := by rw [ef14_26]; exact hD
        refine lv_iinc (v := iI (i1 + 1)) (lv' := [(1, .int (iI (i1 + 1))), (0, .ref (a 8))]) hex hbc dX0_measure_27 hl (k := 0) rfl (iI_add _ _) (by decide) rfl (fun ls hl => ?_)
        refine lv_goto (tgt := 2) hex hbc dX0_measure_30 (by decide) ?_
        exact ih_2 (i1 + 1) f14_26 ⟨by omega, by omega, fun i j0 j1 => if hq : i = i1 then (by rw [ef14_26, hq, ups_s, hT, hGs]; rfl) else (by rw [ef14_26, ups_n _ _ hq]; exact hw i j0 (by omega))⟩ (by omega) _ _ _ hP hD hS (lv_sub hl [0, 1] rfl)
  exact loop_2 _ 0 (σ 14) ⟨by omega, by omega, fun i j0 j1 => by omega⟩ (mz_lt _) _ _ _ hP hD hS (lv_sub hl [0, 1] rfl)
theorem iX0_fillSums_X0 : ∀ w ∈ wsX00, w ∈ wsX0_fillSums := fun _ h => List.mem_cons_of_mem _ (List.mem_append_left _ (List.mem_append_right _ h))
set_option maxHeartbeats 4000000 in
set_option maxRecDepth 100000 in
theorem mX0_fillSums (l : Launch) (G : va_G) (cx a : Nat → Nat) (σ : Nat → Int → Int) (T0 : Int) (G0 : Int) (x : Int) (hx : 0 ≤ x ∧ x < σ 0 74) (hTG : (1 ≤ T0 ∧ T0 ≤ 200000) ∧ (1 ≤ G0 ∧ G0 ≤ 32) ∧ σ 0 74 ≤ G0) (hM : Ms σ T0 G0) (hR : Rw (σ 0) T0 G0 (σ 17) (x + 1)) (hI : Inv (σ 0)) : Met l yX0_fillSums wsX0_fillSums ({ frames := 2, cells := 0, slots := 0, locals := 58 }) (va_Pc [.ref (a 8), .int (iI x)] (gW G (tx cx) (XA a) (wx cx a) σ)) (va_Qi (fun r u => (∃ v, iI v = r ∧ (((∃ j, x ≤ j ∧ j ≤ lst_ (σ 0) G0 x ∧ bst (σ 0) T0 G0 (σ 0 74 - 1 - x).toNat j ≠ FAR) ∧ v = 1) ∨ (¬ (∃ j, x ≤ j ∧ j ≤ lst_ (σ 0) G0 x ∧ bst (σ 0) T0 G0 (σ 0 74 - 1 - x).toNat j ≠ FAR) ∧ v = 0))) ∧ ∃ f17, (∀ i, i < x * 33 ∨ x * 33 + 33 ≤ i → f17 i = σ 17 i) ∧ Rw (σ 0) T0 G0 f17 x ∧ sc σ 17 f17 = u) (gW G (tx cx) (XA a) (wx cx a)) (XA a)) 0 0 (XA a) := by
  refine Met.ofW (cc := cX0_fillSums) (maxL := 7) (ret := some .boolean) (by decide) rfl ?_
  intro p e s m args below meth c s₁ B hml hv
  obtain ⟨rfl, hP, hK, hD⟩ := hv
  have hex := B.exec
  have hbc := B.bytes
  have hrt := B.returns
  have hts := atoms_spec (ws := wsX0_fillSums) B.pre
  have hown : s.vm.findClass RX0 = some m.cls := findClass_of_methodNamed B.named
  have hlocks := B.notSynchronized
  have hS : va_S (XA a) s.heap s.heap [] := va_S.rf
  have hin0 := iX0_fillSums_X0
  have hl := lv_entry ([.ref (a 8), .int (iI x)]) (n := 7) (Nat.le_of_ble_eq_true rfl)
  rw [lg_entry_eq]
  generalize (lg_sl ([.ref (a 8), .int (iI x)]) ++ List.replicate (7 - (lg_sl ([.ref (a 8), .int (iI x)])).length) Slot.unset).toArray = ls at hl ⊢
  have hl : lv_has ls 7 [(0, .ref (a 8)), (1, .int (iI x))] := hl
  obtain ⟨hB, hEn, hMk, hAs, hPm⟩ := id hI
  obtain ⟨hM1, hM2, hM3, hM4, hM5⟩ := id hM
  have hfs : fst_ (σ 0) (σ 21 1) x = x := if_pos hx.2
  have hlg := lst_ge (G := G0) hx hTG.2.2
  have hFAR : FAR = 1152921504606846976 := rfl
  refine lv_iconst (v := iI 0) hex hbc dX0_fillSums_0 rfl ?_
  refine lv_istore_n (lv' := [(2, .int (iI 0)), (0, .ref (a 8)), (1, .int (iI x))]) hex hbc dX0_fillSums_1 rfl hl (by decide) rfl (fun ls hl => ?_)
  refine lv_aload_n hex hbc dX0_fillSums_2 rfl (lv_at hl 1 rfl) ?_
  refine lv_iload_n hex hbc dX0_fillSums_3 rfl (lv_at hl 2 rfl) ?_
  refine g_calli [.int (iI x)] ⟨hex, hbc, hml, hown, hts⟩ (mX0_lastStepOf l G cx a σ x (by omega) hI) (cwV 1 hts gX0_fillSums_X0_lastStepOf rfl rfl rfl (by decide +kernel) ⟨Nat.le_of_ble_eq_true rfl, Nat.le_of_ble_eq_true rfl⟩) hK hP hD hS (fun _ h => h) 8 0 rfl rfl rfl rfl hl.1 (Nat.le_of_ble_eq_true rfl) dX0_fillSums_4 ⟨Nat.zero_le _, Nat.zero_le _⟩ (fun r_4 u_4 H locs hw_4 hP hD hS hz_4 hk_4 => ?_)
  obtain ⟨rfl, rfl⟩ := hw_4
  refine zt_nm (a := (lst_ (σ 0) (σ 21 1) x)) (b := (lst_ (σ 0) G0 x)) (by rw [hM2]) ?_
  refine lv_istore_n (lv' := [(3, .int (iI (lst_ (σ 0) G0 x))), (2, .int (iI 0)), (0, .ref (a 8)), (1, .int (iI x))]) hex hbc dX0_fillSums_7 rfl hl (by decide) rfl (fun ls hl => ?_)
  refine lv_aload_n hex hbc dX0_fillSums_8 rfl (lv_at hl 2 rfl) ?_
  refine lv_iload_n hex hbc dX0_fillSums_9 rfl (lv_at hl 3 rfl) ?_
  refine g_calli [.int (iI x)] ⟨hex, hbc, hml, hown, hts⟩ (mX0_firstStepOf l G cx a σ x (by omega) hI) (cwV 1 hts gX0_fillSums_X0_firstStepOf rfl rfl rfl (by decide +kernel) ⟨Nat.le_of_ble_eq_true rfl, Nat.le_of_ble_eq_true rfl⟩) hK hP hD hS (fun _ h => h) 8 0 rfl rfl rfl rfl hl.1 (Nat.le_of_ble_eq_true rfl) dX0_fillSums_10 ⟨Nat.zero_le _, Nat.zero_le _⟩ (fun r_10 u_10 H locs hw_10 hP hD hS hz_10 hk_10 => ?_)
  obtain ⟨rfl, rfl⟩ := hw_10
  refine zt_nm (a := (fst_ (σ 0) (σ 21 1) x)) (b := x) hfs ?_
  refine lv_istore (lv' := [(4, .int (iI x)), (3, .int (iI (lst_ (σ 0) G0 x))), (2, .int (iI 0)), (0, .ref (a 8)), (1, .int (iI x))]) hex hbc dX0_fillSums_13 hl (by decide) rfl (fun ls hl => ?_)
  have loop_15 : ∀ (N : Nat) (i1 : Int) (p1 : Int) (w1 : Int → Int), (x ≤ i1 ∧ i1 ≤ lst_ (σ 0) G0 x + 1 ∧ (∀ i, i < x * 33 ∨ x * 33 + 33 ≤ i → w1 i = σ 17 i) ∧ (∀ j, x ≤ j → j < i1 → w1 (x * 33 + j) = cv_ (bst (σ 0) T0 G0 (σ 0 74 - 1 - x).toNat j)) ∧ ((p1 = 1 ∧ ∃ j, x ≤ j ∧ j < i1 ∧ bst (σ 0) T0 G0 (σ 0 74 - 1 - x).toNat j ≠ FAR) ∨ (p1 = 0 ∧ ∀ j, x ≤ j → j < i1 → bst (σ 0) T0 G0 (σ 0 74 - 1 - x).toNat j = FAR))) → (G0 - i1 + 1) < (N : Int) → ∀ (H : Heap) (locs : List Loc) (ls : Array Slot), va_P G vwCl (wx cx a (sc σ 17 w1)) H → va_D (XA a) (wx cx a (sc σ 17 w1)) → va_S (XA a) s.heap H locs → lv_has ls 7 [(4, .int (iI i1)), (2, .int (iI p1)), (3, .int (iI (lst_ (σ 0) G0 x))), (0, .ref (a 8)), (1, .int (iI x))] → W p l e (headSpec wsX0_fillSums ({ frames := 2, cells := 0, slots := 0, locals := 58 })).room s m ([.ref (a 8), .int (iI x)] : List Value).toArray below meth c H locs 0 0 (MQ below (va_Qi (fun r u => (∃ v, iI v = r ∧ (((∃ j, x ≤ j ∧ j ≤ lst_ (σ 0) G0 x ∧ bst (σ 0) T0 G0 (σ 0 74 - 1 - x).toNat j ≠ FAR) ∧ v = 1) ∨ (¬ (∃ j, x ≤ j ∧ j ≤ lst_ (σ 0) G0 x ∧ bst (σ 0) T0 G0 (σ 0 74 - 1 - x).toNat j ≠ FAR) ∧ v = 0))) ∧ ∃ f17, (∀ i, i < x * 33 ∨ x * 33 + 33 ≤ i → f17 i = σ 17 i) ∧ Rw (σ 0) T0 G0 f17 x ∧ sc σ 17 f17 = u) (gW G (tx cx) (XA a) (wx cx a)) (XA a)) ([.ref (a 8), .int (iI x)] : List Value).toArray s 0 0 (XA a)) (F0 m 15 ls []) := by
    intro N
    induction N with
    | zero => intro i1 p1 w1 hinv hlt; exfalso; have hz := hinv.2.1; omega
    | succ N ih_15 =>
      intro i1 p1 w1 ⟨hi0, hi1, hwo, hww, hp1⟩ hlt_15 H locs ls hP hD hS hl
      have hRw : Rw (σ 0) T0 G0 w1 (x + 1) := Rw_congr hTG.2.1 (by omega) (fun i j0 j1 => (hwo i (Or.inr (by omega))).symm) hR
      refine lv_iload hex hbc dX0_fillSums_15 (lv_at hl 0 rfl) ?_
      refine lv_iload_n hex hbc dX0_fillSums_17 rfl (lv_at hl 2 rfl) ?_
      refine zt_icmp_gt (a := i1) (b := (lst_ (σ 0) G0 x)) (tgt := 85) hex hbc (by omega) dX0_fillSums_18 (by decide) (fun c18 => ?_) (fun c18 => ?_)
      · skip
        refine lv_iload_n hex hbc dX0_fillSums_85 rfl (lv_at hl 1 rfl) ?_
        exact g_zret hex hbc hrt hlocks (by rcases hp1 with h | h <;> rw [h.1] <;> rfl) hK hP hD hS ⟨⟨p1, rfl, hp1.elim (fun h => Or.inl ⟨h.2.elim (fun j hj => ⟨j, hj.1, by omega, hj.2.2⟩), h.1⟩) (fun h => Or.inr ⟨fun hx2 => hx2.elim (fun j hj => hj.2.2 (h.2 j hj.1 (by omega))), h.1⟩)⟩, w1, hwo, (by unfold Rw; rw [if_neg (by omega)]; exact fun j j0 j1 => hww j j0 (by omega)), rfl⟩ dX0_fillSums_86
      · skip
        have hSr : ∀ j, max (i1 + 1) (fst_ (σ 0) G0 (x + 1)) ≤ j → j ≤ lst_ (σ 0) G0 (x + 1) → -1 ≤ w1 ((x + 1) * 33 + j) ∧ w1 ((x + 1) * 33 + j) ≤ 204800000 := fun j j0 j1 => Rw_rng hI (by omega) hTG.2.1 hx hRw (lo := i1 + 1) j0 j1
        refine lv_aload_n hex hbc dX0_fillSums_21 rfl (lv_at hl 3 rfl) ?_
        refine lv_iload_n hex hbc dX0_fillSums_22 rfl (lv_at hl 4 rfl) ?_
        refine lv_iload hex hbc dX0_fillSums_23 (lv_at hl 0 rfl) ?_
        refine g_calli [.int (iI x), .int (iI i1)] ⟨hex, hbc, hml, hown, hts⟩ (mX0_bestNext l G cx a (sc σ 17 w1) T0 G0 x i1 (show 0 ≤ x ∧ x < σ 0 74 from by omega) (show x ≤ i1 ∧ i1 < G0 from by omega) hTG hM (by assumption) hI) (cwV 2 hts gX0_fillSums_X0_bestNext rfl rfl rfl (by decide +kernel) ⟨Nat.le_of_ble_eq_true rfl, Nat.le_of_ble_eq_true rfl⟩) hK hP hD hS (fun _ h => h) 8 0 rfl rfl rfl rfl hl.1 (Nat.le_of_ble_eq_true rfl) dX0_fillSums_25 ⟨Nat.zero_le _, Nat.zero_le _⟩ (fun r_25 u_25 H locs hw_25 hP hD hS hz_25 hk_25 => ?_)
        obtain ⟨rfl, b25, rfl, hbn25⟩ := hw_25
        have hfv := fill_val hI (T := T0) (G := G0) (m := x) (s := i1) (by omega) hTG.2.1 hx (by omega) hRw hbn25
        refine lv_istore (lv' := [(5, .int (iI b25)), (4, .int (iI i1)), (2, .int (iI p1)), (3, .int (iI (lst_ (σ 0) G0 x))), (0, .ref (a 8)), (1, .int (iI x))]) hex hbc dX0_fillSums_28 hl (by decide) rfl (fun ls hl => ?_)
        refine lv_iconst (v := iI (-1)) hex hbc dX0_fillSums_30 rfl ?_
        refine lv_istore (lv' := [(6, .int (iI (-1))), (5, .int (iI b25)), (4, .int (iI i1)), (2, .int (iI p1)), (3, .int (iI (lst_ (σ 0) G0 x))), (0, .ref (a 8)), (1, .int (iI x))]) hex hbc dX0_fillSums_31 hl (by decide) rfl (fun ls hl => ?_)
        refine lv_iload hex hbc dX0_fillSums_33 (lv_at hl 1 rfl) ?_
        refine lv_iconst (v := iI (-1)) hex hbc dX0_fillSums_35 rfl ?_
        refine zt_icmp_eq (a := b25) (b := (-1)) (tgt := 65) hex hbc (by omega) dX0_fillSums_36 (by decide) (fun c36 => ?_) (fun c36 => ?_)
        · skip
          have hfar : bst (σ 0) T0 G0 (σ 0 74 - 1 - x).toNat i1 = FAR := by {rcases hfv with q | q; exact q.2; omega}
          have hval : -1 = cv_ (bst (σ 0) T0 G0 (σ 0 74 - 1 - x).toNat i1) := by rw [hfar]; rfl
          refine lv_aload_n hex hbc dX0_fillSums_65 rfl (lv_at hl 5 rfl) ?_
          refine va_get (v := .ref (a 12)) hex hbc hts hin0 hown hK hP 8 rfl rfl 6 (by decide) (hts _ (List.mem_of_getElem? (i := 1) rfl)) (fun _ h => h) rfl dX0_fillSums_66 ?_
          refine lv_iload_n hex hbc dX0_fillSums_69 rfl (lv_at hl 6 rfl) ?_
          refine lv_bipush (v := iI 33) hex hbc dX0_fillSums_70 (by decide) ?_
          refine zt_imul hex hbc dX0_fillSums_72 ?_
          refine lv_iload hex hbc dX0_fillSums_73 (lv_at hl 2 rfl) ?_
          refine zt_iadd hex hbc dX0_fillSums_75 ?_
          refine lv_iload hex hbc dX0_fillSums_76 (lv_at hl 0 rfl) ?_
          have hi_78 : (0 : Int) ≤ ((x * 33) + i1) ∧ ((x * 33) + i1) < (561 : Int) := (by omega)
          refine g_iast (σ := (sc σ 17 w1)) (f := w1) (i := ((x * 33) + i1)) (v := (-1)) (τ := st (sc σ 17 w1) 17 ((x * 33) + i1) (-1)) hex hbc hK hP hD hS 12 0 rfl rfl (by decide) hi_78 dX0_fillSums_78 (wx_up_12 hi_78) (fun H locs hP hD hS => ?_)
          obtain ⟨f17_78, ef17_78⟩ : ∃ z : Int → Int, z = ups w1 ((x * 33) + i1) (-1) := ⟨_, rfl⟩
          have hP : va_P G vwCl (wx cx a (sc σ 17 f17_78)) H := by rw [ef17_78]; exact hP
          have hD : va_D (XA a) (wx cx a (sc σ 17 f17_78)) := by rw [ef17_78]; exact hD
          refine lv_iinc (v := iI (i1 + 1)) (lv' := [(4, .int (iI (i1 + 1))), (6, .int (iI (-1))), (5, .int (iI b25)), (2, .int (iI p1)), (3, .int (iI (lst_ (σ 0) G0 x))), (0, .ref (a 8)), (1, .int (iI x))]) hex hbc dX0_fillSums_79 hl (k := 2) rfl (iI_add _ _) (by decide) rfl (fun ls hl => ?_)
          refine lv_goto (tgt := 15) hex hbc dX0_fillSums_82 (by decide) ?_
          exact ih_15 (i1 + 1) p1 f17_78 ⟨by omega, by omega, fun i hio => by rw [ef17_78, ups_n _ _ (by omega)]; exact hwo i hio, fun j j0 j1 => if hq : j = i1 then (by rw [ef17_78, hq, ups_s]; exact hval) else (by rw [ef17_78, ups_n _ _ (by omega)]; exact hww j j0 (by omega)), hp1.elim (fun h => Or.inl ⟨h.1, h.2.elim (fun j hj => ⟨j, hj.1, by omega, hj.2.2⟩)⟩) (fun h => Or.inr ⟨h.1, fun j j0 j1 => if hq : j = i1 then by rw [hq]; exact hfar else h.2 j j0 (by omega)⟩)⟩ (by omega) _ _ _ hP hD hS (lv_sub hl [0, 3, 4, 5, 6] rfl)
        · skip
          have hfq : i1 < b25 ∧ b25 ≤ G0 ∧ bst (σ 0) T0 G0 (σ 0 74 - 1 - x).toNat i1 = w1 ((x + 1) * 33 + b25) + of_ (σ 0) T0 G0 x i1 ∧ bst (σ 0) T0 G0 (σ 0 74 - 1 - x).toNat i1 ≠ FAR ∧ 0 ≤ w1 ((x + 1) * 33 + b25) ∧ w1 ((x + 1) * 33 + b25) ≤ 204800000 := hfv.elim (fun q => absurd q.1 c36) (fun q => q)
          obtain ⟨hq1, hq2, hq3, hfin, hq5, hq6⟩ := hfq
          have hval : w1 ((x + 1) * 33 + b25) + of_ (σ 0) T0 G0 x i1 = cv_ (bst (σ 0) T0 G0 (σ 0 74 - 1 - x).toNat i1) := by rw [← hq3]; exact (if_neg hfin).symm
          refine lv_aload_n hex hbc dX0_fillSums_39 rfl (lv_at hl 5 rfl) ?_
          refine va_get (v := .ref (a 12)) hex hbc hts hin0 hown hK hP 8 rfl rfl 6 (by decide) (hts _ (List.mem_of_getElem? (i := 1) rfl)) (fun _ h => h) rfl dX0_fillSums_40 ?_
          refine lv_iload_n hex hbc dX0_fillSums_43 rfl (lv_at hl 6 rfl) ?_
          refine lv_iconst (v := iI 1) hex hbc dX0_fillSums_44 rfl ?_
          refine zt_iadd hex hbc dX0_fillSums_45 ?_
          refine lv_bipush (v := iI 33) hex hbc dX0_fillSums_46 (by decide) ?_
          refine zt_imul hex hbc dX0_fillSums_48 ?_
          refine lv_iload hex hbc dX0_fillSums_49 (lv_at hl 1 rfl) ?_
          refine zt_iadd hex hbc dX0_fillSums_51 ?_
          refine g_iald (f := w1) (v := (w1 (((x + 1) * 33) + b25))) (i := (((x + 1) * 33) + b25)) hex hbc hK hP 12 0 rfl rfl (by decide) (by omega) rfl dX0_fillSums_52 ?_
          refine lv_aload_n hex hbc dX0_fillSums_53 rfl (lv_at hl 5 rfl) ?_
          refine lv_iload_n hex hbc dX0_fillSums_54 rfl (lv_at hl 6 rfl) ?_
          refine lv_iload hex hbc dX0_fillSums_55 (lv_at hl 2 rfl) ?_
          refine g_calli [.int (iI x), .int (iI i1)] ⟨hex, hbc, hml, hown, hts⟩ (mX0_distance l G cx a (sc σ 17 w1) T0 G0 x i1 (show 0 ≤ x ∧ x < σ 0 74 from by omega) (show 0 ≤ i1 ∧ i1 ≤ G0 from by omega) hTG hM hI) (cwV 2 hts gX0_fillSums_X0_distance rfl rfl rfl (by decide +kernel) ⟨Nat.le_of_ble_eq_true rfl, Nat.le_of_ble_eq_true rfl⟩) hK hP hD hS (fun _ h => h) 8 0 rfl rfl rfl rfl hl.1 (Nat.le_of_ble_eq_true rfl) dX0_fillSums_57 ⟨Nat.zero_le _, Nat.zero_le _⟩ (fun r_57 u_57 H locs hw_57 hP hD hS hz_57 hk_57 => ?_)
          obtain ⟨rfl, rfl⟩ := hw_57
          refine zt_iadd hex hbc dX0_fillSums_60 ?_
          refine lv_istore (lv' := [(6, .int (iI ((w1 (((x + 1) * 33) + b25)) + (of_ (σ 0) T0 G0 x i1)))), (5, .int (iI b25)), (4, .int (iI i1)), (2, .int (iI p1)), (3, .int (iI (lst_ (σ 0) G0 x))), (0, .ref (a 8)), (1, .int (iI x))]) hex hbc dX0_fillSums_61 hl (by decide) rfl (fun ls hl => ?_)
          refine lv_iconst (v := iI 1) hex hbc dX0_fillSums_63 rfl ?_
          refine lv_istore_n (lv' := [(2, .int (iI 1)), (6, .int (iI ((w1 (((x + 1) * 33) + b25)) + (of_ (σ 0) T0 G0 x i1)))), (5, .int (iI b25)), (4, .int (iI i1)), (3, .int (iI (lst_ (σ 0) G0 x))), (0, .ref (a 8)), (1, .int (iI x))]) hex hbc dX0_fillSums_64 rfl hl (by decide) rfl (fun ls hl => ?_)
          refine lv_aload_n hex hbc dX0_fillSums_65 rfl (lv_at hl 5 rfl) ?_
          refine va_get (v := .ref (a 12)) hex hbc hts hin0 hown hK hP 8 rfl rfl 6 (by decide) (hts _ (List.mem_of_getElem? (i := 1) rfl)) (fun _ h => h) rfl dX0_fillSums_66 ?_
          refine lv_iload_n hex hbc dX0_fillSums_69 rfl (lv_at hl 6 rfl) ?_
          refine lv_bipush (v := iI 33) hex hbc dX0_fillSums_70 (by decide) ?_
          refine zt_imul hex hbc dX0_fillSums_72 ?_
          refine lv_iload hex hbc dX0_fillSums_73 (lv_at hl 3 rfl) ?_
          refine zt_iadd hex hbc dX0_fillSums_75 ?_
          refine lv_iload hex hbc dX0_fillSums_76 (lv_at hl 1 rfl) ?_
          have hi_78 : (0 : Int) ≤ ((x * 33) + i1) ∧ ((x * 33) + i1) < (561 : Int) := (by omega)
          refine g_iast (σ := (sc σ 17 w1)) (f := w1) (i := ((x * 33) + i1)) (v := ((w1 (((x + 1) * 33) + b25)) + (of_ (σ 0) T0 G0 x i1))) (τ := st (sc σ 17 w1) 17 ((x * 33) + i1) ((w1 (((x + 1) * 33) + b25)) + (of_ (σ 0) T0 G0 x i1))) hex hbc hK hP hD hS 12 0 rfl rfl (by decide) hi_78 dX0_fillSums_78 (wx_up_12 hi_78) (fun H locs hP hD hS => ?_)
          obtain ⟨f17_78, ef17_78⟩ : ∃ z : Int → Int, z = ups w1 ((x * 33) + i1) ((w1 (((x + 1) * 33) + b25)) + (of_ (σ 0) T0 G0 x i1)) := ⟨_, rfl⟩
          have hP : va_P G vwCl (wx cx a (sc σ 17 f17_78)) H := by rw [ef17_78]; exact hP
          have hD : va_D (XA a) (wx cx a (sc σ 17 f17_78)) := by rw [ef17_78]; exact hD
          refine lv_iinc (v := iI (i1 + 1)) (lv' := [(4, .int (iI (i1 + 1))), (2, .int (iI 1)), (6, .int (iI ((w1 (((x + 1) * 33) + b25)) + (of_ (σ 0) T0 G0 x i1)))), (5, .int (iI b25)), (3, .int (iI (lst_ (σ 0) G0 x))), (0, .ref (a 8)), (1, .int (iI x))]) hex hbc dX0_fillSums_79 hl (k := 3) rfl (iI_add _ _) (by decide) rfl (fun ls hl => ?_)
          refine lv_goto (tgt := 15) hex hbc dX0_fillSums_82 (by decide) ?_
          exact ih_15 (i1 + 1) 1 f17_78 ⟨by omega, by omega, fun i hio => by rw [ef17_78, ups_n _ _ (by omega)]; exact hwo i hio, fun j j0 j1 => if hq : j = i1 then (by rw [ef17_78, hq, ups_s]; exact hval) else (by rw [ef17_78, ups_n _ _ (by omega)]; exact hww j j0 (by omega)), Or.inl ⟨rfl, i1, by omega, by omega, hfin⟩⟩ (by omega) _ _ _ hP hD hS (lv_sub hl [0, 1, 4, 5, 6] rfl)
  exact loop_15 _ x 0 (σ 17) ⟨Int.le_refl _, by omega, fun i _ => rfl, fun j j0 j1 => by omega, Or.inr ⟨rfl, fun j j0 j1 => by omega⟩⟩ (mz_lt _) _ _ _ hP hD hS (lv_sub hl [0, 2, 1, 3, 4] rfl)
