/-! the reference: the larger questions (rows laid by wip/gen) -/
theorem iX5_shift_X5 : ∀ w ∈ wsX50, w ∈ wsX5_shift := fun _ h => List.mem_cons_of_mem _ (List.mem_append_right _ h)
set_option maxHeartbeats 4000000 in
set_option maxRecDepth 100000 in
theorem mX5_shift (l : Launch) (G : va_G) (cx a : Nat → Nat) (σ : Nat → Int → Int)   (hI : Inv (σ 0)) : Met l yX5_shift wsX5_shift ({ frames := 5, cells := 0, slots := 0, locals := 121 }) (va_Pc [.ref (a 0)] (gW G (tm cx) (MA a) (wm cx a) σ)) (va_Qi (fun r u => (can_ (σ 0) (σ 0 6) (σ 0 7) → iI (bst (σ 0) (σ 0 6) (σ 0 7) (σ 0 74 - 1).toNat 0 / σ 0 0) = r) ∧ (¬ can_ (σ 0) (σ 0 6) (σ 0 7) → iI (-9) = r) ∧ MQ_ σ u) (gW G (tm cx) (MA a) (wm cx a)) (MA a)) 0 0 (MA a) := by
  refine Met.ofW (cc := cX5_shift) (maxL := 1) (ret := some .int) (by decide) rfl ?_
  intro p e s m args below meth c s₁ B hml hv
  obtain ⟨rfl, hP, hK, hD⟩ := hv
  have hex := B.exec
  have hbc := B.bytes
  have hrt := B.returns
  have hts := atoms_spec (ws := wsX5_shift) B.pre
  have hown : s.vm.findClass RX5 = some m.cls := findClass_of_methodNamed B.named
  have hlocks := B.notSynchronized
  have hS : va_S (MA a) s.heap s.heap [] := va_S.rf
  have hin5 := iX5_shift_X5
  have hl := lv_entry ([.ref (a 0)]) (n := 1) (Nat.le_of_ble_eq_true rfl)
  rw [lg_entry_eq]
  generalize (lg_sl ([.ref (a 0)]) ++ List.replicate (1 - (lg_sl ([.ref (a 0)])).length) Slot.unset).toArray = ls at hl ⊢
  have hl : lv_has ls 1 [(0, .ref (a 0))] := hl
  obtain ⟨hB, hEn, hMk, hAs, hPm⟩ := id hI
  have hB0 := bst_rng hI (T := σ 0 6) (G := σ 0 7) (d := (σ 0 74 - 1).toNat) (s := 0) (by omega) (by omega) (by omega) (by omega) (by omega)
  have hFAR : FAR = 1152921504606846976 := rfl
  refine lv_aload_n hex hbc dX5_shift_0 rfl (lv_at hl 0 rfl) ?_
  refine lv_aload_n hex hbc dX5_shift_1 rfl (lv_at hl 0 rfl) ?_
  refine va_get (v := .ref (a 1)) hex hbc hts hin5 hown hK hP 0 rfl rfl 0 (by decide) (hts _ (List.mem_of_getElem? (i := 1) rfl)) (fun _ h => h) rfl dX5_shift_2 ?_
  refine lv_bipush (v := iI 6) hex hbc dX5_shift_5 (by decide) ?_
  refine g_iald (f := (σ 0)) (v := (σ 0 6)) (i := 6) hex hbc hK hP 1 0 rfl rfl (by decide) (by omega) rfl dX5_shift_7 ?_
  refine lv_aload_n hex hbc dX5_shift_8 rfl (lv_at hl 0 rfl) ?_
  refine va_get (v := .ref (a 1)) hex hbc hts hin5 hown hK hP 0 rfl rfl 0 (by decide) (hts _ (List.mem_of_getElem? (i := 1) rfl)) (fun _ h => h) rfl dX5_shift_9 ?_
  refine lv_bipush (v := iI 7) hex hbc dX5_shift_12 (by decide) ?_
  refine g_iald (f := (σ 0)) (v := (σ 0 7)) (i := 7) hex hbc hK hP 1 0 rfl rfl (by decide) (by omega) rfl dX5_shift_14 ?_
  refine g_calli [.int (iI (σ 0 6)), .int (iI (σ 0 7))] ⟨hex, hbc, hml, hown, hts⟩ (mX5_layGrid l G cx a σ (σ 0 6) (σ 0 7) (by omega) (by omega) hI) (cwV 2 hts gX5_shift_X5_layGrid rfl rfl rfl (by decide +kernel) ⟨Nat.le_of_ble_eq_true rfl, Nat.le_of_ble_eq_true rfl⟩) hK hP hD hS (fun _ h => h) 0 5 rfl rfl rfl rfl hl.1 (Nat.le_of_ble_eq_true rfl) dX5_shift_15 ⟨Nat.zero_le _, Nat.zero_le _⟩ (fun r_15 u_15 H locs hw_15 hP hD hS hz_15 hk_15 => ?_)
  obtain ⟨⟨vb15, rfl, hv15⟩, f2_15, f5_15, f6_15, f7_15, hf2_15, hgr_15, rfl⟩ := hw_15
  have hP : va_P G vwCl (wm cx a (sc (sc (sc (sc σ 2 f2_15) 5 f5_15) 6 f6_15) 7 f7_15)) H := hP
  have hD : va_D (MA a) (wm cx a (sc (sc (sc (sc σ 2 f2_15) 5 f5_15) 6 f6_15) 7 f7_15)) := hD
  refine zt_ifb_eq (P := (can_ (σ 0) (σ 0 6) (σ 0 7))) (tgt := 37) hex hbc hv15 dX5_shift_18 (by decide) (fun c18 => ?_) (fun c18 => ?_)
  · skip
    refine lv_bipush (v := iI (-9)) hex hbc dX5_shift_37 (by decide) ?_
    exact g_iret hex hbc hrt hlocks hK hP hD hS ⟨fun h => absurd h c18, fun _ => rfl, ⟨rfl, rfl, hf2_15.1, hf2_15.2.1, rfl⟩⟩ dX5_shift_39
  · skip
    refine lv_aload_n hex hbc dX5_shift_21 rfl (lv_at hl 0 rfl) ?_
    refine va_get (v := .long (lI (f2_15 2))) hex hbc hts hin5 hown hK hP 0 rfl rfl 9 (by decide) (hts _ (List.mem_of_getElem? (i := 2) rfl)) (fun _ h => h) rfl dX5_shift_22 ?_
    refine zt_nml (a := (f2_15 2)) (b := (bst (σ 0) (σ 0 6) (σ 0 7) (σ 0 74 - 1).toNat 0)) hf2_15.2.2 ?_
    refine lv_aload_n hex hbc dX5_shift_25 rfl (lv_at hl 0 rfl) ?_
    refine va_get (v := .ref (a 1)) hex hbc hts hin5 hown hK hP 0 rfl rfl 0 (by decide) (hts _ (List.mem_of_getElem? (i := 1) rfl)) (fun _ h => h) rfl dX5_shift_26 ?_
    refine lv_iconst (v := iI 0) hex hbc dX5_shift_29 rfl ?_
    refine g_iald (f := (σ 0)) (v := (σ 0 0)) (i := 0) hex hbc hK hP 1 0 rfl rfl (by decide) (by omega) rfl dX5_shift_30 ?_
    refine zt_i2l (a := (σ 0 0)) hex hbc (by omega) dX5_shift_31 ?_
    refine zt_ldiv (a := (bst (σ 0) (σ 0 6) (σ 0 7) (σ 0 74 - 1).toNat 0)) (b := (σ 0 0)) hex hbc (by omega) dX5_shift_32 ?_
    refine zt_l2i hex hbc dX5_shift_33 ?_
    refine lv_goto (tgt := 39) hex hbc dX5_shift_34 (by decide) ?_
    exact g_iret hex hbc hrt hlocks hK hP hD hS ⟨fun _ => rfl, fun h => absurd c18 h, ⟨rfl, rfl, hf2_15.1, hf2_15.2.1, rfl⟩⟩ dX5_shift_39
theorem iX5_leastGrid_X5 : ∀ w ∈ wsX50, w ∈ wsX5_leastGrid := fun _ h => List.mem_cons_of_mem _ (List.mem_append_right _ h)
set_option maxHeartbeats 4000000 in
set_option maxRecDepth 100000 in
theorem mX5_leastGrid (l : Launch) (G : va_G) (cx a : Nat → Nat) (σ : Nat → Int → Int)   (hI : Inv (σ 0)) : Met l yX5_leastGrid wsX5_leastGrid ({ frames := 5, cells := 0, slots := 0, locals := 121 }) (va_Pc [.ref (a 0)] (gW G (tm cx) (MA a) (wm cx a) σ)) (va_Qi (fun r u => (∃ v, iI v = r ∧ LG_ (σ 0) v) ∧ MQ_ σ u) (gW G (tm cx) (MA a) (wm cx a)) (MA a)) 0 0 (MA a) := by
  refine Met.ofW (cc := cX5_leastGrid) (maxL := 2) (ret := some .int) (by decide) rfl ?_
  intro p e s m args below meth c s₁ B hml hv
  obtain ⟨rfl, hP, hK, hD⟩ := hv
  have hex := B.exec
  have hbc := B.bytes
  have hrt := B.returns
  have hts := atoms_spec (ws := wsX5_leastGrid) B.pre
  have hown : s.vm.findClass RX5 = some m.cls := findClass_of_methodNamed B.named
  have hlocks := B.notSynchronized
  have hS : va_S (MA a) s.heap s.heap [] := va_S.rf
  have hin5 := iX5_leastGrid_X5
  have hl := lv_entry ([.ref (a 0)]) (n := 2) (Nat.le_of_ble_eq_true rfl)
  rw [lg_entry_eq]
  generalize (lg_sl ([.ref (a 0)]) ++ List.replicate (2 - (lg_sl ([.ref (a 0)])).length) Slot.unset).toArray = ls at hl ⊢
  have hl : lv_has ls 2 [(0, .ref (a 0))] := hl
  obtain ⟨hB, hEn, hMk, hAs, hPm⟩ := id hI
  refine lv_iconst (v := iI 1) hex hbc dX5_leastGrid_0 rfl ?_
  refine lv_istore_n (lv' := [(1, .int (iI 1)), (0, .ref (a 0))]) hex hbc dX5_leastGrid_1 rfl hl (by decide) rfl (fun ls hl => ?_)
  have loop_2 : ∀ (N : Nat) (g1 : Int) (a2 : Int → Int) (a5 : Int → Int) (a6 : Int → Int) (a7 : Int → Int), (1 ≤ g1 ∧ g1 ≤ 33 ∧ (a2 0 = σ 2 0 ∧ a2 1 = σ 2 1) ∧ ∀ g, 1 ≤ g → g < g1 → ¬ can_ (σ 0) (σ 0 6) g) → (33 - g1) < (N : Int) → ∀ (H : Heap) (locs : List Loc) (ls : Array Slot), va_P G vwCl (wm cx a (sc (sc (sc (sc σ 2 a2) 5 a5) 6 a6) 7 a7)) H → va_D (MA a) (wm cx a (sc (sc (sc (sc σ 2 a2) 5 a5) 6 a6) 7 a7)) → va_S (MA a) s.heap H locs → lv_has ls 2 [(1, .int (iI g1)), (0, .ref (a 0))] → W p l e (headSpec wsX5_leastGrid ({ frames := 5, cells := 0, slots := 0, locals := 121 })).room s m ([.ref (a 0)] : List Value).toArray below meth c H locs 0 0 (MQ below (va_Qi (fun r u => (∃ v, iI v = r ∧ LG_ (σ 0) v) ∧ MQ_ σ u) (gW G (tm cx) (MA a) (wm cx a)) (MA a)) ([.ref (a 0)] : List Value).toArray s 0 0 (MA a)) (F0 m 2 ls []) := by
    intro N
    induction N with
    | zero => intro g1 a2 a5 a6 a7 hinv hlt; exfalso; omega
    | succ N ih_2 =>
      intro g1 a2 a5 a6 a7 ⟨hi0, hi1, h2a, hw⟩ hlt_2 H locs ls hP hD hS hl
      refine lv_iload_n hex hbc dX5_leastGrid_2 rfl (lv_at hl 0 rfl) ?_
      refine lv_bipush (v := iI 32) hex hbc dX5_leastGrid_3 (by decide) ?_
      refine zt_icmp_gt (a := g1) (b := 32) (tgt := 31) hex hbc (by omega) dX5_leastGrid_5 (by decide) (fun c5 => ?_) (fun c5 => ?_)
      · skip
        refine lv_bipush (v := iI (-9)) hex hbc dX5_leastGrid_31 (by decide) ?_
        exact g_iret hex hbc hrt hlocks hK hP hD hS ⟨⟨-9, rfl, Or.inl ⟨rfl, fun g h1 h2 => hw g h1 (by omega)⟩⟩, rfl, rfl, h2a.1, h2a.2, rfl⟩ dX5_leastGrid_33
      · skip
        refine lv_aload_n hex hbc dX5_leastGrid_8 rfl (lv_at hl 1 rfl) ?_
        refine lv_aload_n hex hbc dX5_leastGrid_9 rfl (lv_at hl 1 rfl) ?_
        refine va_get (v := .ref (a 1)) hex hbc hts hin5 hown hK hP 0 rfl rfl 0 (by decide) (hts _ (List.mem_of_getElem? (i := 1) rfl)) (fun _ h => h) rfl dX5_leastGrid_10 ?_
        refine lv_bipush (v := iI 6) hex hbc dX5_leastGrid_13 (by decide) ?_
        refine g_iald (f := (σ 0)) (v := (σ 0 6)) (i := 6) hex hbc hK hP 1 0 rfl rfl (by decide) (by omega) rfl dX5_leastGrid_15 ?_
        refine lv_iload_n hex hbc dX5_leastGrid_16 rfl (lv_at hl 0 rfl) ?_
        refine g_calli [.int (iI (σ 0 6)), .int (iI g1)] ⟨hex, hbc, hml, hown, hts⟩ (mX5_layGrid l G cx a (sc (sc (sc (sc σ 2 a2) 5 a5) 6 a6) 7 a7) (σ 0 6) g1 (show 1 ≤ (σ 0 6) ∧ (σ 0 6) ≤ 200000 from by omega) (show 1 ≤ g1 ∧ g1 ≤ 32 from by omega) hI) (cwV 2 hts gX5_leastGrid_X5_layGrid rfl rfl rfl (by decide +kernel) ⟨Nat.le_of_ble_eq_true rfl, Nat.le_of_ble_eq_true rfl⟩) hK hP hD hS (fun _ h => h) 0 5 rfl rfl rfl rfl hl.1 (Nat.le_of_ble_eq_true rfl) dX5_leastGrid_17 ⟨Nat.zero_le _, Nat.zero_le _⟩ (fun r_17 u_17 H locs hw_17 hP hD hS hz_17 hk_17 => ?_)
        obtain ⟨⟨vb17, rfl, hv17⟩, f2_17, f5_17, f6_17, f7_17, hf2_17, hgr_17, rfl⟩ := hw_17
        have hP : va_P G vwCl (wm cx a (sc (sc (sc (sc σ 2 f2_17) 5 f5_17) 6 f6_17) 7 f7_17)) H := hP
        have hD : va_D (MA a) (wm cx a (sc (sc (sc (sc σ 2 f2_17) 5 f5_17) 6 f6_17) 7 f7_17)) := hD
        have hv17 : ((can_ (σ 0) (σ 0 6) g1) ∧ vb17 = 1) ∨ (¬ (can_ (σ 0) (σ 0 6) g1) ∧ vb17 = 0) := hv17
        refine zt_ifb_eq (P := (can_ (σ 0) (σ 0 6) g1)) (tgt := 25) hex hbc hv17 dX5_leastGrid_20 (by decide) (fun c20 => ?_) (fun c20 => ?_)
        · skip
          refine lv_iinc (v := iI (g1 + 1)) (lv' := [(1, .int (iI (g1 + 1))), (0, .ref (a 0))]) hex hbc dX5_leastGrid_25 hl (k := 0) rfl (iI_add _ _) (by decide) rfl (fun ls hl => ?_)
          refine lv_goto (tgt := 2) hex hbc dX5_leastGrid_28 (by decide) ?_
          exact ih_2 (g1 + 1) f2_17 f5_17 f6_17 f7_17 ⟨by omega, by omega, ⟨hf2_17.1.trans h2a.1, hf2_17.2.1.trans h2a.2⟩, fun g h1 h2 => if hq : g = g1 then (by rw [hq]; exact c20) else hw g h1 (by omega)⟩ (by omega) _ _ _ hP hD hS (lv_sub hl [0, 1] rfl)
        · skip
          refine lv_iload_n hex hbc dX5_leastGrid_23 rfl (lv_at hl 0 rfl) ?_
          exact g_iret hex hbc hrt hlocks hK hP hD hS ⟨⟨g1, rfl, Or.inr ⟨hi0, by omega, c20, hw⟩⟩, rfl, rfl, hf2_17.1.trans h2a.1, hf2_17.2.1.trans h2a.2, rfl⟩ dX5_leastGrid_24
  exact loop_2 _ 1 (σ 2) (σ 5) (σ 6) (σ 7) ⟨by omega, by omega, ⟨rfl, rfl⟩, fun g h1 h2 => by omega⟩ (mz_lt _) _ _ _ hP hD hS (lv_sub hl [0, 1] rfl)
theorem iX5_canBe_X5 : ∀ w ∈ wsX50, w ∈ wsX5_canBe := fun _ h => List.mem_cons_of_mem _ (List.mem_append_right _ h)
set_option maxHeartbeats 4000000 in
set_option maxRecDepth 100000 in
theorem mX5_canBe (l : Launch) (G : va_G) (cx a : Nat → Nat) (σ : Nat → Int → Int)  (x : Int) (hx : -2147483648 ≤ x ∧ x < 2147483648) (hI : Inv (σ 0)) : Met l yX5_canBe wsX5_canBe ({ frames := 5, cells := 0, slots := 0, locals := 121 }) (va_Pc [.ref (a 0), .int (iI x)] (gW G (tm cx) (MA a) (wm cx a) σ)) (va_Qi (fun r u => (∃ v, iI v = r ∧ ((okT (σ 0) x ∧ v = 1) ∨ (¬ okT (σ 0) x ∧ v = 0))) ∧ ∃ f2 f5 f6 f7, (f2 0 = σ 2 0 ∧ f2 1 = σ 2 1) ∧ sc (sc (sc (sc σ 2 f2) 5 f5) 6 f6) 7 f7 = u) (gW G (tm cx) (MA a) (wm cx a)) (MA a)) 0 0 (MA a) := by
  refine Met.ofW (cc := cX5_canBe) (maxL := 2) (ret := some .boolean) (by decide) rfl ?_
  intro p e s m args below meth c s₁ B hml hv
  obtain ⟨rfl, hP, hK, hD⟩ := hv
  have hex := B.exec
  have hbc := B.bytes
  have hrt := B.returns
  have hts := atoms_spec (ws := wsX5_canBe) B.pre
  have hown : s.vm.findClass RX5 = some m.cls := findClass_of_methodNamed B.named
  have hlocks := B.notSynchronized
  have hS : va_S (MA a) s.heap s.heap [] := va_S.rf
  have hin5 := iX5_canBe_X5
  have hl := lv_entry ([.ref (a 0), .int (iI x)]) (n := 2) (Nat.le_of_ble_eq_true rfl)
  rw [lg_entry_eq]
  generalize (lg_sl ([.ref (a 0), .int (iI x)]) ++ List.replicate (2 - (lg_sl ([.ref (a 0), .int (iI x)])).length) Slot.unset).toArray = ls at hl ⊢
  have hl : lv_has ls 2 [(0, .ref (a 0)), (1, .int (iI x))] := hl
  obtain ⟨hB, hEn, hMk, hAs, hPm⟩ := id hI
  refine lv_iload_n hex hbc dX5_canBe_0 rfl (lv_at hl 1 rfl) ?_
  refine lv_iconst (v := iI 1) hex hbc dX5_canBe_1 rfl ?_
  refine lv_ldc (v := iI 200000) hex hbc hown (hts _ (List.mem_of_getElem? (i := 1) rfl)) dX5_canBe_2 ?_
  refine g_callS [.int (iI x), .int (iI 1), .int (iI 200000)] ⟨hex, hbc, hml, hown, hts⟩ (mX5_isIn l x 1 200000 (by omega) (by omega) (by omega)) (va_cwS 3 hts gX5_canBe_X5_isIn rfl rfl rfl (by decide +kernel) ⟨Nat.le_of_ble_eq_true rfl, Nat.le_of_ble_eq_true rfl⟩) hP hS rfl rfl hl.1 (Nat.le_of_ble_eq_true rfl) dX5_canBe_4 ⟨Nat.zero_le _, Nat.zero_le _⟩ (fun r_4 H locs hw_4 hP hS => ?_)
  obtain ⟨vb4, rfl, hv4⟩ := hw_4
  refine zt_ifb_eq (P := (1 ≤ x ∧ x ≤ 200000)) (tgt := 29) hex hbc hv4 dX5_canBe_7 (by decide) (fun c7 => ?_) (fun c7 => ?_)
  · skip
    refine lv_iconst (v := iI 0) hex hbc dX5_canBe_29 rfl ?_
    exact g_zret hex hbc hrt hlocks rfl hK hP hD hS ⟨⟨0, rfl, Or.inr ⟨fun h => c7 h.1, rfl⟩⟩, σ 2, σ 5, σ 6, σ 7, ⟨rfl, rfl⟩, sc_self2567⟩ dX5_canBe_30
  · skip
    refine lv_aload_n hex hbc dX5_canBe_10 rfl (lv_at hl 0 rfl) ?_
    refine lv_iload_n hex hbc dX5_canBe_11 rfl (lv_at hl 1 rfl) ?_
    refine lv_aload_n hex hbc dX5_canBe_12 rfl (lv_at hl 0 rfl) ?_
    refine va_get (v := .ref (a 1)) hex hbc hts hin5 hown hK hP 0 rfl rfl 0 (by decide) (hts _ (List.mem_of_getElem? (i := 2) rfl)) (fun _ h => h) rfl dX5_canBe_13 ?_
    refine lv_bipush (v := iI 7) hex hbc dX5_canBe_16 (by decide) ?_
    refine g_iald (f := (σ 0)) (v := (σ 0 7)) (i := 7) hex hbc hK hP 1 0 rfl rfl (by decide) (by omega) rfl dX5_canBe_18 ?_
    refine g_calli [.int (iI x), .int (iI (σ 0 7))] ⟨hex, hbc, hml, hown, hts⟩ (mX5_layGrid l G cx a σ x (σ 0 7) (by omega) (by omega) hI) (cwV 2 hts gX5_canBe_X5_layGrid rfl rfl rfl (by decide +kernel) ⟨Nat.le_of_ble_eq_true rfl, Nat.le_of_ble_eq_true rfl⟩) hK hP hD hS (fun _ h => h) 0 5 rfl rfl rfl rfl hl.1 (Nat.le_of_ble_eq_true rfl) dX5_canBe_19 ⟨Nat.zero_le _, Nat.zero_le _⟩ (fun r_19 u_19 H locs hw_19 hP hD hS hz_19 hk_19 => ?_)
    obtain ⟨⟨vb19, rfl, hv19⟩, f2_19, f5_19, f6_19, f7_19, hf2_19, hgr_19, rfl⟩ := hw_19
    have hP : va_P G vwCl (wm cx a (sc (sc (sc (sc σ 2 f2_19) 5 f5_19) 6 f6_19) 7 f7_19)) H := hP
    have hD : va_D (MA a) (wm cx a (sc (sc (sc (sc σ 2 f2_19) 5 f5_19) 6 f6_19) 7 f7_19)) := hD
    refine zt_ifb_eq (P := (can_ (σ 0) x (σ 0 7))) (tgt := 29) hex hbc hv19 dX5_canBe_22 (by decide) (fun c22 => ?_) (fun c22 => ?_)
    · skip
      refine lv_iconst (v := iI 0) hex hbc dX5_canBe_29 rfl ?_
      exact g_zret hex hbc hrt hlocks rfl hK hP hD hS ⟨⟨0, rfl, Or.inr ⟨fun h => c22 h.2, rfl⟩⟩, f2_19, f5_19, f6_19, f7_19, ⟨hf2_19.1, hf2_19.2.1⟩, rfl⟩ dX5_canBe_30
    · skip
      refine lv_iconst (v := iI 1) hex hbc dX5_canBe_25 rfl ?_
      refine lv_goto (tgt := 30) hex hbc dX5_canBe_26 (by decide) ?_
      exact g_zret hex hbc hrt hlocks rfl hK hP hD hS ⟨⟨1, rfl, Or.inl ⟨⟨c7, c22⟩, rfl⟩⟩, f2_19, f5_19, f6_19, f7_19, ⟨hf2_19.1, hf2_19.2.1⟩, rfl⟩ dX5_canBe_30
theorem iX5_nearTarget_X5 : ∀ w ∈ wsX50, w ∈ wsX5_nearTarget := fun _ h => List.mem_cons_of_mem _ (List.mem_append_right _ h)
set_option maxHeartbeats 4000000 in
set_option maxRecDepth 100000 in
theorem mX5_nearTarget (l : Launch) (G : va_G) (cx a : Nat → Nat) (σ : Nat → Int → Int)  (x : Int) (hx : -2147483648 ≤ x ∧ x < 2147483648) (hI : Inv (σ 0)) : Met l yX5_nearTarget wsX5_nearTarget ({ frames := 6, cells := 0, slots := 0, locals := 142 }) (va_Pc [.ref (a 0), .int (iI x)] (gW G (tm cx) (MA a) (wm cx a) σ)) (va_Qi (fun r u => (¬ (0 ≤ x ∧ x ≤ 200) → iI (-1) = r) ∧ ((0 ≤ x ∧ x ≤ 200) → ∃ v, iI v = r ∧ NT_ (σ 0) x v) ∧ MQ_ σ u) (gW G (tm cx) (MA a) (wm cx a)) (MA a)) 0 0 (MA a) := by
  refine Met.ofW (cc := cX5_nearTarget) (maxL := 3) (ret := some .int) (by decide) rfl ?_
  intro p e s m args below meth c s₁ B hml hv
  obtain ⟨rfl, hP, hK, hD⟩ := hv
  have hex := B.exec
  have hbc := B.bytes
  have hrt := B.returns
  have hts := atoms_spec (ws := wsX5_nearTarget) B.pre
  have hown : s.vm.findClass RX5 = some m.cls := findClass_of_methodNamed B.named
  have hlocks := B.notSynchronized
  have hS : va_S (MA a) s.heap s.heap [] := va_S.rf
  have hin5 := iX5_nearTarget_X5
  have hl := lv_entry ([.ref (a 0), .int (iI x)]) (n := 3) (Nat.le_of_ble_eq_true rfl)
  rw [lg_entry_eq]
  generalize (lg_sl ([.ref (a 0), .int (iI x)]) ++ List.replicate (3 - (lg_sl ([.ref (a 0), .int (iI x)])).length) Slot.unset).toArray = ls at hl ⊢
  have hl : lv_has ls 3 [(0, .ref (a 0)), (1, .int (iI x))] := hl
  obtain ⟨hB, hEn, hMk, hAs, hPm⟩ := id hI
  refine lv_iload_n hex hbc dX5_nearTarget_0 rfl (lv_at hl 1 rfl) ?_
  refine lv_iconst (v := iI 0) hex hbc dX5_nearTarget_1 rfl ?_
  refine lv_sipush (v := iI 200) hex hbc dX5_nearTarget_2 (by decide) ?_
  refine g_callS [.int (iI x), .int (iI 0), .int (iI 200)] ⟨hex, hbc, hml, hown, hts⟩ (mX5_isIn l x 0 200 (by omega) (by omega) (by omega)) (va_cwS 3 hts gX5_nearTarget_X5_isIn rfl rfl rfl (by decide +kernel) ⟨Nat.le_of_ble_eq_true rfl, Nat.le_of_ble_eq_true rfl⟩) hP hS rfl rfl hl.1 (Nat.le_of_ble_eq_true rfl) dX5_nearTarget_5 ⟨Nat.zero_le _, Nat.zero_le _⟩ (fun r_5 H locs hw_5 hP hS => ?_)
  obtain ⟨vb5, rfl, hv5⟩ := hw_5
  refine zt_ifb_ne (P := (0 ≤ x ∧ x ≤ 200)) (tgt := 13) hex hbc hv5 dX5_nearTarget_8 (by decide) (fun c8 => ?_) (fun c8 => ?_)
  · skip
    refine lv_iconst (v := iI 0) hex hbc dX5_nearTarget_13 rfl ?_
    refine lv_istore_n (lv' := [(2, .int (iI 0)), (0, .ref (a 0)), (1, .int (iI x))]) hex hbc dX5_nearTarget_14 rfl hl (by decide) rfl (fun ls hl => ?_)
    have loop_15 : ∀ (N : Nat) (d1 : Int) (a2 : Int → Int) (a5 : Int → Int) (a6 : Int → Int) (a7 : Int → Int), (0 ≤ d1 ∧ d1 ≤ x + 1 ∧ (a2 0 = σ 2 0 ∧ a2 1 = σ 2 1) ∧ ∀ b, 0 ≤ b → b < d1 → ¬ okT (σ 0) (σ 0 6 - b) ∧ ¬ okT (σ 0) (σ 0 6 + b)) → (x + 1 - d1) < (N : Int) → ∀ (H : Heap) (locs : List Loc) (ls : Array Slot), va_P G vwCl (wm cx a (sc (sc (sc (sc σ 2 a2) 5 a5) 6 a6) 7 a7)) H → va_D (MA a) (wm cx a (sc (sc (sc (sc σ 2 a2) 5 a5) 6 a6) 7 a7)) → va_S (MA a) s.heap H locs → lv_has ls 3 [(2, .int (iI d1)), (0, .ref (a 0)), (1, .int (iI x))] → W p l e (headSpec wsX5_nearTarget ({ frames := 6, cells := 0, slots := 0, locals := 142 })).room s m ([.ref (a 0), .int (iI x)] : List Value).toArray below meth c H locs 0 0 (MQ below (va_Qi (fun r u => (¬ (0 ≤ x ∧ x ≤ 200) → iI (-1) = r) ∧ ((0 ≤ x ∧ x ≤ 200) → ∃ v, iI v = r ∧ NT_ (σ 0) x v) ∧ MQ_ σ u) (gW G (tm cx) (MA a) (wm cx a)) (MA a)) ([.ref (a 0), .int (iI x)] : List Value).toArray s 0 0 (MA a)) (F0 m 15 ls []) := by
      intro N
      induction N with
      | zero => intro d1 a2 a5 a6 a7 hinv hlt; exfalso; have hz := hinv.2.1; omega
      | succ N ih_15 =>
        intro d1 a2 a5 a6 a7 ⟨hi0, hi1, h2a, hw⟩ hlt_15 H locs ls hP hD hS hl
        refine lv_iload_n hex hbc dX5_nearTarget_15 rfl (lv_at hl 0 rfl) ?_
        refine lv_iload_n hex hbc dX5_nearTarget_16 rfl (lv_at hl 2 rfl) ?_
        refine zt_icmp_gt (a := d1) (b := x) (tgt := 78) hex hbc (by omega) dX5_nearTarget_17 (by decide) (fun c17 => ?_) (fun c17 => ?_)
        · skip
          refine lv_bipush (v := iI (-9)) hex hbc dX5_nearTarget_78 (by decide) ?_
          exact g_iret hex hbc hrt hlocks hK hP hD hS ⟨fun h => absurd c8 h, fun _ => ⟨-9, rfl, Or.inl ⟨rfl, fun d h1 h2 => hw d h1 (by omega)⟩⟩, rfl, rfl, h2a.1, h2a.2, rfl⟩ dX5_nearTarget_80
        · skip
          refine lv_aload_n hex hbc dX5_nearTarget_20 rfl (lv_at hl 1 rfl) ?_
          refine lv_aload_n hex hbc dX5_nearTarget_21 rfl (lv_at hl 1 rfl) ?_
          refine va_get (v := .ref (a 1)) hex hbc hts hin5 hown hK hP 0 rfl rfl 0 (by decide) (hts _ (List.mem_of_getElem? (i := 1) rfl)) (fun _ h => h) rfl dX5_nearTarget_22 ?_
          refine lv_bipush (v := iI 6) hex hbc dX5_nearTarget_25 (by decide) ?_
          refine g_iald (f := (σ 0)) (v := (σ 0 6)) (i := 6) hex hbc hK hP 1 0 rfl rfl (by decide) (by omega) rfl dX5_nearTarget_27 ?_
          refine lv_iload_n hex hbc dX5_nearTarget_28 rfl (lv_at hl 0 rfl) ?_
          refine zt_isub hex hbc dX5_nearTarget_29 ?_
          refine g_calli [.int (iI ((σ 0 6) - d1))] ⟨hex, hbc, hml, hown, hts⟩ (mX5_canBe l G cx a (sc (sc (sc (sc σ 2 a2) 5 a5) 6 a6) 7 a7) ((σ 0 6) - d1) (show -2147483648 ≤ ((σ 0 6) - d1) ∧ ((σ 0 6) - d1) < 2147483648 from by omega) hI) (cwV 1 hts gX5_nearTarget_X5_canBe rfl rfl rfl (by decide +kernel) ⟨Nat.le_of_ble_eq_true rfl, Nat.le_of_ble_eq_true rfl⟩) hK hP hD hS (fun _ h => h) 0 5 rfl rfl rfl rfl hl.1 (Nat.le_of_ble_eq_true rfl) dX5_nearTarget_30 ⟨Nat.zero_le _, Nat.zero_le _⟩ (fun r_30 u_30 H locs hw_30 hP hD hS hz_30 hk_30 => ?_)
          obtain ⟨⟨vb30, rfl, hv30⟩, f2_30, f5_30, f6_30, f7_30, hf2_30, rfl⟩ := hw_30
          have hP : va_P G vwCl (wm cx a (sc (sc (sc (sc σ 2 f2_30) 5 f5_30) 6 f6_30) 7 f7_30)) H := hP
          have hD : va_D (MA a) (wm cx a (sc (sc (sc (sc σ 2 f2_30) 5 f5_30) 6 f6_30) 7 f7_30)) := hD
          have hv30 : ((okT (σ 0) ((σ 0 6) - d1)) ∧ vb30 = 1) ∨ (¬ (okT (σ 0) ((σ 0 6) - d1)) ∧ vb30 = 0) := hv30
          refine zt_ifb_eq (P := (okT (σ 0) ((σ 0 6) - d1))) (tgt := 46) hex hbc hv30 dX5_nearTarget_33 (by decide) (fun c33 => ?_) (fun c33 => ?_)
          · skip
            refine lv_aload_n hex hbc dX5_nearTarget_46 rfl (lv_at hl 1 rfl) ?_
            refine lv_aload_n hex hbc dX5_nearTarget_47 rfl (lv_at hl 1 rfl) ?_
            refine va_get (v := .ref (a 1)) hex hbc hts hin5 hown hK hP 0 rfl rfl 0 (by decide) (hts _ (List.mem_of_getElem? (i := 1) rfl)) (fun _ h => h) rfl dX5_nearTarget_48 ?_
            refine lv_bipush (v := iI 6) hex hbc dX5_nearTarget_51 (by decide) ?_
            refine g_iald (f := (σ 0)) (v := (σ 0 6)) (i := 6) hex hbc hK hP 1 0 rfl rfl (by decide) (by omega) rfl dX5_nearTarget_53 ?_
            refine lv_iload_n hex hbc dX5_nearTarget_54 rfl (lv_at hl 0 rfl) ?_
            refine zt_iadd hex hbc dX5_nearTarget_55 ?_
            refine g_calli [.int (iI ((σ 0 6) + d1))] ⟨hex, hbc, hml, hown, hts⟩ (mX5_canBe l G cx a (sc (sc (sc (sc σ 2 f2_30) 5 f5_30) 6 f6_30) 7 f7_30) ((σ 0 6) + d1) (show -2147483648 ≤ ((σ 0 6) + d1) ∧ ((σ 0 6) + d1) < 2147483648 from by omega) hI) (cwV 1 hts gX5_nearTarget_X5_canBe rfl rfl rfl (by decide +kernel) ⟨Nat.le_of_ble_eq_true rfl, Nat.le_of_ble_eq_true rfl⟩) hK hP hD hS (fun _ h => h) 0 5 rfl rfl rfl rfl hl.1 (Nat.le_of_ble_eq_true rfl) dX5_nearTarget_56 ⟨Nat.zero_le _, Nat.zero_le _⟩ (fun r_56 u_56 H locs hw_56 hP hD hS hz_56 hk_56 => ?_)
            obtain ⟨⟨vb56, rfl, hv56⟩, f2_56, f5_56, f6_56, f7_56, hf2_56, rfl⟩ := hw_56
            have hP : va_P G vwCl (wm cx a (sc (sc (sc (sc σ 2 f2_56) 5 f5_56) 6 f6_56) 7 f7_56)) H := hP
            have hD : va_D (MA a) (wm cx a (sc (sc (sc (sc σ 2 f2_56) 5 f5_56) 6 f6_56) 7 f7_56)) := hD
            have hv56 : ((okT (σ 0) ((σ 0 6) + d1)) ∧ vb56 = 1) ∨ (¬ (okT (σ 0) ((σ 0 6) + d1)) ∧ vb56 = 0) := hv56
            refine zt_ifb_eq (P := (okT (σ 0) ((σ 0 6) + d1))) (tgt := 72) hex hbc hv56 dX5_nearTarget_59 (by decide) (fun c59 => ?_) (fun c59 => ?_)
            · skip
              refine lv_iinc (v := iI (d1 + 1)) (lv' := [(2, .int (iI (d1 + 1))), (0, .ref (a 0)), (1, .int (iI x))]) hex hbc dX5_nearTarget_72 hl (k := 0) rfl (iI_add _ _) (by decide) rfl (fun ls hl => ?_)
              refine lv_goto (tgt := 15) hex hbc dX5_nearTarget_75 (by decide) ?_
              exact ih_15 (d1 + 1) f2_56 f5_56 f6_56 f7_56 ⟨by omega, by omega, ⟨hf2_56.1.trans (hf2_30.1.trans h2a.1), hf2_56.2.trans (hf2_30.2.trans h2a.2)⟩, fun b h1 h2 => if hq : b = d1 then (by rw [hq]; exact ⟨c33, c59⟩) else hw b h1 (by omega)⟩ (by omega) _ _ _ hP hD hS (lv_sub hl [0, 1, 2] rfl)
            · skip
              refine lv_aload_n hex hbc dX5_nearTarget_62 rfl (lv_at hl 1 rfl) ?_
              refine va_get (v := .ref (a 1)) hex hbc hts hin5 hown hK hP 0 rfl rfl 0 (by decide) (hts _ (List.mem_of_getElem? (i := 1) rfl)) (fun _ h => h) rfl dX5_nearTarget_63 ?_
              refine lv_bipush (v := iI 6) hex hbc dX5_nearTarget_66 (by decide) ?_
              refine g_iald (f := (σ 0)) (v := (σ 0 6)) (i := 6) hex hbc hK hP 1 0 rfl rfl (by decide) (by omega) rfl dX5_nearTarget_68 ?_
              refine lv_iload_n hex hbc dX5_nearTarget_69 rfl (lv_at hl 0 rfl) ?_
              refine zt_iadd hex hbc dX5_nearTarget_70 ?_
              exact g_iret hex hbc hrt hlocks hK hP hD hS ⟨fun h => absurd c8 h, fun _ => ⟨_, rfl, Or.inr ⟨d1, hi0, by omega, hw, Or.inr ⟨c33, c59, rfl⟩⟩⟩, rfl, rfl, hf2_56.1.trans (hf2_30.1.trans h2a.1), hf2_56.2.trans (hf2_30.2.trans h2a.2), rfl⟩ dX5_nearTarget_71
          · skip
            refine lv_aload_n hex hbc dX5_nearTarget_36 rfl (lv_at hl 1 rfl) ?_
            refine va_get (v := .ref (a 1)) hex hbc hts hin5 hown hK hP 0 rfl rfl 0 (by decide) (hts _ (List.mem_of_getElem? (i := 1) rfl)) (fun _ h => h) rfl dX5_nearTarget_37 ?_
            refine lv_bipush (v := iI 6) hex hbc dX5_nearTarget_40 (by decide) ?_
            refine g_iald (f := (σ 0)) (v := (σ 0 6)) (i := 6) hex hbc hK hP 1 0 rfl rfl (by decide) (by omega) rfl dX5_nearTarget_42 ?_
            refine lv_iload_n hex hbc dX5_nearTarget_43 rfl (lv_at hl 0 rfl) ?_
            refine zt_isub hex hbc dX5_nearTarget_44 ?_
            exact g_iret hex hbc hrt hlocks hK hP hD hS ⟨fun h => absurd c8 h, fun _ => ⟨_, rfl, Or.inr ⟨d1, hi0, by omega, hw, Or.inl ⟨c33, rfl⟩⟩⟩, rfl, rfl, hf2_30.1.trans h2a.1, hf2_30.2.trans h2a.2, rfl⟩ dX5_nearTarget_45
    exact loop_15 _ 0 (σ 2) (σ 5) (σ 6) (σ 7) ⟨by omega, by omega, ⟨rfl, rfl⟩, fun b h1 h2 => by omega⟩ (mz_lt _) _ _ _ hP hD hS (lv_sub hl [0, 1, 2] rfl)
  · skip
    refine lv_iconst (v := iI (-1)) hex hbc dX5_nearTarget_11 rfl ?_
    exact g_iret hex hbc hrt hlocks hK hP hD hS ⟨fun _ => rfl, fun h => absurd h c8, ⟨rfl, rfl, rfl, rfl, rfl⟩⟩ dX5_nearTarget_12
theorem iX5_told_X5 : ∀ w ∈ wsX50, w ∈ wsX5_told := fun _ h => List.mem_cons_of_mem _ (List.mem_append_right _ h)
set_option maxHeartbeats 4000000 in
set_option maxRecDepth 100000 in
theorem mX5_told (l : Launch) (G : va_G) (cx a : Nat → Nat) (σ : Nat → Int → Int)  (x : Int) (hx : -2147483648 ≤ x ∧ x < 2147483648) (hI : Inv (σ 0)) : Met l yX5_told wsX5_told ({ frames := 7, cells := 0, slots := 0, locals := 163 }) (va_Pc [.ref (a 0), .int (iI x)] (gW G (tm cx) (MA a) (wm cx a) σ)) (va_Qi (fun r u => (∃ v, iI v = r ∧ TD_ (σ 0) (σ 2 0) x v) ∧ MQ_ σ u) (gW G (tm cx) (MA a) (wm cx a)) (MA a)) 0 0 (MA a) := by
  refine Met.ofW (cc := cX5_told) (maxL := 2) (ret := some .int) (by decide) rfl ?_
  intro p e s m args below meth c s₁ B hml hv
  obtain ⟨rfl, hP, hK, hD⟩ := hv
  have hex := B.exec
  have hbc := B.bytes
  have hrt := B.returns
  have hts := atoms_spec (ws := wsX5_told) B.pre
  have hown : s.vm.findClass RX5 = some m.cls := findClass_of_methodNamed B.named
  have hlocks := B.notSynchronized
  have hS : va_S (MA a) s.heap s.heap [] := va_S.rf
  have hin5 := iX5_told_X5
  have hl := lv_entry ([.ref (a 0), .int (iI x)]) (n := 2) (Nat.le_of_ble_eq_true rfl)
  rw [lg_entry_eq]
  generalize (lg_sl ([.ref (a 0), .int (iI x)]) ++ List.replicate (2 - (lg_sl ([.ref (a 0), .int (iI x)])).length) Slot.unset).toArray = ls at hl ⊢
  have hl : lv_has ls 2 [(0, .ref (a 0)), (1, .int (iI x))] := hl
  obtain ⟨hB, hEn, hMk, hAs, hPm⟩ := id hI
  refine lv_iload_n hex hbc dX5_told_0 rfl (lv_at hl 1 rfl) ?_
  by_cases cs1 : x < 0 ∨ 6 < x
  · refine lv_tableOut (tgt := 92) hex hbc dX5_told_1 (by rw [iI_toInt (by omega)]; exact cs1) (by decide) ?_
    refine lv_iconst (v := iI (-1)) hex hbc dX5_told_92 rfl ?_
    exact g_iret hex hbc hrt hlocks hK hP hD hS ⟨⟨_, rfl, by unfold TD_; refine ⟨fun h => ?_, fun h => ?_, fun h => ?_, fun h => ⟨fun hl => ?_, fun hl => ?_⟩, fun h => ⟨fun hl => ?_, fun hl => ?_⟩, fun h => ⟨fun hl => ?_, fun hl => ?_⟩, fun h => ?_, fun h => ?_⟩ <;> first | (exfalso; omega) | rfl | contradiction⟩, ⟨rfl, rfl, rfl, rfl, rfl⟩⟩ dX5_told_93
  by_cases cs1_0 : x = 0
  · refine zt_nm (a := x) (b := 0) cs1_0 ?_
    refine lv_tableIn (off := 43) (tgt := 44) hex hbc dX5_told_1 (by decide) (by decide) rfl (by decide) ?_
    refine lv_aload_n hex hbc dX5_told_44 rfl (lv_at hl 0 rfl) ?_
    refine va_get (v := .ref (a 1)) hex hbc hts hin5 hown hK hP 0 rfl rfl 0 (by decide) (hts _ (List.mem_of_getElem? (i := 1) rfl)) (fun _ h => h) rfl dX5_told_45 ?_
    refine lv_iconst (v := iI 0) hex hbc dX5_told_48 rfl ?_
    refine g_iald (f := (σ 0)) (v := (σ 0 0)) (i := 0) hex hbc hK hP 1 0 rfl rfl (by decide) (by omega) rfl dX5_told_49 ?_
    exact g_iret hex hbc hrt hlocks hK hP hD hS ⟨⟨_, rfl, by unfold TD_; refine ⟨fun h => ?_, fun h => ?_, fun h => ?_, fun h => ⟨fun hl => ?_, fun hl => ?_⟩, fun h => ⟨fun hl => ?_, fun hl => ?_⟩, fun h => ⟨fun hl => ?_, fun hl => ?_⟩, fun h => ?_, fun h => ?_⟩ <;> first | (exfalso; omega) | rfl | contradiction⟩, ⟨rfl, rfl, rfl, rfl, rfl⟩⟩ dX5_told_50
  by_cases cs1_1 : x = 1
  · refine zt_nm (a := x) (b := 1) cs1_1 ?_
    refine lv_tableIn (off := 50) (tgt := 51) hex hbc dX5_told_1 (by decide) (by decide) rfl (by decide) ?_
    refine lv_aload_n hex hbc dX5_told_51 rfl (lv_at hl 0 rfl) ?_
    refine g_calli [] ⟨hex, hbc, hml, hown, hts⟩ (mX5_whole l G cx a σ  hI) (cwV 0 hts gX5_told_X5_whole rfl rfl rfl (by decide +kernel) ⟨Nat.le_of_ble_eq_true rfl, Nat.le_of_ble_eq_true rfl⟩) hK hP hD hS (fun _ h => h) 0 5 rfl rfl rfl rfl hl.1 (Nat.le_of_ble_eq_true rfl) dX5_told_52 ⟨Nat.zero_le _, Nat.zero_le _⟩ (fun r_52 u_52 H locs hw_52 hP hD hS hz_52 hk_52 => ?_)
    obtain ⟨rfl, rfl⟩ := hw_52
    exact g_iret hex hbc hrt hlocks hK hP hD hS ⟨⟨_, rfl, by unfold TD_; refine ⟨fun h => ?_, fun h => ?_, fun h => ?_, fun h => ⟨fun hl => ?_, fun hl => ?_⟩, fun h => ⟨fun hl => ?_, fun hl => ?_⟩, fun h => ⟨fun hl => ?_, fun hl => ?_⟩, fun h => ?_, fun h => ?_⟩ <;> first | (exfalso; omega) | rfl | contradiction⟩, ⟨rfl, rfl, rfl, rfl, rfl⟩⟩ dX5_told_55
  by_cases cs1_2 : x = 2
  · refine zt_nm (a := x) (b := 2) cs1_2 ?_
    refine lv_tableIn (off := 55) (tgt := 56) hex hbc dX5_told_1 (by decide) (by decide) rfl (by decide) ?_
    refine lv_aload_n hex hbc dX5_told_56 rfl (lv_at hl 0 rfl) ?_
    refine va_get (v := .ref (a 1)) hex hbc hts hin5 hown hK hP 0 rfl rfl 0 (by decide) (hts _ (List.mem_of_getElem? (i := 1) rfl)) (fun _ h => h) rfl dX5_told_57 ?_
    refine lv_bipush (v := iI 74) hex hbc dX5_told_60 (by decide) ?_
    refine g_iald (f := (σ 0)) (v := (σ 0 74)) (i := 74) hex hbc hK hP 1 0 rfl rfl (by decide) (by omega) rfl dX5_told_62 ?_
    exact g_iret hex hbc hrt hlocks hK hP hD hS ⟨⟨_, rfl, by unfold TD_; refine ⟨fun h => ?_, fun h => ?_, fun h => ?_, fun h => ⟨fun hl => ?_, fun hl => ?_⟩, fun h => ⟨fun hl => ?_, fun hl => ?_⟩, fun h => ⟨fun hl => ?_, fun hl => ?_⟩, fun h => ?_, fun h => ?_⟩ <;> first | (exfalso; omega) | rfl | contradiction⟩, ⟨rfl, rfl, rfl, rfl, rfl⟩⟩ dX5_told_63
  by_cases cs1_3 : x = 3
  · refine zt_nm (a := x) (b := 3) cs1_3 ?_
    refine lv_tableIn (off := 63) (tgt := 64) hex hbc dX5_told_1 (by decide) (by decide) rfl (by decide) ?_
    refine lv_aload_n hex hbc dX5_told_64 rfl (lv_at hl 0 rfl) ?_
    refine g_calli [] ⟨hex, hbc, hml, hown, hts⟩ (mX5_isLaid l G cx a σ  hI) (cwV 0 hts gX5_told_X5_isLaid rfl rfl rfl (by decide +kernel) ⟨Nat.le_of_ble_eq_true rfl, Nat.le_of_ble_eq_true rfl⟩) hK hP hD hS (fun _ h => h) 0 5 rfl rfl rfl rfl hl.1 (Nat.le_of_ble_eq_true rfl) dX5_told_65 ⟨Nat.zero_le _, Nat.zero_le _⟩ (fun r_65 u_65 H locs hw_65 hP hD hS hz_65 hk_65 => ?_)
    obtain ⟨⟨vb65, rfl, hv65⟩, f2_65, f5_65, f6_65, f7_65, f8_65, hf2_65, hbu_65, hst_65, rfl⟩ := hw_65
    have hP : va_P G vwCl (wm cx a (sc (sc (sc (sc (sc σ 2 f2_65) 5 f5_65) 6 f6_65) 7 f7_65) 8 f8_65)) H := hP
    have hD : va_D (MA a) (wm cx a (sc (sc (sc (sc (sc σ 2 f2_65) 5 f5_65) 6 f6_65) 7 f7_65) 8 f8_65)) := hD
    refine zt_ifb_eq (P := (lay_ (σ 0))) (tgt := 75) hex hbc hv65 dX5_told_68 (by decide) (fun c68 => ?_) (fun c68 => ?_)
    · skip
      refine lv_iconst (v := iI 0) hex hbc dX5_told_75 rfl ?_
      exact g_iret hex hbc hrt hlocks hK hP hD hS ⟨⟨_, rfl, by unfold TD_; refine ⟨fun h => ?_, fun h => ?_, fun h => ?_, fun h => ⟨fun hl => ?_, fun hl => ?_⟩, fun h => ⟨fun hl => ?_, fun hl => ?_⟩, fun h => ⟨fun hl => ?_, fun hl => ?_⟩, fun h => ?_, fun h => ?_⟩ <;> first | (exfalso; omega) | rfl | contradiction⟩, ⟨rfl, rfl, hf2_65.1, hf2_65.2, rfl⟩⟩ dX5_told_76
    · skip
      refine lv_iconst (v := iI 1) hex hbc dX5_told_71 rfl ?_
      refine lv_goto (tgt := 76) hex hbc dX5_told_72 (by decide) ?_
      exact g_iret hex hbc hrt hlocks hK hP hD hS ⟨⟨_, rfl, by unfold TD_; refine ⟨fun h => ?_, fun h => ?_, fun h => ?_, fun h => ⟨fun hl => ?_, fun hl => ?_⟩, fun h => ⟨fun hl => ?_, fun hl => ?_⟩, fun h => ⟨fun hl => ?_, fun hl => ?_⟩, fun h => ?_, fun h => ?_⟩ <;> first | (exfalso; omega) | rfl | contradiction⟩, ⟨rfl, rfl, hf2_65.1, hf2_65.2, rfl⟩⟩ dX5_told_76
  by_cases cs1_4 : x = 4
  · refine zt_nm (a := x) (b := 4) cs1_4 ?_
    refine lv_tableIn (off := 76) (tgt := 77) hex hbc dX5_told_1 (by decide) (by decide) rfl (by decide) ?_
    refine lv_aload_n hex hbc dX5_told_77 rfl (lv_at hl 0 rfl) ?_
    refine g_calli [] ⟨hex, hbc, hml, hown, hts⟩ (mX5_beyond l G cx a σ  hI) (cwV 0 hts gX5_told_X5_beyond rfl rfl rfl (by decide +kernel) ⟨Nat.le_of_ble_eq_true rfl, Nat.le_of_ble_eq_true rfl⟩) hK hP hD hS (fun _ h => h) 0 5 rfl rfl rfl rfl hl.1 (Nat.le_of_ble_eq_true rfl) dX5_told_78 ⟨Nat.zero_le _, Nat.zero_le _⟩ (fun r_78 u_78 H locs hw_78 hP hD hS hz_78 hk_78 => ?_)
    obtain ⟨⟨hra78, hrb78⟩, f2_78, f5_78, f6_78, f7_78, f8_78, hf2_78, rfl⟩ := hw_78
    have hP : va_P G vwCl (wm cx a (sc (sc (sc (sc (sc σ 2 f2_78) 5 f5_78) 6 f6_78) 7 f7_78) 8 f8_78)) H := hP
    have hD : va_D (MA a) (wm cx a (sc (sc (sc (sc (sc σ 2 f2_78) 5 f5_78) 6 f6_78) 7 f7_78) 8 f8_78)) := hD
    exact g_iret hex hbc hrt hlocks hK hP hD hS ⟨(Classical.em (lay_ (σ 0))).elim (fun hl0 => ⟨_, hra78 hl0, by unfold TD_; refine ⟨fun h => ?_, fun h => ?_, fun h => ?_, fun h => ⟨fun hl => ?_, fun hl => ?_⟩, fun h => ⟨fun hl => ?_, fun hl => ?_⟩, fun h => ⟨fun hl => ?_, fun hl => ?_⟩, fun h => ?_, fun h => ?_⟩ <;> first | (exfalso; omega) | rfl | contradiction⟩) (fun hl0 => ⟨_, hrb78 hl0, by unfold TD_; refine ⟨fun h => ?_, fun h => ?_, fun h => ?_, fun h => ⟨fun hl => ?_, fun hl => ?_⟩, fun h => ⟨fun hl => ?_, fun hl => ?_⟩, fun h => ⟨fun hl => ?_, fun hl => ?_⟩, fun h => ?_, fun h => ?_⟩ <;> first | (exfalso; omega) | rfl | contradiction⟩), ⟨rfl, rfl, hf2_78.1, hf2_78.2, rfl⟩⟩ dX5_told_81
  by_cases cs1_5 : x = 5
  · refine zt_nm (a := x) (b := 5) cs1_5 ?_
    refine lv_tableIn (off := 81) (tgt := 82) hex hbc dX5_told_1 (by decide) (by decide) rfl (by decide) ?_
    refine lv_aload_n hex hbc dX5_told_82 rfl (lv_at hl 0 rfl) ?_
    refine g_calli [] ⟨hex, hbc, hml, hown, hts⟩ (mX5_fades l G cx a σ  hI) (cwV 0 hts gX5_told_X5_fades rfl rfl rfl (by decide +kernel) ⟨Nat.le_of_ble_eq_true rfl, Nat.le_of_ble_eq_true rfl⟩) hK hP hD hS (fun _ h => h) 0 5 rfl rfl rfl rfl hl.1 (Nat.le_of_ble_eq_true rfl) dX5_told_83 ⟨Nat.zero_le _, Nat.zero_le _⟩ (fun r_83 u_83 H locs hw_83 hP hD hS hz_83 hk_83 => ?_)
    obtain ⟨⟨hra83, hrb83⟩, f2_83, f5_83, f6_83, f7_83, f8_83, hf2_83, rfl⟩ := hw_83
    have hP : va_P G vwCl (wm cx a (sc (sc (sc (sc (sc σ 2 f2_83) 5 f5_83) 6 f6_83) 7 f7_83) 8 f8_83)) H := hP
    have hD : va_D (MA a) (wm cx a (sc (sc (sc (sc (sc σ 2 f2_83) 5 f5_83) 6 f6_83) 7 f7_83) 8 f8_83)) := hD
    exact g_iret hex hbc hrt hlocks hK hP hD hS ⟨(Classical.em (lay_ (σ 0))).elim (fun hl0 => ⟨_, hra83 hl0, by unfold TD_; refine ⟨fun h => ?_, fun h => ?_, fun h => ?_, fun h => ⟨fun hl => ?_, fun hl => ?_⟩, fun h => ⟨fun hl => ?_, fun hl => ?_⟩, fun h => ⟨fun hl => ?_, fun hl => ?_⟩, fun h => ?_, fun h => ?_⟩ <;> first | (exfalso; omega) | rfl | contradiction⟩) (fun hl0 => ⟨_, hrb83 hl0, by unfold TD_; refine ⟨fun h => ?_, fun h => ?_, fun h => ?_, fun h => ⟨fun hl => ?_, fun hl => ?_⟩, fun h => ⟨fun hl => ?_, fun hl => ?_⟩, fun h => ⟨fun hl => ?_, fun hl => ?_⟩, fun h => ?_, fun h => ?_⟩ <;> first | (exfalso; omega) | rfl | contradiction⟩), ⟨rfl, rfl, hf2_83.1, hf2_83.2, rfl⟩⟩ dX5_told_86
  have cs1_6 : x = 6 := by omega
  refine zt_nm (a := x) (b := 6) cs1_6 ?_
  refine lv_tableIn (off := 86) (tgt := 87) hex hbc dX5_told_1 (by decide) (by decide) rfl (by decide) ?_
  refine lv_aload_n hex hbc dX5_told_87 rfl (lv_at hl 0 rfl) ?_
  refine va_get (v := .int (iI (σ 2 0))) hex hbc hts hin5 hown hK hP 0 rfl rfl 2 (by decide) (hts _ (List.mem_of_getElem? (i := 2) rfl)) (fun _ h => h) rfl dX5_told_88 ?_
  exact g_iret hex hbc hrt hlocks hK hP hD hS ⟨⟨_, rfl, by unfold TD_; refine ⟨fun h => ?_, fun h => ?_, fun h => ?_, fun h => ⟨fun hl => ?_, fun hl => ?_⟩, fun h => ⟨fun hl => ?_, fun hl => ?_⟩, fun h => ⟨fun hl => ?_, fun hl => ?_⟩, fun h => ?_, fun h => ?_⟩ <;> first | (exfalso; omega) | rfl | contradiction⟩, ⟨rfl, rfl, rfl, rfl, rfl⟩⟩ dX5_told_91
theorem iX5_slice_X5 : ∀ w ∈ wsX50, w ∈ wsX5_slice := fun _ h => List.mem_cons_of_mem _ (List.mem_append_right _ h)
set_option maxHeartbeats 4000000 in
set_option maxRecDepth 100000 in
theorem mX5_slice (l : Launch) (G : va_G) (cx a : Nat → Nat) (σ : Nat → Int → Int)  (x1 : Int) (x2 : Int) (h1 : -2147483648 ≤ x1 ∧ x1 < 2147483648) (h2 : -2147483648 ≤ x2 ∧ x2 < 2147483648) (hI : Inv (σ 0)) : Met l yX5_slice wsX5_slice ({ frames := 6, cells := 0, slots := 0, locals := 141 }) (va_Pc [.ref (a 0), .int (iI x1), .int (iI x2)] (gW G (tm cx) (MA a) (wm cx a) σ)) (va_Qi (fun r u => (∃ v, iI v = r ∧ SL_ (σ 0) x1 x2 v) ∧ MQ_ σ u) (gW G (tm cx) (MA a) (wm cx a)) (MA a)) 0 0 (MA a) := by
  refine Met.ofW (cc := cX5_slice) (maxL := 3) (ret := some .int) (by decide) rfl ?_
  intro p e s m args below meth c s₁ B hml hv
  obtain ⟨rfl, hP, hK, hD⟩ := hv
  have hex := B.exec
  have hbc := B.bytes
  have hrt := B.returns
  have hts := atoms_spec (ws := wsX5_slice) B.pre
  have hown : s.vm.findClass RX5 = some m.cls := findClass_of_methodNamed B.named
  have hlocks := B.notSynchronized
  have hS : va_S (MA a) s.heap s.heap [] := va_S.rf
  have hin5 := iX5_slice_X5
  have hl := lv_entry ([.ref (a 0), .int (iI x1), .int (iI x2)]) (n := 3) (Nat.le_of_ble_eq_true rfl)
  rw [lg_entry_eq]
  generalize (lg_sl ([.ref (a 0), .int (iI x1), .int (iI x2)]) ++ List.replicate (3 - (lg_sl ([.ref (a 0), .int (iI x1), .int (iI x2)])).length) Slot.unset).toArray = ls at hl ⊢
  have hl : lv_has ls 3 [(0, .ref (a 0)), (1, .int (iI x1)), (2, .int (iI x2))] := hl
  obtain ⟨hB, hEn, hMk, hAs, hPm⟩ := id hI
  refine lv_aload_n hex hbc dX5_slice_0 rfl (lv_at hl 0 rfl) ?_
  refine lv_iload_n hex hbc dX5_slice_1 rfl (lv_at hl 1 rfl) ?_
  refine g_calli [.int (iI x1)] ⟨hex, hbc, hml, hown, hts⟩ (mX5_isSlice l G cx a σ x1 (by omega) hI) (cwV 1 hts gX5_slice_X5_isSlice rfl rfl rfl (by decide +kernel) ⟨Nat.le_of_ble_eq_true rfl, Nat.le_of_ble_eq_true rfl⟩) hK hP hD hS (fun _ h => h) 0 5 rfl rfl rfl rfl hl.1 (Nat.le_of_ble_eq_true rfl) dX5_slice_2 ⟨Nat.zero_le _, Nat.zero_le _⟩ (fun r_2 u_2 H locs hw_2 hP hD hS hz_2 hk_2 => ?_)
  obtain ⟨rfl, vb2, rfl, hv2⟩ := hw_2
  refine zt_ifb_eq (P := (0 ≤ x1 ∧ x1 < σ 0 74)) (tgt := 18) hex hbc hv2 dX5_slice_5 (by decide) (fun c5 => ?_) (fun c5 => ?_)
  · skip
    refine lv_iconst (v := iI (-1)) hex hbc dX5_slice_18 rfl ?_
    exact g_iret hex hbc hrt hlocks hK hP hD hS ⟨⟨_, rfl, by unfold SL_; refine ⟨fun h => ?_, fun h0 => ⟨fun h => ?_, fun h => ?_, fun h => ⟨fun hl => ?_, fun hl => ?_⟩, fun h => ⟨fun hl => ?_, fun hl => ?_⟩, fun h => ⟨fun hl => ?_, fun hl => ?_⟩, fun h => ?_, fun h => ⟨fun hl => ?_, fun hl => ?_⟩, fun h => ?_⟩⟩ <;> first | (exfalso; omega) | rfl | contradiction | (exact absurd hl.1 (by assumption)) | (exact absurd ⟨by assumption, by assumption⟩ hl) | (exfalso; exact hl.2 (by assumption)) | (rw [plcf_eq (w := σ 0) (by assumption)]; first | done | rfl)⟩, ⟨rfl, rfl, rfl, rfl, rfl⟩⟩ dX5_slice_19
  · skip
    refine lv_iload_n hex hbc dX5_slice_8 rfl (lv_at hl 2 rfl) ?_
    refine lv_iconst (v := iI 0) hex hbc dX5_slice_9 rfl ?_
    refine lv_bipush (v := iI 7) hex hbc dX5_slice_10 (by decide) ?_
    refine g_callS [.int (iI x2), .int (iI 0), .int (iI 7)] ⟨hex, hbc, hml, hown, hts⟩ (mX5_isIn l x2 0 7 (by omega) (by omega) (by omega)) (va_cwS 3 hts gX5_slice_X5_isIn rfl rfl rfl (by decide +kernel) ⟨Nat.le_of_ble_eq_true rfl, Nat.le_of_ble_eq_true rfl⟩) hP hS rfl rfl hl.1 (Nat.le_of_ble_eq_true rfl) dX5_slice_12 ⟨Nat.zero_le _, Nat.zero_le _⟩ (fun r_12 H locs hw_12 hP hS => ?_)
    obtain ⟨vb12, rfl, hv12⟩ := hw_12
    refine zt_ifb_ne (P := (0 ≤ x2 ∧ x2 ≤ 7)) (tgt := 20) hex hbc hv12 dX5_slice_15 (by decide) (fun c15 => ?_) (fun c15 => ?_)
    · skip
      refine lv_iload_n hex hbc dX5_slice_20 rfl (lv_at hl 2 rfl) ?_
      by_cases cs21 : x2 < 0 ∨ 7 < x2
      · refine lv_tableOut (tgt := 92) hex hbc dX5_slice_21 (by rw [iI_toInt (by omega)]; exact cs21) (by decide) ?_
        refine lv_aload_n hex hbc dX5_slice_92 rfl (lv_at hl 0 rfl) ?_
        refine g_calli [] ⟨hex, hbc, hml, hown, hts⟩ (mX5_isLaid l G cx a σ  hI) (cwV 0 hts gX5_slice_X5_isLaid rfl rfl rfl (by decide +kernel) ⟨Nat.le_of_ble_eq_true rfl, Nat.le_of_ble_eq_true rfl⟩) hK hP hD hS (fun _ h => h) 0 5 rfl rfl rfl rfl hl.1 (Nat.le_of_ble_eq_true rfl) dX5_slice_93 ⟨Nat.zero_le _, Nat.zero_le _⟩ (fun r_93 u_93 H locs hw_93 hP hD hS hz_93 hk_93 => ?_)
        obtain ⟨⟨vb93, rfl, hv93⟩, f2_93, f5_93, f6_93, f7_93, f8_93, hf2_93, hbu_93, hst_93, rfl⟩ := hw_93
        have hP : va_P G vwCl (wm cx a (sc (sc (sc (sc (sc σ 2 f2_93) 5 f5_93) 6 f6_93) 7 f7_93) 8 f8_93)) H := hP
        have hD : va_D (MA a) (wm cx a (sc (sc (sc (sc (sc σ 2 f2_93) 5 f5_93) 6 f6_93) 7 f7_93) 8 f8_93)) := hD
        refine zt_ifb_ne (P := (lay_ (σ 0))) (tgt := 102) hex hbc hv93 dX5_slice_96 (by decide) (fun c96 => ?_) (fun c96 => ?_)
        · skip
          have hlay : lay_ (σ 0) := c96
          have hbud := hbu_93 hlay
          refine lv_iload_n hex hbc dX5_slice_102 rfl (lv_at hl 2 rfl) ?_
          by_cases cs103 : x2 < 2 ∨ 4 < x2
          · refine lv_tableOut (tgt := 163) hex hbc dX5_slice_103 (by rw [iI_toInt (by omega)]; exact cs103) (by decide) ?_
            refine lv_aload_n hex hbc dX5_slice_163 rfl (lv_at hl 0 rfl) ?_
            refine lv_iload_n hex hbc dX5_slice_164 rfl (lv_at hl 1 rfl) ?_
            refine g_calli [.int (iI x1)] ⟨hex, hbc, hml, hown, hts⟩ (mX5_fadeOf l G cx a (sc (sc (sc (sc (sc σ 2 f2_93) 5 f5_93) 6 f6_93) 7 f7_93) 8 f8_93) x1 (show 0 ≤ x1 ∧ x1 < σ 0 74 from by omega) hlay hbud hI) (cwV 1 hts gX5_slice_X5_fadeOf rfl rfl rfl (by decide +kernel) ⟨Nat.le_of_ble_eq_true rfl, Nat.le_of_ble_eq_true rfl⟩) hK hP hD hS (fun _ h => h) 0 5 rfl rfl rfl rfl hl.1 (Nat.le_of_ble_eq_true rfl) dX5_slice_165 ⟨Nat.zero_le _, Nat.zero_le _⟩ (fun r_165 u_165 H locs hw_165 hP hD hS hz_165 hk_165 => ?_)
            obtain ⟨rfl, rfl⟩ := hw_165
            exact g_iret hex hbc hrt hlocks hK hP hD hS ⟨⟨_, rfl, by unfold SL_; refine ⟨fun h => ?_, fun h0 => ⟨fun h => ?_, fun h => ?_, fun h => ⟨fun hl => ?_, fun hl => ?_⟩, fun h => ⟨fun hl => ?_, fun hl => ?_⟩, fun h => ⟨fun hl => ?_, fun hl => ?_⟩, fun h => ?_, fun h => ⟨fun hl => ?_, fun hl => ?_⟩, fun h => ?_⟩⟩ <;> first | (exfalso; omega) | rfl | contradiction | (exact absurd hl.1 (by assumption)) | (exact absurd ⟨by assumption, by assumption⟩ hl) | (exfalso; exact hl.2 (by assumption)) | (rw [plcf_eq (w := σ 0) (by assumption)]; first | done | rfl)⟩, ⟨rfl, rfl, hf2_93.1, hf2_93.2, rfl⟩⟩ dX5_slice_168
          by_cases cs103_2 : x2 = 2
          · refine zt_nm (a := x2) (b := 2) cs103_2 ?_
            refine lv_tableIn (off := 25) (tgt := 128) hex hbc dX5_slice_103 (by decide) (by decide) rfl (by decide) ?_
            refine lv_aload_n hex hbc dX5_slice_128 rfl (lv_at hl 0 rfl) ?_
            refine va_get (v := .ref (a 5)) hex hbc hts hin5 hown hK hP 0 rfl rfl 6 (by decide) (hts _ (List.mem_of_getElem? (i := 1) rfl)) (fun _ h => h) rfl dX5_slice_129 ?_
            refine lv_iload_n hex hbc dX5_slice_132 rfl (lv_at hl 1 rfl) ?_
            refine g_iald (f := f5_93) (v := (f5_93 x1)) (i := x1) hex hbc hK hP 5 0 rfl rfl (by decide) (by omega) rfl dX5_slice_133 ?_
            refine zt_nm (a := (f5_93 x1)) (b := (bud (σ 0) x1)) (hbud x1 c5.1 c5.2) ?_
            exact g_iret hex hbc hrt hlocks hK hP hD hS ⟨⟨_, rfl, by unfold SL_; refine ⟨fun h => ?_, fun h0 => ⟨fun h => ?_, fun h => ?_, fun h => ⟨fun hl => ?_, fun hl => ?_⟩, fun h => ⟨fun hl => ?_, fun hl => ?_⟩, fun h => ⟨fun hl => ?_, fun hl => ?_⟩, fun h => ?_, fun h => ⟨fun hl => ?_, fun hl => ?_⟩, fun h => ?_⟩⟩ <;> first | (exfalso; omega) | rfl | contradiction | (exact absurd hl.1 (by assumption)) | (exact absurd ⟨by assumption, by assumption⟩ hl) | (exfalso; exact hl.2 (by assumption)) | (rw [plcf_eq (w := σ 0) (by assumption)]; first | done | rfl)⟩, ⟨rfl, rfl, hf2_93.1, hf2_93.2, rfl⟩⟩ dX5_slice_134
          by_cases cs103_3 : x2 = 3
          · refine zt_nm (a := x2) (b := 3) cs103_3 ?_
            refine lv_tableIn (off := 32) (tgt := 135) hex hbc dX5_slice_103 (by decide) (by decide) rfl (by decide) ?_
            refine lv_aload_n hex hbc dX5_slice_135 rfl (lv_at hl 0 rfl) ?_
            refine va_get (v := .ref (a 1)) hex hbc hts hin5 hown hK hP 0 rfl rfl 0 (by decide) (hts _ (List.mem_of_getElem? (i := 2) rfl)) (fun _ h => h) rfl dX5_slice_136 ?_
            refine lv_bipush (v := iI 8) hex hbc dX5_slice_139 (by decide) ?_
            refine g_iald (f := (σ 0)) (v := (σ 0 8)) (i := 8) hex hbc hK hP 1 0 rfl rfl (by decide) (by omega) rfl dX5_slice_141 ?_
            refine zt_if_ne (a := (σ 0 8)) (tgt := 150) hex hbc (by omega) dX5_slice_142 (by decide) (fun c142 => ?_) (fun c142 => ?_)
            · skip
              refine lv_aload_n hex hbc dX5_slice_150 rfl (lv_at hl 0 rfl) ?_
              refine va_get (v := .ref (a 6)) hex hbc hts hin5 hown hK hP 0 rfl rfl 7 (by decide) (hts _ (List.mem_of_getElem? (i := 3) rfl)) (fun _ h => h) rfl dX5_slice_151 ?_
              refine lv_iload_n hex hbc dX5_slice_154 rfl (lv_at hl 1 rfl) ?_
              refine g_iald (f := f6_93) (v := (f6_93 x1)) (i := x1) hex hbc hK hP 6 0 rfl rfl (by decide) (by omega) rfl dX5_slice_155 ?_
              refine zt_nm (a := (f6_93 x1)) (b := (stp (σ 0) (σ 0 6) (σ 0 7) x1)) (hst_93 hlay c142 x1 c5.1 c5.2) ?_
              exact g_iret hex hbc hrt hlocks hK hP hD hS ⟨⟨_, rfl, by unfold SL_; refine ⟨fun h => ?_, fun h0 => ⟨fun h => ?_, fun h => ?_, fun h => ⟨fun hl => ?_, fun hl => ?_⟩, fun h => ⟨fun hl => ?_, fun hl => ?_⟩, fun h => ⟨fun hl => ?_, fun hl => ?_⟩, fun h => ?_, fun h => ⟨fun hl => ?_, fun hl => ?_⟩, fun h => ?_⟩⟩ <;> first | (exfalso; omega) | rfl | contradiction | (exact absurd hl.1 (by assumption)) | (exact absurd ⟨by assumption, by assumption⟩ hl) | (exfalso; exact hl.2 (by assumption)) | (rw [plcf_eq (w := σ 0) (by assumption)]; first | done | rfl)⟩, ⟨rfl, rfl, hf2_93.1, hf2_93.2, rfl⟩⟩ dX5_slice_156
            · skip
              refine lv_bipush (v := iI (-9)) hex hbc dX5_slice_145 (by decide) ?_
              refine lv_goto (tgt := 156) hex hbc dX5_slice_147 (by decide) ?_
              exact g_iret hex hbc hrt hlocks hK hP hD hS ⟨⟨_, rfl, by unfold SL_; refine ⟨fun h => ?_, fun h0 => ⟨fun h => ?_, fun h => ?_, fun h => ⟨fun hl => ?_, fun hl => ?_⟩, fun h => ⟨fun hl => ?_, fun hl => ?_⟩, fun h => ⟨fun hl => ?_, fun hl => ?_⟩, fun h => ?_, fun h => ⟨fun hl => ?_, fun hl => ?_⟩, fun h => ?_⟩⟩ <;> first | (exfalso; omega) | rfl | contradiction | (exact absurd hl.1 (by assumption)) | (exact absurd ⟨by assumption, by assumption⟩ hl) | (exfalso; exact hl.2 (by assumption)) | (rw [plcf_eq (w := σ 0) (by assumption)]; first | done | rfl)⟩, ⟨rfl, rfl, hf2_93.1, hf2_93.2, rfl⟩⟩ dX5_slice_156
          have cs103_4 : x2 = 4 := by omega
          refine zt_nm (a := x2) (b := 4) cs103_4 ?_
          refine lv_tableIn (off := 54) (tgt := 157) hex hbc dX5_slice_103 (by decide) (by decide) rfl (by decide) ?_
          refine lv_aload_n hex hbc dX5_slice_157 rfl (lv_at hl 0 rfl) ?_
          refine lv_iload_n hex hbc dX5_slice_158 rfl (lv_at hl 1 rfl) ?_
          refine g_calli [.int (iI x1)] ⟨hex, hbc, hml, hown, hts⟩ (mX5_beginOf l G cx a (sc (sc (sc (sc (sc σ 2 f2_93) 5 f5_93) 6 f6_93) 7 f7_93) 8 f8_93) x1 (show 0 ≤ x1 ∧ x1 < σ 0 74 from by omega) hlay hbud hI) (cwV 1 hts gX5_slice_X5_beginOf rfl rfl rfl (by decide +kernel) ⟨Nat.le_of_ble_eq_true rfl, Nat.le_of_ble_eq_true rfl⟩) hK hP hD hS (fun _ h => h) 0 5 rfl rfl rfl rfl hl.1 (Nat.le_of_ble_eq_true rfl) dX5_slice_159 ⟨Nat.zero_le _, Nat.zero_le _⟩ (fun r_159 u_159 H locs hw_159 hP hD hS hz_159 hk_159 => ?_)
          obtain ⟨rfl, p159, hp159, rfl⟩ := hw_159
          exact g_iret hex hbc hrt hlocks hK hP hD hS ⟨⟨_, rfl, by unfold SL_; refine ⟨fun h => ?_, fun h0 => ⟨fun h => ?_, fun h => ?_, fun h => ⟨fun hl => ?_, fun hl => ?_⟩, fun h => ⟨fun hl => ?_, fun hl => ?_⟩, fun h => ⟨fun hl => ?_, fun hl => ?_⟩, fun h => ?_, fun h => ⟨fun hl => ?_, fun hl => ?_⟩, fun h => ?_⟩⟩ <;> first | (exfalso; omega) | rfl | contradiction | (exact absurd hl.1 (by assumption)) | (exact absurd ⟨by assumption, by assumption⟩ hl) | (exfalso; exact hl.2 (by assumption)) | (rw [plcf_eq (w := σ 0) (by assumption)]; first | done | rfl)⟩, ⟨rfl, rfl, hf2_93.1, hf2_93.2, rfl⟩⟩ dX5_slice_162
        · skip
          refine lv_bipush (v := iI (-9)) hex hbc dX5_slice_99 (by decide) ?_
          exact g_iret hex hbc hrt hlocks hK hP hD hS ⟨⟨_, rfl, by unfold SL_; refine ⟨fun h => ?_, fun h0 => ⟨fun h => ?_, fun h => ?_, fun h => ⟨fun hl => ?_, fun hl => ?_⟩, fun h => ⟨fun hl => ?_, fun hl => ?_⟩, fun h => ⟨fun hl => ?_, fun hl => ?_⟩, fun h => ?_, fun h => ⟨fun hl => ?_, fun hl => ?_⟩, fun h => ?_⟩⟩ <;> first | (exfalso; omega) | rfl | contradiction | (exact absurd hl.1 (by assumption)) | (exact absurd ⟨by assumption, by assumption⟩ hl) | (exfalso; exact hl.2 (by assumption)) | (rw [plcf_eq (w := σ 0) (by assumption)]; first | done | rfl)⟩, ⟨rfl, rfl, hf2_93.1, hf2_93.2, rfl⟩⟩ dX5_slice_101
      by_cases cs21_0 : x2 = 0
      · refine zt_nm (a := x2) (b := 0) cs21_0 ?_
        refine lv_tableIn (off := 47) (tgt := 68) hex hbc dX5_slice_21 (by decide) (by decide) rfl (by decide) ?_
        refine lv_aload_n hex hbc dX5_slice_68 rfl (lv_at hl 0 rfl) ?_
        refine lv_iload_n hex hbc dX5_slice_69 rfl (lv_at hl 1 rfl) ?_
        refine g_calli [.int (iI x1)] ⟨hex, hbc, hml, hown, hts⟩ (mX5_frameOf l G cx a σ x1 (by omega) hI) (cwV 1 hts gX5_slice_X5_frameOf rfl rfl rfl (by decide +kernel) ⟨Nat.le_of_ble_eq_true rfl, Nat.le_of_ble_eq_true rfl⟩) hK hP hD hS (fun _ h => h) 0 5 rfl rfl rfl rfl hl.1 (Nat.le_of_ble_eq_true rfl) dX5_slice_70 ⟨Nat.zero_le _, Nat.zero_le _⟩ (fun r_70 u_70 H locs hw_70 hP hD hS hz_70 hk_70 => ?_)
        obtain ⟨rfl, rfl⟩ := hw_70
        exact g_iret hex hbc hrt hlocks hK hP hD hS ⟨⟨_, rfl, by unfold SL_; refine ⟨fun h => ?_, fun h0 => ⟨fun h => ?_, fun h => ?_, fun h => ⟨fun hl => ?_, fun hl => ?_⟩, fun h => ⟨fun hl => ?_, fun hl => ?_⟩, fun h => ⟨fun hl => ?_, fun hl => ?_⟩, fun h => ?_, fun h => ⟨fun hl => ?_, fun hl => ?_⟩, fun h => ?_⟩⟩ <;> first | (exfalso; omega) | rfl | contradiction | (exact absurd hl.1 (by assumption)) | (exact absurd ⟨by assumption, by assumption⟩ hl) | (exfalso; exact hl.2 (by assumption)) | (rw [plcf_eq (w := σ 0) (by assumption)]; first | done | rfl)⟩, ⟨rfl, rfl, rfl, rfl, rfl⟩⟩ dX5_slice_73
      by_cases cs21_1 : x2 = 1
      · refine zt_nm (a := x2) (b := 1) cs21_1 ?_
        refine lv_tableIn (off := 53) (tgt := 74) hex hbc dX5_slice_21 (by decide) (by decide) rfl (by decide) ?_
        refine lv_aload_n hex hbc dX5_slice_74 rfl (lv_at hl 0 rfl) ?_
        refine lv_iload_n hex hbc dX5_slice_75 rfl (lv_at hl 1 rfl) ?_
        refine g_calli [.int (iI x1)] ⟨hex, hbc, hml, hown, hts⟩ (mX5_lengthOf l G cx a σ x1 (by omega) hI) (cwV 1 hts gX5_slice_X5_lengthOf rfl rfl rfl (by decide +kernel) ⟨Nat.le_of_ble_eq_true rfl, Nat.le_of_ble_eq_true rfl⟩) hK hP hD hS (fun _ h => h) 0 5 rfl rfl rfl rfl hl.1 (Nat.le_of_ble_eq_true rfl) dX5_slice_76 ⟨Nat.zero_le _, Nat.zero_le _⟩ (fun r_76 u_76 H locs hw_76 hP hD hS hz_76 hk_76 => ?_)
        obtain ⟨rfl, rfl⟩ := hw_76
        exact g_iret hex hbc hrt hlocks hK hP hD hS ⟨⟨_, rfl, by unfold SL_; refine ⟨fun h => ?_, fun h0 => ⟨fun h => ?_, fun h => ?_, fun h => ⟨fun hl => ?_, fun hl => ?_⟩, fun h => ⟨fun hl => ?_, fun hl => ?_⟩, fun h => ⟨fun hl => ?_, fun hl => ?_⟩, fun h => ?_, fun h => ⟨fun hl => ?_, fun hl => ?_⟩, fun h => ?_⟩⟩ <;> first | (exfalso; omega) | rfl | contradiction | (exact absurd hl.1 (by assumption)) | (exact absurd ⟨by assumption, by assumption⟩ hl) | (exfalso; exact hl.2 (by assumption)) | (rw [plcf_eq (w := σ 0) (by assumption)]; first | done | rfl)⟩, ⟨rfl, rfl, rfl, rfl, rfl⟩⟩ dX5_slice_79
      by_cases cs21_2 : x2 = 2
      · refine zt_nm (a := x2) (b := 2) cs21_2 ?_
        refine lv_tableIn (off := 71) (tgt := 92) hex hbc dX5_slice_21 (by decide) (by decide) rfl (by decide) ?_
        refine lv_aload_n hex hbc dX5_slice_92 rfl (lv_at hl 0 rfl) ?_
        refine g_calli [] ⟨hex, hbc, hml, hown, hts⟩ (mX5_isLaid l G cx a σ  hI) (cwV 0 hts gX5_slice_X5_isLaid rfl rfl rfl (by decide +kernel) ⟨Nat.le_of_ble_eq_true rfl, Nat.le_of_ble_eq_true rfl⟩) hK hP hD hS (fun _ h => h) 0 5 rfl rfl rfl rfl hl.1 (Nat.le_of_ble_eq_true rfl) dX5_slice_93 ⟨Nat.zero_le _, Nat.zero_le _⟩ (fun r_93 u_93 H locs hw_93 hP hD hS hz_93 hk_93 => ?_)
        obtain ⟨⟨vb93, rfl, hv93⟩, f2_93, f5_93, f6_93, f7_93, f8_93, hf2_93, hbu_93, hst_93, rfl⟩ := hw_93
        have hP : va_P G vwCl (wm cx a (sc (sc (sc (sc (sc σ 2 f2_93) 5 f5_93) 6 f6_93) 7 f7_93) 8 f8_93)) H := hP
        have hD : va_D (MA a) (wm cx a (sc (sc (sc (sc (sc σ 2 f2_93) 5 f5_93) 6 f6_93) 7 f7_93) 8 f8_93)) := hD
        refine zt_ifb_ne (P := (lay_ (σ 0))) (tgt := 102) hex hbc hv93 dX5_slice_96 (by decide) (fun c96 => ?_) (fun c96 => ?_)
        · skip
          have hlay : lay_ (σ 0) := c96
          have hbud := hbu_93 hlay
          refine lv_iload_n hex hbc dX5_slice_102 rfl (lv_at hl 2 rfl) ?_
          by_cases cs103 : x2 < 2 ∨ 4 < x2
          · refine lv_tableOut (tgt := 163) hex hbc dX5_slice_103 (by rw [iI_toInt (by omega)]; exact cs103) (by decide) ?_
            refine lv_aload_n hex hbc dX5_slice_163 rfl (lv_at hl 0 rfl) ?_
            refine lv_iload_n hex hbc dX5_slice_164 rfl (lv_at hl 1 rfl) ?_
            refine g_calli [.int (iI x1)] ⟨hex, hbc, hml, hown, hts⟩ (mX5_fadeOf l G cx a (sc (sc (sc (sc (sc σ 2 f2_93) 5 f5_93) 6 f6_93) 7 f7_93) 8 f8_93) x1 (show 0 ≤ x1 ∧ x1 < σ 0 74 from by omega) hlay hbud hI) (cwV 1 hts gX5_slice_X5_fadeOf rfl rfl rfl (by decide +kernel) ⟨Nat.le_of_ble_eq_true rfl, Nat.le_of_ble_eq_true rfl⟩) hK hP hD hS (fun _ h => h) 0 5 rfl rfl rfl rfl hl.1 (Nat.le_of_ble_eq_true rfl) dX5_slice_165 ⟨Nat.zero_le _, Nat.zero_le _⟩ (fun r_165 u_165 H locs hw_165 hP hD hS hz_165 hk_165 => ?_)
            obtain ⟨rfl, rfl⟩ := hw_165
            exact g_iret hex hbc hrt hlocks hK hP hD hS ⟨⟨_, rfl, by unfold SL_; refine ⟨fun h => ?_, fun h0 => ⟨fun h => ?_, fun h => ?_, fun h => ⟨fun hl => ?_, fun hl => ?_⟩, fun h => ⟨fun hl => ?_, fun hl => ?_⟩, fun h => ⟨fun hl => ?_, fun hl => ?_⟩, fun h => ?_, fun h => ⟨fun hl => ?_, fun hl => ?_⟩, fun h => ?_⟩⟩ <;> first | (exfalso; omega) | rfl | contradiction | (exact absurd hl.1 (by assumption)) | (exact absurd ⟨by assumption, by assumption⟩ hl) | (exfalso; exact hl.2 (by assumption)) | (rw [plcf_eq (w := σ 0) (by assumption)]; first | done | rfl)⟩, ⟨rfl, rfl, hf2_93.1, hf2_93.2, rfl⟩⟩ dX5_slice_168
          by_cases cs103_2 : x2 = 2
          · refine zt_nm (a := x2) (b := 2) cs103_2 ?_
            refine lv_tableIn (off := 25) (tgt := 128) hex hbc dX5_slice_103 (by decide) (by decide) rfl (by decide) ?_
            refine lv_aload_n hex hbc dX5_slice_128 rfl (lv_at hl 0 rfl) ?_
            refine va_get (v := .ref (a 5)) hex hbc hts hin5 hown hK hP 0 rfl rfl 6 (by decide) (hts _ (List.mem_of_getElem? (i := 1) rfl)) (fun _ h => h) rfl dX5_slice_129 ?_
            refine lv_iload_n hex hbc dX5_slice_132 rfl (lv_at hl 1 rfl) ?_
            refine g_iald (f := f5_93) (v := (f5_93 x1)) (i := x1) hex hbc hK hP 5 0 rfl rfl (by decide) (by omega) rfl dX5_slice_133 ?_
            refine zt_nm (a := (f5_93 x1)) (b := (bud (σ 0) x1)) (hbud x1 c5.1 c5.2) ?_
            exact g_iret hex hbc hrt hlocks hK hP hD hS ⟨⟨_, rfl, by unfold SL_; refine ⟨fun h => ?_, fun h0 => ⟨fun h => ?_, fun h => ?_, fun h => ⟨fun hl => ?_, fun hl => ?_⟩, fun h => ⟨fun hl => ?_, fun hl => ?_⟩, fun h => ⟨fun hl => ?_, fun hl => ?_⟩, fun h => ?_, fun h => ⟨fun hl => ?_, fun hl => ?_⟩, fun h => ?_⟩⟩ <;> first | (exfalso; omega) | rfl | contradiction | (exact absurd hl.1 (by assumption)) | (exact absurd ⟨by assumption, by assumption⟩ hl) | (exfalso; exact hl.2 (by assumption)) | (rw [plcf_eq (w := σ 0) (by assumption)]; first | done | rfl)⟩, ⟨rfl, rfl, hf2_93.1, hf2_93.2, rfl⟩⟩ dX5_slice_134
          by_cases cs103_3 : x2 = 3
          · refine zt_nm (a := x2) (b := 3) cs103_3 ?_
            refine lv_tableIn (off := 32) (tgt := 135) hex hbc dX5_slice_103 (by decide) (by decide) rfl (by decide) ?_
            refine lv_aload_n hex hbc dX5_slice_135 rfl (lv_at hl 0 rfl) ?_
            refine va_get (v := .ref (a 1)) hex hbc hts hin5 hown hK hP 0 rfl rfl 0 (by decide) (hts _ (List.mem_of_getElem? (i := 2) rfl)) (fun _ h => h) rfl dX5_slice_136 ?_
            refine lv_bipush (v := iI 8) hex hbc dX5_slice_139 (by decide) ?_
            refine g_iald (f := (σ 0)) (v := (σ 0 8)) (i := 8) hex hbc hK hP 1 0 rfl rfl (by decide) (by omega) rfl dX5_slice_141 ?_
            refine zt_if_ne (a := (σ 0 8)) (tgt := 150) hex hbc (by omega) dX5_slice_142 (by decide) (fun c142 => ?_) (fun c142 => ?_)
            · skip
              refine lv_aload_n hex hbc dX5_slice_150 rfl (lv_at hl 0 rfl) ?_
              refine va_get (v := .ref (a 6)) hex hbc hts hin5 hown hK hP 0 rfl rfl 7 (by decide) (hts _ (List.mem_of_getElem? (i := 3) rfl)) (fun _ h => h) rfl dX5_slice_151 ?_
              refine lv_iload_n hex hbc dX5_slice_154 rfl (lv_at hl 1 rfl) ?_
              refine g_iald (f := f6_93) (v := (f6_93 x1)) (i := x1) hex hbc hK hP 6 0 rfl rfl (by decide) (by omega) rfl dX5_slice_155 ?_
              refine zt_nm (a := (f6_93 x1)) (b := (stp (σ 0) (σ 0 6) (σ 0 7) x1)) (hst_93 hlay c142 x1 c5.1 c5.2) ?_
              exact g_iret hex hbc hrt hlocks hK hP hD hS ⟨⟨_, rfl, by unfold SL_; refine ⟨fun h => ?_, fun h0 => ⟨fun h => ?_, fun h => ?_, fun h => ⟨fun hl => ?_, fun hl => ?_⟩, fun h => ⟨fun hl => ?_, fun hl => ?_⟩, fun h => ⟨fun hl => ?_, fun hl => ?_⟩, fun h => ?_, fun h => ⟨fun hl => ?_, fun hl => ?_⟩, fun h => ?_⟩⟩ <;> first | (exfalso; omega) | rfl | contradiction | (exact absurd hl.1 (by assumption)) | (exact absurd ⟨by assumption, by assumption⟩ hl) | (exfalso; exact hl.2 (by assumption)) | (rw [plcf_eq (w := σ 0) (by assumption)]; first | done | rfl)⟩, ⟨rfl, rfl, hf2_93.1, hf2_93.2, rfl⟩⟩ dX5_slice_156
            · skip
              refine lv_bipush (v := iI (-9)) hex hbc dX5_slice_145 (by decide) ?_
              refine lv_goto (tgt := 156) hex hbc dX5_slice_147 (by decide) ?_
              exact g_iret hex hbc hrt hlocks hK hP hD hS ⟨⟨_, rfl, by unfold SL_; refine ⟨fun h => ?_, fun h0 => ⟨fun h => ?_, fun h => ?_, fun h => ⟨fun hl => ?_, fun hl => ?_⟩, fun h => ⟨fun hl => ?_, fun hl => ?_⟩, fun h => ⟨fun hl => ?_, fun hl => ?_⟩, fun h => ?_, fun h => ⟨fun hl => ?_, fun hl => ?_⟩, fun h => ?_⟩⟩ <;> first | (exfalso; omega) | rfl | contradiction | (exact absurd hl.1 (by assumption)) | (exact absurd ⟨by assumption, by assumption⟩ hl) | (exfalso; exact hl.2 (by assumption)) | (rw [plcf_eq (w := σ 0) (by assumption)]; first | done | rfl)⟩, ⟨rfl, rfl, hf2_93.1, hf2_93.2, rfl⟩⟩ dX5_slice_156
          have cs103_4 : x2 = 4 := by omega
          refine zt_nm (a := x2) (b := 4) cs103_4 ?_
          refine lv_tableIn (off := 54) (tgt := 157) hex hbc dX5_slice_103 (by decide) (by decide) rfl (by decide) ?_
          refine lv_aload_n hex hbc dX5_slice_157 rfl (lv_at hl 0 rfl) ?_
          refine lv_iload_n hex hbc dX5_slice_158 rfl (lv_at hl 1 rfl) ?_
          refine g_calli [.int (iI x1)] ⟨hex, hbc, hml, hown, hts⟩ (mX5_beginOf l G cx a (sc (sc (sc (sc (sc σ 2 f2_93) 5 f5_93) 6 f6_93) 7 f7_93) 8 f8_93) x1 (show 0 ≤ x1 ∧ x1 < σ 0 74 from by omega) hlay hbud hI) (cwV 1 hts gX5_slice_X5_beginOf rfl rfl rfl (by decide +kernel) ⟨Nat.le_of_ble_eq_true rfl, Nat.le_of_ble_eq_true rfl⟩) hK hP hD hS (fun _ h => h) 0 5 rfl rfl rfl rfl hl.1 (Nat.le_of_ble_eq_true rfl) dX5_slice_159 ⟨Nat.zero_le _, Nat.zero_le _⟩ (fun r_159 u_159 H locs hw_159 hP hD hS hz_159 hk_159 => ?_)
          obtain ⟨rfl, p159, hp159, rfl⟩ := hw_159
          exact g_iret hex hbc hrt hlocks hK hP hD hS ⟨⟨_, rfl, by unfold SL_; refine ⟨fun h => ?_, fun h0 => ⟨fun h => ?_, fun h => ?_, fun h => ⟨fun hl => ?_, fun hl => ?_⟩, fun h => ⟨fun hl => ?_, fun hl => ?_⟩, fun h => ⟨fun hl => ?_, fun hl => ?_⟩, fun h => ?_, fun h => ⟨fun hl => ?_, fun hl => ?_⟩, fun h => ?_⟩⟩ <;> first | (exfalso; omega) | rfl | contradiction | (exact absurd hl.1 (by assumption)) | (exact absurd ⟨by assumption, by assumption⟩ hl) | (exfalso; exact hl.2 (by assumption)) | (rw [plcf_eq (w := σ 0) (by assumption)]; first | done | rfl)⟩, ⟨rfl, rfl, hf2_93.1, hf2_93.2, rfl⟩⟩ dX5_slice_162
        · skip
          refine lv_bipush (v := iI (-9)) hex hbc dX5_slice_99 (by decide) ?_
          exact g_iret hex hbc hrt hlocks hK hP hD hS ⟨⟨_, rfl, by unfold SL_; refine ⟨fun h => ?_, fun h0 => ⟨fun h => ?_, fun h => ?_, fun h => ⟨fun hl => ?_, fun hl => ?_⟩, fun h => ⟨fun hl => ?_, fun hl => ?_⟩, fun h => ⟨fun hl => ?_, fun hl => ?_⟩, fun h => ?_, fun h => ⟨fun hl => ?_, fun hl => ?_⟩, fun h => ?_⟩⟩ <;> first | (exfalso; omega) | rfl | contradiction | (exact absurd hl.1 (by assumption)) | (exact absurd ⟨by assumption, by assumption⟩ hl) | (exfalso; exact hl.2 (by assumption)) | (rw [plcf_eq (w := σ 0) (by assumption)]; first | done | rfl)⟩, ⟨rfl, rfl, hf2_93.1, hf2_93.2, rfl⟩⟩ dX5_slice_101
      by_cases cs21_3 : x2 = 3
      · refine zt_nm (a := x2) (b := 3) cs21_3 ?_
        refine lv_tableIn (off := 71) (tgt := 92) hex hbc dX5_slice_21 (by decide) (by decide) rfl (by decide) ?_
        refine lv_aload_n hex hbc dX5_slice_92 rfl (lv_at hl 0 rfl) ?_
        refine g_calli [] ⟨hex, hbc, hml, hown, hts⟩ (mX5_isLaid l G cx a σ  hI) (cwV 0 hts gX5_slice_X5_isLaid rfl rfl rfl (by decide +kernel) ⟨Nat.le_of_ble_eq_true rfl, Nat.le_of_ble_eq_true rfl⟩) hK hP hD hS (fun _ h => h) 0 5 rfl rfl rfl rfl hl.1 (Nat.le_of_ble_eq_true rfl) dX5_slice_93 ⟨Nat.zero_le _, Nat.zero_le _⟩ (fun r_93 u_93 H locs hw_93 hP hD hS hz_93 hk_93 => ?_)
        obtain ⟨⟨vb93, rfl, hv93⟩, f2_93, f5_93, f6_93, f7_93, f8_93, hf2_93, hbu_93, hst_93, rfl⟩ := hw_93
        have hP : va_P G vwCl (wm cx a (sc (sc (sc (sc (sc σ 2 f2_93) 5 f5_93) 6 f6_93) 7 f7_93) 8 f8_93)) H := hP
        have hD : va_D (MA a) (wm cx a (sc (sc (sc (sc (sc σ 2 f2_93) 5 f5_93) 6 f6_93) 7 f7_93) 8 f8_93)) := hD
        refine zt_ifb_ne (P := (lay_ (σ 0))) (tgt := 102) hex hbc hv93 dX5_slice_96 (by decide) (fun c96 => ?_) (fun c96 => ?_)
        · skip
          have hlay : lay_ (σ 0) := c96
          have hbud := hbu_93 hlay
          refine lv_iload_n hex hbc dX5_slice_102 rfl (lv_at hl 2 rfl) ?_
          by_cases cs103 : x2 < 2 ∨ 4 < x2
          · refine lv_tableOut (tgt := 163) hex hbc dX5_slice_103 (by rw [iI_toInt (by omega)]; exact cs103) (by decide) ?_
            refine lv_aload_n hex hbc dX5_slice_163 rfl (lv_at hl 0 rfl) ?_
            refine lv_iload_n hex hbc dX5_slice_164 rfl (lv_at hl 1 rfl) ?_
            refine g_calli [.int (iI x1)] ⟨hex, hbc, hml, hown, hts⟩ (mX5_fadeOf l G cx a (sc (sc (sc (sc (sc σ 2 f2_93) 5 f5_93) 6 f6_93) 7 f7_93) 8 f8_93) x1 (show 0 ≤ x1 ∧ x1 < σ 0 74 from by omega) hlay hbud hI) (cwV 1 hts gX5_slice_X5_fadeOf rfl rfl rfl (by decide +kernel) ⟨Nat.le_of_ble_eq_true rfl, Nat.le_of_ble_eq_true rfl⟩) hK hP hD hS (fun _ h => h) 0 5 rfl rfl rfl rfl hl.1 (Nat.le_of_ble_eq_true rfl) dX5_slice_165 ⟨Nat.zero_le _, Nat.zero_le _⟩ (fun r_165 u_165 H locs hw_165 hP hD hS hz_165 hk_165 => ?_)
            obtain ⟨rfl, rfl⟩ := hw_165
            exact g_iret hex hbc hrt hlocks hK hP hD hS ⟨⟨_, rfl, by unfold SL_; refine ⟨fun h => ?_, fun h0 => ⟨fun h => ?_, fun h => ?_, fun h => ⟨fun hl => ?_, fun hl => ?_⟩, fun h => ⟨fun hl => ?_, fun hl => ?_⟩, fun h => ⟨fun hl => ?_, fun hl => ?_⟩, fun h => ?_, fun h => ⟨fun hl => ?_, fun hl => ?_⟩, fun h => ?_⟩⟩ <;> first | (exfalso; omega) | rfl | contradiction | (exact absurd hl.1 (by assumption)) | (exact absurd ⟨by assumption, by assumption⟩ hl) | (exfalso; exact hl.2 (by assumption)) | (rw [plcf_eq (w := σ 0) (by assumption)]; first | done | rfl)⟩, ⟨rfl, rfl, hf2_93.1, hf2_93.2, rfl⟩⟩ dX5_slice_168
          by_cases cs103_2 : x2 = 2
          · refine zt_nm (a := x2) (b := 2) cs103_2 ?_
            refine lv_tableIn (off := 25) (tgt := 128) hex hbc dX5_slice_103 (by decide) (by decide) rfl (by decide) ?_
            refine lv_aload_n hex hbc dX5_slice_128 rfl (lv_at hl 0 rfl) ?_
            refine va_get (v := .ref (a 5)) hex hbc hts hin5 hown hK hP 0 rfl rfl 6 (by decide) (hts _ (List.mem_of_getElem? (i := 1) rfl)) (fun _ h => h) rfl dX5_slice_129 ?_
            refine lv_iload_n hex hbc dX5_slice_132 rfl (lv_at hl 1 rfl) ?_
            refine g_iald (f := f5_93) (v := (f5_93 x1)) (i := x1) hex hbc hK hP 5 0 rfl rfl (by decide) (by omega) rfl dX5_slice_133 ?_
            refine zt_nm (a := (f5_93 x1)) (b := (bud (σ 0) x1)) (hbud x1 c5.1 c5.2) ?_
            exact g_iret hex hbc hrt hlocks hK hP hD hS ⟨⟨_, rfl, by unfold SL_; refine ⟨fun h => ?_, fun h0 => ⟨fun h => ?_, fun h => ?_, fun h => ⟨fun hl => ?_, fun hl => ?_⟩, fun h => ⟨fun hl => ?_, fun hl => ?_⟩, fun h => ⟨fun hl => ?_, fun hl => ?_⟩, fun h => ?_, fun h => ⟨fun hl => ?_, fun hl => ?_⟩, fun h => ?_⟩⟩ <;> first | (exfalso; omega) | rfl | contradiction | (exact absurd hl.1 (by assumption)) | (exact absurd ⟨by assumption, by assumption⟩ hl) | (exfalso; exact hl.2 (by assumption)) | (rw [plcf_eq (w := σ 0) (by assumption)]; first | done | rfl)⟩, ⟨rfl, rfl, hf2_93.1, hf2_93.2, rfl⟩⟩ dX5_slice_134
          by_cases cs103_3 : x2 = 3
          · refine zt_nm (a := x2) (b := 3) cs103_3 ?_
            refine lv_tableIn (off := 32) (tgt := 135) hex hbc dX5_slice_103 (by decide) (by decide) rfl (by decide) ?_
            refine lv_aload_n hex hbc dX5_slice_135 rfl (lv_at hl 0 rfl) ?_
            refine va_get (v := .ref (a 1)) hex hbc hts hin5 hown hK hP 0 rfl rfl 0 (by decide) (hts _ (List.mem_of_getElem? (i := 2) rfl)) (fun _ h => h) rfl dX5_slice_136 ?_
            refine lv_bipush (v := iI 8) hex hbc dX5_slice_139 (by decide) ?_
            refine g_iald (f := (σ 0)) (v := (σ 0 8)) (i := 8) hex hbc hK hP 1 0 rfl rfl (by decide) (by omega) rfl dX5_slice_141 ?_
            refine zt_if_ne (a := (σ 0 8)) (tgt := 150) hex hbc (by omega) dX5_slice_142 (by decide) (fun c142 => ?_) (fun c142 => ?_)
            · skip
              refine lv_aload_n hex hbc dX5_slice_150 rfl (lv_at hl 0 rfl) ?_
              refine va_get (v := .ref (a 6)) hex hbc hts hin5 hown hK hP 0 rfl rfl 7 (by decide) (hts _ (List.mem_of_getElem? (i := 3) rfl)) (fun _ h => h) rfl dX5_slice_151 ?_
              refine lv_iload_n hex hbc dX5_slice_154 rfl (lv_at hl 1 rfl) ?_
              refine g_iald (f := f6_93) (v := (f6_93 x1)) (i := x1) hex hbc hK hP 6 0 rfl rfl (by decide) (by omega) rfl dX5_slice_155 ?_
              refine zt_nm (a := (f6_93 x1)) (b := (stp (σ 0) (σ 0 6) (σ 0 7) x1)) (hst_93 hlay c142 x1 c5.1 c5.2) ?_
              exact g_iret hex hbc hrt hlocks hK hP hD hS ⟨⟨_, rfl, by unfold SL_; refine ⟨fun h => ?_, fun h0 => ⟨fun h => ?_, fun h => ?_, fun h => ⟨fun hl => ?_, fun hl => ?_⟩, fun h => ⟨fun hl => ?_, fun hl => ?_⟩, fun h => ⟨fun hl => ?_, fun hl => ?_⟩, fun h => ?_, fun h => ⟨fun hl => ?_, fun hl => ?_⟩, fun h => ?_⟩⟩ <;> first | (exfalso; omega) | rfl | contradiction | (exact absurd hl.1 (by assumption)) | (exact absurd ⟨by assumption, by assumption⟩ hl) | (exfalso; exact hl.2 (by assumption)) | (rw [plcf_eq (w := σ 0) (by assumption)]; first | done | rfl)⟩, ⟨rfl, rfl, hf2_93.1, hf2_93.2, rfl⟩⟩ dX5_slice_156
            · skip
              refine lv_bipush (v := iI (-9)) hex hbc dX5_slice_145 (by decide) ?_
              refine lv_goto (tgt := 156) hex hbc dX5_slice_147 (by decide) ?_
              exact g_iret hex hbc hrt hlocks hK hP hD hS ⟨⟨_, rfl, by unfold SL_; refine ⟨fun h => ?_, fun h0 => ⟨fun h => ?_, fun h => ?_, fun h => ⟨fun hl => ?_, fun hl => ?_⟩, fun h => ⟨fun hl => ?_, fun hl => ?_⟩, fun h => ⟨fun hl => ?_, fun hl => ?_⟩, fun h => ?_, fun h => ⟨fun hl => ?_, fun hl => ?_⟩, fun h => ?_⟩⟩ <;> first | (exfalso; omega) | rfl | contradiction | (exact absurd hl.1 (by assumption)) | (exact absurd ⟨by assumption, by assumption⟩ hl) | (exfalso; exact hl.2 (by assumption)) | (rw [plcf_eq (w := σ 0) (by assumption)]; first | done | rfl)⟩, ⟨rfl, rfl, hf2_93.1, hf2_93.2, rfl⟩⟩ dX5_slice_156
          have cs103_4 : x2 = 4 := by omega
          refine zt_nm (a := x2) (b := 4) cs103_4 ?_
          refine lv_tableIn (off := 54) (tgt := 157) hex hbc dX5_slice_103 (by decide) (by decide) rfl (by decide) ?_
          refine lv_aload_n hex hbc dX5_slice_157 rfl (lv_at hl 0 rfl) ?_
          refine lv_iload_n hex hbc dX5_slice_158 rfl (lv_at hl 1 rfl) ?_
          refine g_calli [.int (iI x1)] ⟨hex, hbc, hml, hown, hts⟩ (mX5_beginOf l G cx a (sc (sc (sc (sc (sc σ 2 f2_93) 5 f5_93) 6 f6_93) 7 f7_93) 8 f8_93) x1 (show 0 ≤ x1 ∧ x1 < σ 0 74 from by omega) hlay hbud hI) (cwV 1 hts gX5_slice_X5_beginOf rfl rfl rfl (by decide +kernel) ⟨Nat.le_of_ble_eq_true rfl, Nat.le_of_ble_eq_true rfl⟩) hK hP hD hS (fun _ h => h) 0 5 rfl rfl rfl rfl hl.1 (Nat.le_of_ble_eq_true rfl) dX5_slice_159 ⟨Nat.zero_le _, Nat.zero_le _⟩ (fun r_159 u_159 H locs hw_159 hP hD hS hz_159 hk_159 => ?_)
          obtain ⟨rfl, p159, hp159, rfl⟩ := hw_159
          exact g_iret hex hbc hrt hlocks hK hP hD hS ⟨⟨_, rfl, by unfold SL_; refine ⟨fun h => ?_, fun h0 => ⟨fun h => ?_, fun h => ?_, fun h => ⟨fun hl => ?_, fun hl => ?_⟩, fun h => ⟨fun hl => ?_, fun hl => ?_⟩, fun h => ⟨fun hl => ?_, fun hl => ?_⟩, fun h => ?_, fun h => ⟨fun hl => ?_, fun hl => ?_⟩, fun h => ?_⟩⟩ <;> first | (exfalso; omega) | rfl | contradiction | (exact absurd hl.1 (by assumption)) | (exact absurd ⟨by assumption, by assumption⟩ hl) | (exfalso; exact hl.2 (by assumption)) | (rw [plcf_eq (w := σ 0) (by assumption)]; first | done | rfl)⟩, ⟨rfl, rfl, hf2_93.1, hf2_93.2, rfl⟩⟩ dX5_slice_162
        · skip
          refine lv_bipush (v := iI (-9)) hex hbc dX5_slice_99 (by decide) ?_
          exact g_iret hex hbc hrt hlocks hK hP hD hS ⟨⟨_, rfl, by unfold SL_; refine ⟨fun h => ?_, fun h0 => ⟨fun h => ?_, fun h => ?_, fun h => ⟨fun hl => ?_, fun hl => ?_⟩, fun h => ⟨fun hl => ?_, fun hl => ?_⟩, fun h => ⟨fun hl => ?_, fun hl => ?_⟩, fun h => ?_, fun h => ⟨fun hl => ?_, fun hl => ?_⟩, fun h => ?_⟩⟩ <;> first | (exfalso; omega) | rfl | contradiction | (exact absurd hl.1 (by assumption)) | (exact absurd ⟨by assumption, by assumption⟩ hl) | (exfalso; exact hl.2 (by assumption)) | (rw [plcf_eq (w := σ 0) (by assumption)]; first | done | rfl)⟩, ⟨rfl, rfl, hf2_93.1, hf2_93.2, rfl⟩⟩ dX5_slice_101
      by_cases cs21_4 : x2 = 4
      · refine zt_nm (a := x2) (b := 4) cs21_4 ?_
        refine lv_tableIn (off := 71) (tgt := 92) hex hbc dX5_slice_21 (by decide) (by decide) rfl (by decide) ?_
        refine lv_aload_n hex hbc dX5_slice_92 rfl (lv_at hl 0 rfl) ?_
        refine g_calli [] ⟨hex, hbc, hml, hown, hts⟩ (mX5_isLaid l G cx a σ  hI) (cwV 0 hts gX5_slice_X5_isLaid rfl rfl rfl (by decide +kernel) ⟨Nat.le_of_ble_eq_true rfl, Nat.le_of_ble_eq_true rfl⟩) hK hP hD hS (fun _ h => h) 0 5 rfl rfl rfl rfl hl.1 (Nat.le_of_ble_eq_true rfl) dX5_slice_93 ⟨Nat.zero_le _, Nat.zero_le _⟩ (fun r_93 u_93 H locs hw_93 hP hD hS hz_93 hk_93 => ?_)
        obtain ⟨⟨vb93, rfl, hv93⟩, f2_93, f5_93, f6_93, f7_93, f8_93, hf2_93, hbu_93, hst_93, rfl⟩ := hw_93
        have hP : va_P G vwCl (wm cx a (sc (sc (sc (sc (sc σ 2 f2_93) 5 f5_93) 6 f6_93) 7 f7_93) 8 f8_93)) H := hP
        have hD : va_D (MA a) (wm cx a (sc (sc (sc (sc (sc σ 2 f2_93) 5 f5_93) 6 f6_93) 7 f7_93) 8 f8_93)) := hD
        refine zt_ifb_ne (P := (lay_ (σ 0))) (tgt := 102) hex hbc hv93 dX5_slice_96 (by decide) (fun c96 => ?_) (fun c96 => ?_)
        · skip
          have hlay : lay_ (σ 0) := c96
          have hbud := hbu_93 hlay
          refine lv_iload_n hex hbc dX5_slice_102 rfl (lv_at hl 2 rfl) ?_
          by_cases cs103 : x2 < 2 ∨ 4 < x2
          · refine lv_tableOut (tgt := 163) hex hbc dX5_slice_103 (by rw [iI_toInt (by omega)]; exact cs103) (by decide) ?_
            refine lv_aload_n hex hbc dX5_slice_163 rfl (lv_at hl 0 rfl) ?_
            refine lv_iload_n hex hbc dX5_slice_164 rfl (lv_at hl 1 rfl) ?_
            refine g_calli [.int (iI x1)] ⟨hex, hbc, hml, hown, hts⟩ (mX5_fadeOf l G cx a (sc (sc (sc (sc (sc σ 2 f2_93) 5 f5_93) 6 f6_93) 7 f7_93) 8 f8_93) x1 (show 0 ≤ x1 ∧ x1 < σ 0 74 from by omega) hlay hbud hI) (cwV 1 hts gX5_slice_X5_fadeOf rfl rfl rfl (by decide +kernel) ⟨Nat.le_of_ble_eq_true rfl, Nat.le_of_ble_eq_true rfl⟩) hK hP hD hS (fun _ h => h) 0 5 rfl rfl rfl rfl hl.1 (Nat.le_of_ble_eq_true rfl) dX5_slice_165 ⟨Nat.zero_le _, Nat.zero_le _⟩ (fun r_165 u_165 H locs hw_165 hP hD hS hz_165 hk_165 => ?_)
            obtain ⟨rfl, rfl⟩ := hw_165
            exact g_iret hex hbc hrt hlocks hK hP hD hS ⟨⟨_, rfl, by unfold SL_; refine ⟨fun h => ?_, fun h0 => ⟨fun h => ?_, fun h => ?_, fun h => ⟨fun hl => ?_, fun hl => ?_⟩, fun h => ⟨fun hl => ?_, fun hl => ?_⟩, fun h => ⟨fun hl => ?_, fun hl => ?_⟩, fun h => ?_, fun h => ⟨fun hl => ?_, fun hl => ?_⟩, fun h => ?_⟩⟩ <;> first | (exfalso; omega) | rfl | contradiction | (exact absurd hl.1 (by assumption)) | (exact absurd ⟨by assumption, by assumption⟩ hl) | (exfalso; exact hl.2 (by assumption)) | (rw [plcf_eq (w := σ 0) (by assumption)]; first | done | rfl)⟩, ⟨rfl, rfl, hf2_93.1, hf2_93.2, rfl⟩⟩ dX5_slice_168
          by_cases cs103_2 : x2 = 2
          · refine zt_nm (a := x2) (b := 2) cs103_2 ?_
            refine lv_tableIn (off := 25) (tgt := 128) hex hbc dX5_slice_103 (by decide) (by decide) rfl (by decide) ?_
            refine lv_aload_n hex hbc dX5_slice_128 rfl (lv_at hl 0 rfl) ?_
            refine va_get (v := .ref (a 5)) hex hbc hts hin5 hown hK hP 0 rfl rfl 6 (by decide) (hts _ (List.mem_of_getElem? (i := 1) rfl)) (fun _ h => h) rfl dX5_slice_129 ?_
            refine lv_iload_n hex hbc dX5_slice_132 rfl (lv_at hl 1 rfl) ?_
            refine g_iald (f := f5_93) (v := (f5_93 x1)) (i := x1) hex hbc hK hP 5 0 rfl rfl (by decide) (by omega) rfl dX5_slice_133 ?_
            refine zt_nm (a := (f5_93 x1)) (b := (bud (σ 0) x1)) (hbud x1 c5.1 c5.2) ?_
            exact g_iret hex hbc hrt hlocks hK hP hD hS ⟨⟨_, rfl, by unfold SL_; refine ⟨fun h => ?_, fun h0 => ⟨fun h => ?_, fun h => ?_, fun h => ⟨fun hl => ?_, fun hl => ?_⟩, fun h => ⟨fun hl => ?_, fun hl => ?_⟩, fun h => ⟨fun hl => ?_, fun hl => ?_⟩, fun h => ?_, fun h => ⟨fun hl => ?_, fun hl => ?_⟩, fun h => ?_⟩⟩ <;> first | (exfalso; omega) | rfl | contradiction | (exact absurd hl.1 (by assumption)) | (exact absurd ⟨by assumption, by assumption⟩ hl) | (exfalso; exact hl.2 (by assumption)) | (rw [plcf_eq (w := σ 0) (by assumption)]; first | done | rfl)⟩, ⟨rfl, rfl, hf2_93.1, hf2_93.2, rfl⟩⟩ dX5_slice_134
          by_cases cs103_3 : x2 = 3
          · refine zt_nm (a := x2) (b := 3) cs103_3 ?_
            refine lv_tableIn (off := 32) (tgt := 135) hex hbc dX5_slice_103 (by decide) (by decide) rfl (by decide) ?_
            refine lv_aload_n hex hbc dX5_slice_135 rfl (lv_at hl 0 rfl) ?_
            refine va_get (v := .ref (a 1)) hex hbc hts hin5 hown hK hP 0 rfl rfl 0 (by decide) (hts _ (List.mem_of_getElem? (i := 2) rfl)) (fun _ h => h) rfl dX5_slice_136 ?_
            refine lv_bipush (v := iI 8) hex hbc dX5_slice_139 (by decide) ?_
            refine g_iald (f := (σ 0)) (v := (σ 0 8)) (i := 8) hex hbc hK hP 1 0 rfl rfl (by decide) (by omega) rfl dX5_slice_141 ?_
            refine zt_if_ne (a := (σ 0 8)) (tgt := 150) hex hbc (by omega) dX5_slice_142 (by decide) (fun c142 => ?_) (fun c142 => ?_)
            · skip
              refine lv_aload_n hex hbc dX5_slice_150 rfl (lv_at hl 0 rfl) ?_
              refine va_get (v := .ref (a 6)) hex hbc hts hin5 hown hK hP 0 rfl rfl 7 (by decide) (hts _ (List.mem_of_getElem? (i := 3) rfl)) (fun _ h => h) rfl dX5_slice_151 ?_
              refine lv_iload_n hex hbc dX5_slice_154 rfl (lv_at hl 1 rfl) ?_
              refine g_iald (f := f6_93) (v := (f6_93 x1)) (i := x1) hex hbc hK hP 6 0 rfl rfl (by decide) (by omega) rfl dX5_slice_155 ?_
              refine zt_nm (a := (f6_93 x1)) (b := (stp (σ 0) (σ 0 6) (σ 0 7) x1)) (hst_93 hlay c142 x1 c5.1 c5.2) ?_
              exact g_iret hex hbc hrt hlocks hK hP hD hS ⟨⟨_, rfl, by unfold SL_; refine ⟨fun h => ?_, fun h0 => ⟨fun h => ?_, fun h => ?_, fun h => ⟨fun hl => ?_, fun hl => ?_⟩, fun h => ⟨fun hl => ?_, fun hl => ?_⟩, fun h => ⟨fun hl => ?_, fun hl => ?_⟩, fun h => ?_, fun h => ⟨fun hl => ?_, fun hl => ?_⟩, fun h => ?_⟩⟩ <;> first | (exfalso; omega) | rfl | contradiction | (exact absurd hl.1 (by assumption)) | (exact absurd ⟨by assumption, by assumption⟩ hl) | (exfalso; exact hl.2 (by assumption)) | (rw [plcf_eq (w := σ 0) (by assumption)]; first | done | rfl)⟩, ⟨rfl, rfl, hf2_93.1, hf2_93.2, rfl⟩⟩ dX5_slice_156
            · skip
              refine lv_bipush (v := iI (-9)) hex hbc dX5_slice_145 (by decide) ?_
              refine lv_goto (tgt := 156) hex hbc dX5_slice_147 (by decide) ?_
              exact g_iret hex hbc hrt hlocks hK hP hD hS ⟨⟨_, rfl, by unfold SL_; refine ⟨fun h => ?_, fun h0 => ⟨fun h => ?_, fun h => ?_, fun h => ⟨fun hl => ?_, fun hl => ?_⟩, fun h => ⟨fun hl => ?_, fun hl => ?_⟩, fun h => ⟨fun hl => ?_, fun hl => ?_⟩, fun h => ?_, fun h => ⟨fun hl => ?_, fun hl => ?_⟩, fun h => ?_⟩⟩ <;> first | (exfalso; omega) | rfl | contradiction | (exact absurd hl.1 (by assumption)) | (exact absurd ⟨by assumption, by assumption⟩ hl) | (exfalso; exact hl.2 (by assumption)) | (rw [plcf_eq (w := σ 0) (by assumption)]; first | done | rfl)⟩, ⟨rfl, rfl, hf2_93.1, hf2_93.2, rfl⟩⟩ dX5_slice_156
          have cs103_4 : x2 = 4 := by omega
          refine zt_nm (a := x2) (b := 4) cs103_4 ?_
          refine lv_tableIn (off := 54) (tgt := 157) hex hbc dX5_slice_103 (by decide) (by decide) rfl (by decide) ?_
          refine lv_aload_n hex hbc dX5_slice_157 rfl (lv_at hl 0 rfl) ?_
          refine lv_iload_n hex hbc dX5_slice_158 rfl (lv_at hl 1 rfl) ?_
          refine g_calli [.int (iI x1)] ⟨hex, hbc, hml, hown, hts⟩ (mX5_beginOf l G cx a (sc (sc (sc (sc (sc σ 2 f2_93) 5 f5_93) 6 f6_93) 7 f7_93) 8 f8_93) x1 (show 0 ≤ x1 ∧ x1 < σ 0 74 from by omega) hlay hbud hI) (cwV 1 hts gX5_slice_X5_beginOf rfl rfl rfl (by decide +kernel) ⟨Nat.le_of_ble_eq_true rfl, Nat.le_of_ble_eq_true rfl⟩) hK hP hD hS (fun _ h => h) 0 5 rfl rfl rfl rfl hl.1 (Nat.le_of_ble_eq_true rfl) dX5_slice_159 ⟨Nat.zero_le _, Nat.zero_le _⟩ (fun r_159 u_159 H locs hw_159 hP hD hS hz_159 hk_159 => ?_)
          obtain ⟨rfl, p159, hp159, rfl⟩ := hw_159
          exact g_iret hex hbc hrt hlocks hK hP hD hS ⟨⟨_, rfl, by unfold SL_; refine ⟨fun h => ?_, fun h0 => ⟨fun h => ?_, fun h => ?_, fun h => ⟨fun hl => ?_, fun hl => ?_⟩, fun h => ⟨fun hl => ?_, fun hl => ?_⟩, fun h => ⟨fun hl => ?_, fun hl => ?_⟩, fun h => ?_, fun h => ⟨fun hl => ?_, fun hl => ?_⟩, fun h => ?_⟩⟩ <;> first | (exfalso; omega) | rfl | contradiction | (exact absurd hl.1 (by assumption)) | (exact absurd ⟨by assumption, by assumption⟩ hl) | (exfalso; exact hl.2 (by assumption)) | (rw [plcf_eq (w := σ 0) (by assumption)]; first | done | rfl)⟩, ⟨rfl, rfl, hf2_93.1, hf2_93.2, rfl⟩⟩ dX5_slice_162
        · skip
          refine lv_bipush (v := iI (-9)) hex hbc dX5_slice_99 (by decide) ?_
          exact g_iret hex hbc hrt hlocks hK hP hD hS ⟨⟨_, rfl, by unfold SL_; refine ⟨fun h => ?_, fun h0 => ⟨fun h => ?_, fun h => ?_, fun h => ⟨fun hl => ?_, fun hl => ?_⟩, fun h => ⟨fun hl => ?_, fun hl => ?_⟩, fun h => ⟨fun hl => ?_, fun hl => ?_⟩, fun h => ?_, fun h => ⟨fun hl => ?_, fun hl => ?_⟩, fun h => ?_⟩⟩ <;> first | (exfalso; omega) | rfl | contradiction | (exact absurd hl.1 (by assumption)) | (exact absurd ⟨by assumption, by assumption⟩ hl) | (exfalso; exact hl.2 (by assumption)) | (rw [plcf_eq (w := σ 0) (by assumption)]; first | done | rfl)⟩, ⟨rfl, rfl, hf2_93.1, hf2_93.2, rfl⟩⟩ dX5_slice_101
      by_cases cs21_5 : x2 = 5
      · refine zt_nm (a := x2) (b := 5) cs21_5 ?_
        refine lv_tableIn (off := 59) (tgt := 80) hex hbc dX5_slice_21 (by decide) (by decide) rfl (by decide) ?_
        refine lv_aload_n hex hbc dX5_slice_80 rfl (lv_at hl 0 rfl) ?_
        refine lv_iload_n hex hbc dX5_slice_81 rfl (lv_at hl 1 rfl) ?_
        refine g_calli [.int (iI x1)] ⟨hex, hbc, hml, hown, hts⟩ (mX5_placeOf l G cx a σ x1 (by omega) hI (hI.plc (by omega))) (cwV 1 hts gX5_slice_X5_placeOf rfl rfl rfl (by decide +kernel) ⟨Nat.le_of_ble_eq_true rfl, Nat.le_of_ble_eq_true rfl⟩) hK hP hD hS (fun _ h => h) 0 5 rfl rfl rfl rfl hl.1 (Nat.le_of_ble_eq_true rfl) dX5_slice_82 ⟨Nat.zero_le _, Nat.zero_le _⟩ (fun r_82 u_82 H locs hw_82 hP hD hS hz_82 hk_82 => ?_)
        obtain ⟨rfl, p82, rfl, hp82⟩ := hw_82
        exact g_iret hex hbc hrt hlocks hK hP hD hS ⟨⟨_, rfl, by unfold SL_; refine ⟨fun h => ?_, fun h0 => ⟨fun h => ?_, fun h => ?_, fun h => ⟨fun hl => ?_, fun hl => ?_⟩, fun h => ⟨fun hl => ?_, fun hl => ?_⟩, fun h => ⟨fun hl => ?_, fun hl => ?_⟩, fun h => ?_, fun h => ⟨fun hl => ?_, fun hl => ?_⟩, fun h => ?_⟩⟩ <;> first | (exfalso; omega) | rfl | contradiction | (exact absurd hl.1 (by assumption)) | (exact absurd ⟨by assumption, by assumption⟩ hl) | (exfalso; exact hl.2 (by assumption)) | (rw [plcf_eq (w := σ 0) (by assumption)]; first | done | rfl)⟩, ⟨rfl, rfl, rfl, rfl, rfl⟩⟩ dX5_slice_85
      by_cases cs21_6 : x2 = 6
      · refine zt_nm (a := x2) (b := 6) cs21_6 ?_
        refine lv_tableIn (off := 71) (tgt := 92) hex hbc dX5_slice_21 (by decide) (by decide) rfl (by decide) ?_
        refine lv_aload_n hex hbc dX5_slice_92 rfl (lv_at hl 0 rfl) ?_
        refine g_calli [] ⟨hex, hbc, hml, hown, hts⟩ (mX5_isLaid l G cx a σ  hI) (cwV 0 hts gX5_slice_X5_isLaid rfl rfl rfl (by decide +kernel) ⟨Nat.le_of_ble_eq_true rfl, Nat.le_of_ble_eq_true rfl⟩) hK hP hD hS (fun _ h => h) 0 5 rfl rfl rfl rfl hl.1 (Nat.le_of_ble_eq_true rfl) dX5_slice_93 ⟨Nat.zero_le _, Nat.zero_le _⟩ (fun r_93 u_93 H locs hw_93 hP hD hS hz_93 hk_93 => ?_)
        obtain ⟨⟨vb93, rfl, hv93⟩, f2_93, f5_93, f6_93, f7_93, f8_93, hf2_93, hbu_93, hst_93, rfl⟩ := hw_93
        have hP : va_P G vwCl (wm cx a (sc (sc (sc (sc (sc σ 2 f2_93) 5 f5_93) 6 f6_93) 7 f7_93) 8 f8_93)) H := hP
        have hD : va_D (MA a) (wm cx a (sc (sc (sc (sc (sc σ 2 f2_93) 5 f5_93) 6 f6_93) 7 f7_93) 8 f8_93)) := hD
        refine zt_ifb_ne (P := (lay_ (σ 0))) (tgt := 102) hex hbc hv93 dX5_slice_96 (by decide) (fun c96 => ?_) (fun c96 => ?_)
        · skip
          have hlay : lay_ (σ 0) := c96
          have hbud := hbu_93 hlay
          refine lv_iload_n hex hbc dX5_slice_102 rfl (lv_at hl 2 rfl) ?_
          by_cases cs103 : x2 < 2 ∨ 4 < x2
          · refine lv_tableOut (tgt := 163) hex hbc dX5_slice_103 (by rw [iI_toInt (by omega)]; exact cs103) (by decide) ?_
            refine lv_aload_n hex hbc dX5_slice_163 rfl (lv_at hl 0 rfl) ?_
            refine lv_iload_n hex hbc dX5_slice_164 rfl (lv_at hl 1 rfl) ?_
            refine g_calli [.int (iI x1)] ⟨hex, hbc, hml, hown, hts⟩ (mX5_fadeOf l G cx a (sc (sc (sc (sc (sc σ 2 f2_93) 5 f5_93) 6 f6_93) 7 f7_93) 8 f8_93) x1 (show 0 ≤ x1 ∧ x1 < σ 0 74 from by omega) hlay hbud hI) (cwV 1 hts gX5_slice_X5_fadeOf rfl rfl rfl (by decide +kernel) ⟨Nat.le_of_ble_eq_true rfl, Nat.le_of_ble_eq_true rfl⟩) hK hP hD hS (fun _ h => h) 0 5 rfl rfl rfl rfl hl.1 (Nat.le_of_ble_eq_true rfl) dX5_slice_165 ⟨Nat.zero_le _, Nat.zero_le _⟩ (fun r_165 u_165 H locs hw_165 hP hD hS hz_165 hk_165 => ?_)
            obtain ⟨rfl, rfl⟩ := hw_165
            exact g_iret hex hbc hrt hlocks hK hP hD hS ⟨⟨_, rfl, by unfold SL_; refine ⟨fun h => ?_, fun h0 => ⟨fun h => ?_, fun h => ?_, fun h => ⟨fun hl => ?_, fun hl => ?_⟩, fun h => ⟨fun hl => ?_, fun hl => ?_⟩, fun h => ⟨fun hl => ?_, fun hl => ?_⟩, fun h => ?_, fun h => ⟨fun hl => ?_, fun hl => ?_⟩, fun h => ?_⟩⟩ <;> first | (exfalso; omega) | rfl | contradiction | (exact absurd hl.1 (by assumption)) | (exact absurd ⟨by assumption, by assumption⟩ hl) | (exfalso; exact hl.2 (by assumption)) | (rw [plcf_eq (w := σ 0) (by assumption)]; first | done | rfl)⟩, ⟨rfl, rfl, hf2_93.1, hf2_93.2, rfl⟩⟩ dX5_slice_168
          by_cases cs103_2 : x2 = 2
          · refine zt_nm (a := x2) (b := 2) cs103_2 ?_
            refine lv_tableIn (off := 25) (tgt := 128) hex hbc dX5_slice_103 (by decide) (by decide) rfl (by decide) ?_
            refine lv_aload_n hex hbc dX5_slice_128 rfl (lv_at hl 0 rfl) ?_
            refine va_get (v := .ref (a 5)) hex hbc hts hin5 hown hK hP 0 rfl rfl 6 (by decide) (hts _ (List.mem_of_getElem? (i := 1) rfl)) (fun _ h => h) rfl dX5_slice_129 ?_
            refine lv_iload_n hex hbc dX5_slice_132 rfl (lv_at hl 1 rfl) ?_
            refine g_iald (f := f5_93) (v := (f5_93 x1)) (i := x1) hex hbc hK hP 5 0 rfl rfl (by decide) (by omega) rfl dX5_slice_133 ?_
            refine zt_nm (a := (f5_93 x1)) (b := (bud (σ 0) x1)) (hbud x1 c5.1 c5.2) ?_
            exact g_iret hex hbc hrt hlocks hK hP hD hS ⟨⟨_, rfl, by unfold SL_; refine ⟨fun h => ?_, fun h0 => ⟨fun h => ?_, fun h => ?_, fun h => ⟨fun hl => ?_, fun hl => ?_⟩, fun h => ⟨fun hl => ?_, fun hl => ?_⟩, fun h => ⟨fun hl => ?_, fun hl => ?_⟩, fun h => ?_, fun h => ⟨fun hl => ?_, fun hl => ?_⟩, fun h => ?_⟩⟩ <;> first | (exfalso; omega) | rfl | contradiction | (exact absurd hl.1 (by assumption)) | (exact absurd ⟨by assumption, by assumption⟩ hl) | (exfalso; exact hl.2 (by assumption)) | (rw [plcf_eq (w := σ 0) (by assumption)]; first | done | rfl)⟩, ⟨rfl, rfl, hf2_93.1, hf2_93.2, rfl⟩⟩ dX5_slice_134
          by_cases cs103_3 : x2 = 3
          · refine zt_nm (a := x2) (b := 3) cs103_3 ?_
            refine lv_tableIn (off := 32) (tgt := 135) hex hbc dX5_slice_103 (by decide) (by decide) rfl (by decide) ?_
            refine lv_aload_n hex hbc dX5_slice_135 rfl (lv_at hl 0 rfl) ?_
            refine va_get (v := .ref (a 1)) hex hbc hts hin5 hown hK hP 0 rfl rfl 0 (by decide) (hts _ (List.mem_of_getElem? (i := 2) rfl)) (fun _ h => h) rfl dX5_slice_136 ?_
            refine lv_bipush (v := iI 8) hex hbc dX5_slice_139 (by decide) ?_
            refine g_iald (f := (σ 0)) (v := (σ 0 8)) (i := 8) hex hbc hK hP 1 0 rfl rfl (by decide) (by omega) rfl dX5_slice_141 ?_
            refine zt_if_ne (a := (σ 0 8)) (tgt := 150) hex hbc (by omega) dX5_slice_142 (by decide) (fun c142 => ?_) (fun c142 => ?_)
            · skip
              refine lv_aload_n hex hbc dX5_slice_150 rfl (lv_at hl 0 rfl) ?_
              refine va_get (v := .ref (a 6)) hex hbc hts hin5 hown hK hP 0 rfl rfl 7 (by decide) (hts _ (List.mem_of_getElem? (i := 3) rfl)) (fun _ h => h) rfl dX5_slice_151 ?_
              refine lv_iload_n hex hbc dX5_slice_154 rfl (lv_at hl 1 rfl) ?_
              refine g_iald (f := f6_93) (v := (f6_93 x1)) (i := x1) hex hbc hK hP 6 0 rfl rfl (by decide) (by omega) rfl dX5_slice_155 ?_
              refine zt_nm (a := (f6_93 x1)) (b := (stp (σ 0) (σ 0 6) (σ 0 7) x1)) (hst_93 hlay c142 x1 c5.1 c5.2) ?_
              exact g_iret hex hbc hrt hlocks hK hP hD hS ⟨⟨_, rfl, by unfold SL_; refine ⟨fun h => ?_, fun h0 => ⟨fun h => ?_, fun h => ?_, fun h => ⟨fun hl => ?_, fun hl => ?_⟩, fun h => ⟨fun hl => ?_, fun hl => ?_⟩, fun h => ⟨fun hl => ?_, fun hl => ?_⟩, fun h => ?_, fun h => ⟨fun hl => ?_, fun hl => ?_⟩, fun h => ?_⟩⟩ <;> first | (exfalso; omega) | rfl | contradiction | (exact absurd hl.1 (by assumption)) | (exact absurd ⟨by assumption, by assumption⟩ hl) | (exfalso; exact hl.2 (by assumption)) | (rw [plcf_eq (w := σ 0) (by assumption)]; first | done | rfl)⟩, ⟨rfl, rfl, hf2_93.1, hf2_93.2, rfl⟩⟩ dX5_slice_156
            · skip
              refine lv_bipush (v := iI (-9)) hex hbc dX5_slice_145 (by decide) ?_
              refine lv_goto (tgt := 156) hex hbc dX5_slice_147 (by decide) ?_
              exact g_iret hex hbc hrt hlocks hK hP hD hS ⟨⟨_, rfl, by unfold SL_; refine ⟨fun h => ?_, fun h0 => ⟨fun h => ?_, fun h => ?_, fun h => ⟨fun hl => ?_, fun hl => ?_⟩, fun h => ⟨fun hl => ?_, fun hl => ?_⟩, fun h => ⟨fun hl => ?_, fun hl => ?_⟩, fun h => ?_, fun h => ⟨fun hl => ?_, fun hl => ?_⟩, fun h => ?_⟩⟩ <;> first | (exfalso; omega) | rfl | contradiction | (exact absurd hl.1 (by assumption)) | (exact absurd ⟨by assumption, by assumption⟩ hl) | (exfalso; exact hl.2 (by assumption)) | (rw [plcf_eq (w := σ 0) (by assumption)]; first | done | rfl)⟩, ⟨rfl, rfl, hf2_93.1, hf2_93.2, rfl⟩⟩ dX5_slice_156
          have cs103_4 : x2 = 4 := by omega
          refine zt_nm (a := x2) (b := 4) cs103_4 ?_
          refine lv_tableIn (off := 54) (tgt := 157) hex hbc dX5_slice_103 (by decide) (by decide) rfl (by decide) ?_
          refine lv_aload_n hex hbc dX5_slice_157 rfl (lv_at hl 0 rfl) ?_
          refine lv_iload_n hex hbc dX5_slice_158 rfl (lv_at hl 1 rfl) ?_
          refine g_calli [.int (iI x1)] ⟨hex, hbc, hml, hown, hts⟩ (mX5_beginOf l G cx a (sc (sc (sc (sc (sc σ 2 f2_93) 5 f5_93) 6 f6_93) 7 f7_93) 8 f8_93) x1 (show 0 ≤ x1 ∧ x1 < σ 0 74 from by omega) hlay hbud hI) (cwV 1 hts gX5_slice_X5_beginOf rfl rfl rfl (by decide +kernel) ⟨Nat.le_of_ble_eq_true rfl, Nat.le_of_ble_eq_true rfl⟩) hK hP hD hS (fun _ h => h) 0 5 rfl rfl rfl rfl hl.1 (Nat.le_of_ble_eq_true rfl) dX5_slice_159 ⟨Nat.zero_le _, Nat.zero_le _⟩ (fun r_159 u_159 H locs hw_159 hP hD hS hz_159 hk_159 => ?_)
          obtain ⟨rfl, p159, hp159, rfl⟩ := hw_159
          exact g_iret hex hbc hrt hlocks hK hP hD hS ⟨⟨_, rfl, by unfold SL_; refine ⟨fun h => ?_, fun h0 => ⟨fun h => ?_, fun h => ?_, fun h => ⟨fun hl => ?_, fun hl => ?_⟩, fun h => ⟨fun hl => ?_, fun hl => ?_⟩, fun h => ⟨fun hl => ?_, fun hl => ?_⟩, fun h => ?_, fun h => ⟨fun hl => ?_, fun hl => ?_⟩, fun h => ?_⟩⟩ <;> first | (exfalso; omega) | rfl | contradiction | (exact absurd hl.1 (by assumption)) | (exact absurd ⟨by assumption, by assumption⟩ hl) | (exfalso; exact hl.2 (by assumption)) | (rw [plcf_eq (w := σ 0) (by assumption)]; first | done | rfl)⟩, ⟨rfl, rfl, hf2_93.1, hf2_93.2, rfl⟩⟩ dX5_slice_162
        · skip
          refine lv_bipush (v := iI (-9)) hex hbc dX5_slice_99 (by decide) ?_
          exact g_iret hex hbc hrt hlocks hK hP hD hS ⟨⟨_, rfl, by unfold SL_; refine ⟨fun h => ?_, fun h0 => ⟨fun h => ?_, fun h => ?_, fun h => ⟨fun hl => ?_, fun hl => ?_⟩, fun h => ⟨fun hl => ?_, fun hl => ?_⟩, fun h => ⟨fun hl => ?_, fun hl => ?_⟩, fun h => ?_, fun h => ⟨fun hl => ?_, fun hl => ?_⟩, fun h => ?_⟩⟩ <;> first | (exfalso; omega) | rfl | contradiction | (exact absurd hl.1 (by assumption)) | (exact absurd ⟨by assumption, by assumption⟩ hl) | (exfalso; exact hl.2 (by assumption)) | (rw [plcf_eq (w := σ 0) (by assumption)]; first | done | rfl)⟩, ⟨rfl, rfl, hf2_93.1, hf2_93.2, rfl⟩⟩ dX5_slice_101
      have cs21_7 : x2 = 7 := by omega
      refine zt_nm (a := x2) (b := 7) cs21_7 ?_
      refine lv_tableIn (off := 65) (tgt := 86) hex hbc dX5_slice_21 (by decide) (by decide) rfl (by decide) ?_
      refine lv_aload_n hex hbc dX5_slice_86 rfl (lv_at hl 0 rfl) ?_
      refine lv_iload_n hex hbc dX5_slice_87 rfl (lv_at hl 1 rfl) ?_
      refine g_calli [.int (iI x1)] ⟨hex, hbc, hml, hown, hts⟩ (mX5_loudest l G cx a σ x1 (by omega) hI) (cwV 1 hts gX5_slice_X5_loudest rfl rfl rfl (by decide +kernel) ⟨Nat.le_of_ble_eq_true rfl, Nat.le_of_ble_eq_true rfl⟩) hK hP hD hS (fun _ h => h) 0 5 rfl rfl rfl rfl hl.1 (Nat.le_of_ble_eq_true rfl) dX5_slice_88 ⟨Nat.zero_le _, Nat.zero_le _⟩ (fun r_88 u_88 H locs hw_88 hP hD hS hz_88 hk_88 => ?_)
      obtain ⟨rfl, rfl⟩ := hw_88
      exact g_iret hex hbc hrt hlocks hK hP hD hS ⟨⟨_, rfl, by unfold SL_; refine ⟨fun h => ?_, fun h0 => ⟨fun h => ?_, fun h => ?_, fun h => ⟨fun hl => ?_, fun hl => ?_⟩, fun h => ⟨fun hl => ?_, fun hl => ?_⟩, fun h => ⟨fun hl => ?_, fun hl => ?_⟩, fun h => ?_, fun h => ⟨fun hl => ?_, fun hl => ?_⟩, fun h => ?_⟩⟩ <;> first | (exfalso; omega) | rfl | contradiction | (exact absurd hl.1 (by assumption)) | (exact absurd ⟨by assumption, by assumption⟩ hl) | (exfalso; exact hl.2 (by assumption)) | (rw [plcf_eq (w := σ 0) (by assumption)]; first | done | rfl)⟩, ⟨rfl, rfl, rfl, rfl, rfl⟩⟩ dX5_slice_91
    · skip
      refine lv_iconst (v := iI (-1)) hex hbc dX5_slice_18 rfl ?_
      exact g_iret hex hbc hrt hlocks hK hP hD hS ⟨⟨_, rfl, by unfold SL_; refine ⟨fun h => ?_, fun h0 => ⟨fun h => ?_, fun h => ?_, fun h => ⟨fun hl => ?_, fun hl => ?_⟩, fun h => ⟨fun hl => ?_, fun hl => ?_⟩, fun h => ⟨fun hl => ?_, fun hl => ?_⟩, fun h => ?_, fun h => ⟨fun hl => ?_, fun hl => ?_⟩, fun h => ?_⟩⟩ <;> first | (exfalso; omega) | rfl | contradiction | (exact absurd hl.1 (by assumption)) | (exact absurd ⟨by assumption, by assumption⟩ hl) | (exfalso; exact hl.2 (by assumption)) | (rw [plcf_eq (w := σ 0) (by assumption)]; first | done | rfl)⟩, ⟨rfl, rfl, rfl, rfl, rfl⟩⟩ dX5_slice_19
theorem iX5_source_X5 : ∀ w ∈ wsX50, w ∈ wsX5_source := fun _ h => List.mem_cons_of_mem _ (List.mem_append_right _ h)
set_option maxHeartbeats 4000000 in
set_option maxRecDepth 100000 in
theorem mX5_source (l : Launch) (G : va_G) (cx a : Nat → Nat) (σ : Nat → Int → Int)  (x1 : Int) (x2 : Int) (h1 : -2147483648 ≤ x1 ∧ x1 < 2147483648) (h2 : -2147483648 ≤ x2 ∧ x2 < 2147483648) (hI : Inv (σ 0)) : Met l yX5_source wsX5_source ({ frames := 6, cells := 0, slots := 0, locals := 141 }) (va_Pc [.ref (a 0), .int (iI x1), .int (iI x2)] (gW G (tm cx) (MA a) (wm cx a) σ)) (va_Qi (fun r u => (∃ v, iI v = r ∧ SR_ (σ 0) x1 x2 v) ∧ MQ_ σ u) (gW G (tm cx) (MA a) (wm cx a)) (MA a)) 0 0 (MA a) := by
  refine Met.ofW (cc := cX5_source) (maxL := 6) (ret := some .int) (by decide) rfl ?_
  intro p e s m args below meth c s₁ B hml hv
  obtain ⟨rfl, hP, hK, hD⟩ := hv
  have hex := B.exec
  have hbc := B.bytes
  have hrt := B.returns
  have hts := atoms_spec (ws := wsX5_source) B.pre
  have hown : s.vm.findClass RX5 = some m.cls := findClass_of_methodNamed B.named
  have hlocks := B.notSynchronized
  have hS : va_S (MA a) s.heap s.heap [] := va_S.rf
  have hin5 := iX5_source_X5
  have hl := lv_entry ([.ref (a 0), .int (iI x1), .int (iI x2)]) (n := 6) (Nat.le_of_ble_eq_true rfl)
  rw [lg_entry_eq]
  generalize (lg_sl ([.ref (a 0), .int (iI x1), .int (iI x2)]) ++ List.replicate (6 - (lg_sl ([.ref (a 0), .int (iI x1), .int (iI x2)])).length) Slot.unset).toArray = ls at hl ⊢
  have hl : lv_has ls 6 [(0, .ref (a 0)), (1, .int (iI x1)), (2, .int (iI x2))] := hl
  obtain ⟨hB, hEn, hMk, hAs, hPm⟩ := id hI
  have hO := hPm.1
  refine lv_iload_n hex hbc dX5_source_0 rfl (lv_at hl 1 rfl) ?_
  refine lv_iconst (v := iI 0) hex hbc dX5_source_1 rfl ?_
  refine lv_aload_n hex hbc dX5_source_2 rfl (lv_at hl 0 rfl) ?_
  refine va_get (v := .ref (a 1)) hex hbc hts hin5 hown hK hP 0 rfl rfl 0 (by decide) (hts _ (List.mem_of_getElem? (i := 1) rfl)) (fun _ h => h) rfl dX5_source_3 ?_
  refine lv_bipush (v := iI 6) hex hbc dX5_source_6 (by decide) ?_
  refine g_iald (f := (σ 0)) (v := (σ 0 6)) (i := 6) hex hbc hK hP 1 0 rfl rfl (by decide) (by omega) rfl dX5_source_8 ?_
  refine lv_iconst (v := iI 1) hex hbc dX5_source_9 rfl ?_
  refine zt_isub hex hbc dX5_source_10 ?_
  refine g_callS [.int (iI x1), .int (iI 0), .int (iI ((σ 0 6) - 1))] ⟨hex, hbc, hml, hown, hts⟩ (mX5_isIn l x1 0 ((σ 0 6) - 1) (by omega) (by omega) (by omega)) (va_cwS 3 hts gX5_source_X5_isIn rfl rfl rfl (by decide +kernel) ⟨Nat.le_of_ble_eq_true rfl, Nat.le_of_ble_eq_true rfl⟩) hP hS rfl rfl hl.1 (Nat.le_of_ble_eq_true rfl) dX5_source_11 ⟨Nat.zero_le _, Nat.zero_le _⟩ (fun r_11 H locs hw_11 hP hS => ?_)
  obtain ⟨vb11, rfl, hv11⟩ := hw_11
  refine zt_ifb_eq (P := (0 ≤ x1 ∧ x1 ≤ ((σ 0 6) - 1))) (tgt := 26) hex hbc hv11 dX5_source_14 (by decide) (fun c14 => ?_) (fun c14 => ?_)
  · skip
    refine lv_iconst (v := iI (-1)) hex hbc dX5_source_26 rfl ?_
    exact g_iret hex hbc hrt hlocks hK hP hD hS ⟨⟨-1, rfl, fun _ => rfl, fun h => (by exfalso; omega)⟩, ⟨rfl, rfl, rfl, rfl, rfl⟩⟩ dX5_source_27
  · skip
    refine lv_iload_n hex hbc dX5_source_17 rfl (lv_at hl 2 rfl) ?_
    refine lv_iconst (v := iI 0) hex hbc dX5_source_18 rfl ?_
    refine lv_iconst (v := iI 2) hex hbc dX5_source_19 rfl ?_
    refine g_callS [.int (iI x2), .int (iI 0), .int (iI 2)] ⟨hex, hbc, hml, hown, hts⟩ (mX5_isIn l x2 0 2 (by omega) (by omega) (by omega)) (va_cwS 3 hts gX5_source_X5_isIn rfl rfl rfl (by decide +kernel) ⟨Nat.le_of_ble_eq_true rfl, Nat.le_of_ble_eq_true rfl⟩) hP hS rfl rfl hl.1 (Nat.le_of_ble_eq_true rfl) dX5_source_20 ⟨Nat.zero_le _, Nat.zero_le _⟩ (fun r_20 H locs hw_20 hP hS => ?_)
    obtain ⟨vb20, rfl, hv20⟩ := hw_20
    refine zt_ifb_ne (P := (0 ≤ x2 ∧ x2 ≤ 2)) (tgt := 28) hex hbc hv20 dX5_source_23 (by decide) (fun c23 => ?_) (fun c23 => ?_)
    · skip
      refine lv_aload_n hex hbc dX5_source_28 rfl (lv_at hl 0 rfl) ?_
      refine g_calli [] ⟨hex, hbc, hml, hown, hts⟩ (mX5_isLaid l G cx a σ  hI) (cwV 0 hts gX5_source_X5_isLaid rfl rfl rfl (by decide +kernel) ⟨Nat.le_of_ble_eq_true rfl, Nat.le_of_ble_eq_true rfl⟩) hK hP hD hS (fun _ h => h) 0 5 rfl rfl rfl rfl hl.1 (Nat.le_of_ble_eq_true rfl) dX5_source_29 ⟨Nat.zero_le _, Nat.zero_le _⟩ (fun r_29 u_29 H locs hw_29 hP hD hS hz_29 hk_29 => ?_)
      obtain ⟨⟨vb29, rfl, hv29⟩, f2_29, f5_29, f6_29, f7_29, f8_29, hf2_29, hbu_29, hst_29, rfl⟩ := hw_29
      have hP : va_P G vwCl (wm cx a (sc (sc (sc (sc (sc σ 2 f2_29) 5 f5_29) 6 f6_29) 7 f7_29) 8 f8_29)) H := hP
      have hD : va_D (MA a) (wm cx a (sc (sc (sc (sc (sc σ 2 f2_29) 5 f5_29) 6 f6_29) 7 f7_29) 8 f8_29)) := hD
      refine zt_ifb_ne (P := (lay_ (σ 0))) (tgt := 38) hex hbc hv29 dX5_source_32 (by decide) (fun c32 => ?_) (fun c32 => ?_)
      · skip
        have hlay : lay_ (σ 0) := c32
        have hbud := hbu_29 hlay
        have hpe := par_end hI
        refine lv_iconst (v := iI 0) hex hbc dX5_source_38 rfl ?_
        refine lv_istore_n (lv' := [(3, .int (iI 0)), (0, .ref (a 0)), (1, .int (iI x1)), (2, .int (iI x2))]) hex hbc dX5_source_39 rfl hl (by decide) rfl (fun ls hl => ?_)
        refine lv_iload_n hex hbc dX5_source_40 rfl (lv_at hl 2 rfl) ?_
        refine lv_istore (lv' := [(4, .int (iI x1)), (3, .int (iI 0)), (0, .ref (a 0)), (1, .int (iI x1)), (2, .int (iI x2))]) hex hbc dX5_source_41 hl (by decide) rfl (fun ls hl => ?_)
        have loop_43 : ∀ (N : Nat) (p1 : Int) (l1 : Int), (0 ≤ p1 ∧ p1 < σ 0 74 ∧ par_ (σ 0) p1 ≤ x1 ∧ l1 = x1 - par_ (σ 0) p1) → (σ 0 74 - p1) < (N : Int) → ∀ (H : Heap) (locs : List Loc) (ls : Array Slot), va_P G vwCl (wm cx a (sc (sc (sc (sc (sc σ 2 f2_29) 5 f5_29) 6 f6_29) 7 f7_29) 8 f8_29)) H → va_D (MA a) (wm cx a (sc (sc (sc (sc (sc σ 2 f2_29) 5 f5_29) 6 f6_29) 7 f7_29) 8 f8_29)) → va_S (MA a) s.heap H locs → lv_has ls 6 [(4, .int (iI l1)), (3, .int (iI p1)), (0, .ref (a 0)), (1, .int (iI x1)), (2, .int (iI x2))] → W p l e (headSpec wsX5_source ({ frames := 6, cells := 0, slots := 0, locals := 141 })).room s m ([.ref (a 0), .int (iI x1), .int (iI x2)] : List Value).toArray below meth c H locs 0 0 (MQ below (va_Qi (fun r u => (∃ v, iI v = r ∧ SR_ (σ 0) x1 x2 v) ∧ MQ_ σ u) (gW G (tm cx) (MA a) (wm cx a)) (MA a)) ([.ref (a 0), .int (iI x1), .int (iI x2)] : List Value).toArray s 0 0 (MA a)) (F0 m 43 ls []) := by
          intro N
          induction N with
          | zero => intro p1 l1 hinv hlt; exfalso; omega
          | succ N ih_43 =>
            intro p1 l1 ⟨hi0, hi1, hi2, hl1⟩ hlt_43 H locs ls hP hD hS hl
            have ho1 := hO p1 hi0 hi1
            have hb1 := bud_in hI hlay ho1.1 ho1.2
            have hpa := par_at (w := σ 0) hi0
            have hp0 := par_mono hI hlay (p := 0) (q := p1) (by omega) hi0 (by omega)
            have hp00 : par_ (σ 0) 0 = 0 := rfl
            refine lv_iload hex hbc dX5_source_43 (lv_at hl 0 rfl) ?_
            refine lv_aload_n hex hbc dX5_source_45 rfl (lv_at hl 2 rfl) ?_
            refine va_get (v := .ref (a 5)) hex hbc hts hin5 hown hK hP 0 rfl rfl 6 (by decide) (hts _ (List.mem_of_getElem? (i := 2) rfl)) (fun _ h => h) rfl dX5_source_46 ?_
            refine lv_aload_n hex hbc dX5_source_49 rfl (lv_at hl 2 rfl) ?_
            refine va_get (v := .ref (a 1)) hex hbc hts hin5 hown hK hP 0 rfl rfl 0 (by decide) (hts _ (List.mem_of_getElem? (i := 1) rfl)) (fun _ h => h) rfl dX5_source_50 ?_
            refine lv_bipush (v := iI 91) hex hbc dX5_source_53 (by decide) ?_
            refine lv_iload_n hex hbc dX5_source_55 rfl (lv_at hl 1 rfl) ?_
            refine zt_iadd hex hbc dX5_source_56 ?_
            refine g_iald (f := (σ 0)) (v := (σ 0 (91 + p1))) (i := (91 + p1)) hex hbc hK hP 1 0 rfl rfl (by decide) (by omega) rfl dX5_source_57 ?_
            refine g_iald (f := f5_29) (v := (f5_29 (σ 0 (91 + p1)))) (i := (σ 0 (91 + p1))) hex hbc hK hP 5 0 rfl rfl (by decide) (by omega) rfl dX5_source_58 ?_
            refine zt_nm (a := (f5_29 (σ 0 (91 + p1)))) (b := (bud (σ 0) (σ 0 (91 + p1)))) (hbud _ ho1.1 ho1.2) ?_
            refine zt_icmp_lt (a := l1) (b := (bud (σ 0) (σ 0 (91 + p1)))) (tgt := 87) hex hbc (by omega) dX5_source_59 (by decide) (fun c59 => ?_) (fun c59 => ?_)
            · skip
              have hpx : x1 < par_ (σ 0) (p1 + 1) := by omega
              have hln := hI.ln_in ho1.1 ho1.2
              have hmm := mulb (a := l1) (b := ln (σ 0) (σ 0 (91 + p1))) (A := 200001) (B := 64000) (by omega) (by omega) (by omega) (by omega)
              have hfd : 0 ≤ fad (σ 0) (bud (σ 0)) p1 ∧ fad (σ 0) (bud (σ 0)) p1 ≤ 500 := by unfold fad; have hz : ∀ p, 0 ≤ p → p < σ 0 74 → 0 ≤ bud (σ 0) (σ 0 (91 + p)) := fun p p0 p1 => (bud_in hI hlay (hO p p0 p1).1 (hO p p0 p1).2).1; have h5 := hz p1 hi0 hi1; have h6 := hz (if p1 + 1 < σ 0 74 then p1 + 1 else 0) (by split <;> omega) (by split <;> omega); omega
              refine lv_aload_n hex hbc dX5_source_87 rfl (lv_at hl 2 rfl) ?_
              refine va_get (v := .ref (a 1)) hex hbc hts hin5 hown hK hP 0 rfl rfl 0 (by decide) (hts _ (List.mem_of_getElem? (i := 1) rfl)) (fun _ h => h) rfl dX5_source_88 ?_
              refine lv_bipush (v := iI 91) hex hbc dX5_source_91 (by decide) ?_
              refine lv_iload_n hex hbc dX5_source_93 rfl (lv_at hl 1 rfl) ?_
              refine zt_iadd hex hbc dX5_source_94 ?_
              refine g_iald (f := (σ 0)) (v := (σ 0 (91 + p1))) (i := (91 + p1)) hex hbc hK hP 1 0 rfl rfl (by decide) (by omega) rfl dX5_source_95 ?_
              refine lv_istore (lv' := [(5, .int (iI (σ 0 (91 + p1)))), (4, .int (iI l1)), (3, .int (iI p1)), (0, .ref (a 0)), (1, .int (iI x1)), (2, .int (iI x2))]) hex hbc dX5_source_96 hl (by decide) rfl (fun ls hl => ?_)
              refine lv_iload_n hex hbc dX5_source_98 rfl (lv_at hl 5 rfl) ?_
              refine zt_if_ne (a := x2) (tgt := 105) hex hbc (by omega) dX5_source_99 (by decide) (fun c99 => ?_) (fun c99 => ?_)
              · skip
                refine lv_iload_n hex hbc dX5_source_105 rfl (lv_at hl 5 rfl) ?_
                refine lv_iconst (v := iI 1) hex hbc dX5_source_106 rfl ?_
                refine zt_icmp_ne (a := x2) (b := 1) (tgt := 146) hex hbc (by omega) dX5_source_107 (by decide) (fun c107 => ?_) (fun c107 => ?_)
                · skip
                  refine lv_iload hex hbc dX5_source_146 (lv_at hl 1 rfl) ?_
                  refine lv_aload_n hex hbc dX5_source_148 rfl (lv_at hl 3 rfl) ?_
                  refine va_get (v := .ref (a 5)) hex hbc hts hin5 hown hK hP 0 rfl rfl 6 (by decide) (hts _ (List.mem_of_getElem? (i := 2) rfl)) (fun _ h => h) rfl dX5_source_149 ?_
                  refine lv_iload hex hbc dX5_source_152 (lv_at hl 0 rfl) ?_
                  refine g_iald (f := f5_29) (v := (f5_29 (σ 0 (91 + p1)))) (i := (σ 0 (91 + p1))) hex hbc hK hP 5 0 rfl rfl (by decide) (by omega) rfl dX5_source_154 ?_
                  refine zt_nm (a := (f5_29 (σ 0 (91 + p1)))) (b := (bud (σ 0) (σ 0 (91 + p1)))) (hbud _ ho1.1 ho1.2) ?_
                  refine lv_aload_n hex hbc dX5_source_155 rfl (lv_at hl 3 rfl) ?_
                  refine lv_iload hex hbc dX5_source_156 (lv_at hl 0 rfl) ?_
                  refine g_calli [.int (iI (σ 0 (91 + p1)))] ⟨hex, hbc, hml, hown, hts⟩ (mX5_fadeOf l G cx a (sc (sc (sc (sc (sc σ 2 f2_29) 5 f5_29) 6 f6_29) 7 f7_29) 8 f8_29) (σ 0 (91 + p1)) (show 0 ≤ (σ 0 (91 + p1)) ∧ (σ 0 (91 + p1)) < σ 0 74 from by omega) hlay hbud hI) (cwV 1 hts gX5_source_X5_fadeOf rfl rfl rfl (by decide +kernel) ⟨Nat.le_of_ble_eq_true rfl, Nat.le_of_ble_eq_true rfl⟩) hK hP hD hS (fun _ h => h) 0 5 rfl rfl rfl rfl hl.1 (Nat.le_of_ble_eq_true rfl) dX5_source_158 ⟨Nat.zero_le _, Nat.zero_le _⟩ (fun r_158 u_158 H locs hw_158 hP hD hS hz_158 hk_158 => ?_)
                  obtain ⟨rfl, rfl⟩ := hw_158
                  refine zt_nm (a := (fad (σ 0) (bud (σ 0)) (plcf (σ 0) (σ 0 (91 + p1))))) (b := (fad (σ 0) (bud (σ 0)) p1)) (congrArg (fad (σ 0) (bud (σ 0))) (plcf_eq (hI.at_plc ⟨hi0, hi1⟩))) ?_
                  refine zt_isub hex hbc dX5_source_161 ?_
                  refine zt_icmp_lt (a := l1) (b := ((bud (σ 0) (σ 0 (91 + p1))) - (fad (σ 0) (bud (σ 0)) p1))) (tgt := 169) hex hbc (by omega) dX5_source_162 (by decide) (fun c162 => ?_) (fun c162 => ?_)
                  · skip
                    refine lv_iconst (v := iI 0) hex hbc dX5_source_169 rfl ?_
                    exact g_iret hex hbc hrt hlocks hK hP hD hS ⟨⟨_, rfl, ⟨fun h => absurd ⟨(by omega), c23⟩ h, fun _ => ⟨fun hl => absurd hlay hl, fun _ => ⟨p1, ⟨hi0, hi1⟩, ⟨hi2, hpx⟩, fun h => (by exfalso; omega), fun h => (by exfalso; omega), fun _ => (by rw [← hl1]; first | exact (if_pos (by omega)).symm | exact (if_neg (by omega)).symm)⟩⟩⟩⟩, ⟨rfl, rfl, hf2_29.1, hf2_29.2, rfl⟩⟩ dX5_source_170
                  · skip
                    refine lv_iconst (v := iI 1) hex hbc dX5_source_165 rfl ?_
                    refine lv_goto (tgt := 170) hex hbc dX5_source_166 (by decide) ?_
                    exact g_iret hex hbc hrt hlocks hK hP hD hS ⟨⟨_, rfl, ⟨fun h => absurd ⟨(by omega), c23⟩ h, fun _ => ⟨fun hl => absurd hlay hl, fun _ => ⟨p1, ⟨hi0, hi1⟩, ⟨hi2, hpx⟩, fun h => (by exfalso; omega), fun h => (by exfalso; omega), fun _ => (by rw [← hl1]; first | exact (if_pos (by omega)).symm | exact (if_neg (by omega)).symm)⟩⟩⟩⟩, ⟨rfl, rfl, hf2_29.1, hf2_29.2, rfl⟩⟩ dX5_source_170
                · skip
                  refine lv_aload_n hex hbc dX5_source_110 rfl (lv_at hl 3 rfl) ?_
                  refine lv_iload hex hbc dX5_source_111 (lv_at hl 0 rfl) ?_
                  refine g_calli [.int (iI (σ 0 (91 + p1)))] ⟨hex, hbc, hml, hown, hts⟩ (mX5_frameOf l G cx a (sc (sc (sc (sc (sc σ 2 f2_29) 5 f5_29) 6 f6_29) 7 f7_29) 8 f8_29) (σ 0 (91 + p1)) (show 0 ≤ (σ 0 (91 + p1)) ∧ (σ 0 (91 + p1)) ≤ 16 from by omega) hI) (cwV 1 hts gX5_source_X5_frameOf rfl rfl rfl (by decide +kernel) ⟨Nat.le_of_ble_eq_true rfl, Nat.le_of_ble_eq_true rfl⟩) hK hP hD hS (fun _ h => h) 0 5 rfl rfl rfl rfl hl.1 (Nat.le_of_ble_eq_true rfl) dX5_source_113 ⟨Nat.zero_le _, Nat.zero_le _⟩ (fun r_113 u_113 H locs hw_113 hP hD hS hz_113 hk_113 => ?_)
                  obtain ⟨rfl, rfl⟩ := hw_113
                  refine lv_aload_n hex hbc dX5_source_116 rfl (lv_at hl 3 rfl) ?_
                  refine va_get (v := .ref (a 1)) hex hbc hts hin5 hown hK hP 0 rfl rfl 0 (by decide) (hts _ (List.mem_of_getElem? (i := 1) rfl)) (fun _ h => h) rfl dX5_source_117 ?_
                  refine lv_iconst (v := iI 1) hex hbc dX5_source_120 rfl ?_
                  refine g_iald (f := (σ 0)) (v := (σ 0 1)) (i := 1) hex hbc hK hP 1 0 rfl rfl (by decide) (by omega) rfl dX5_source_121 ?_
                  refine zt_imul hex hbc dX5_source_122 ?_
                  refine lv_iload hex hbc dX5_source_123 (lv_at hl 1 rfl) ?_
                  refine zt_i2l (a := l1) hex hbc (by omega) dX5_source_125 ?_
                  refine lv_aload_n hex hbc dX5_source_126 rfl (lv_at hl 3 rfl) ?_
                  refine lv_iload hex hbc dX5_source_127 (lv_at hl 0 rfl) ?_
                  refine g_calli [.int (iI (σ 0 (91 + p1)))] ⟨hex, hbc, hml, hown, hts⟩ (mX5_lengthOf l G cx a (sc (sc (sc (sc (sc σ 2 f2_29) 5 f5_29) 6 f6_29) 7 f7_29) 8 f8_29) (σ 0 (91 + p1)) (show 0 ≤ (σ 0 (91 + p1)) ∧ (σ 0 (91 + p1)) < σ 0 74 from by omega) hI) (cwV 1 hts gX5_source_X5_lengthOf rfl rfl rfl (by decide +kernel) ⟨Nat.le_of_ble_eq_true rfl, Nat.le_of_ble_eq_true rfl⟩) hK hP hD hS (fun _ h => h) 0 5 rfl rfl rfl rfl hl.1 (Nat.le_of_ble_eq_true rfl) dX5_source_129 ⟨Nat.zero_le _, Nat.zero_le _⟩ (fun r_129 u_129 H locs hw_129 hP hD hS hz_129 hk_129 => ?_)
                  obtain ⟨rfl, rfl⟩ := hw_129
                  refine zt_i2l (a := (ln (σ 0) (σ 0 (91 + p1)))) hex hbc (by omega) dX5_source_132 ?_
                  refine zt_lmul hex hbc dX5_source_133 ?_
                  refine lv_aload_n hex hbc dX5_source_134 rfl (lv_at hl 3 rfl) ?_
                  refine va_get (v := .ref (a 5)) hex hbc hts hin5 hown hK hP 0 rfl rfl 6 (by decide) (hts _ (List.mem_of_getElem? (i := 2) rfl)) (fun _ h => h) rfl dX5_source_135 ?_
                  refine lv_iload hex hbc dX5_source_138 (lv_at hl 0 rfl) ?_
                  refine g_iald (f := f5_29) (v := (f5_29 (σ 0 (91 + p1)))) (i := (σ 0 (91 + p1))) hex hbc hK hP 5 0 rfl rfl (by decide) (by omega) rfl dX5_source_140 ?_
                  refine zt_nm (a := (f5_29 (σ 0 (91 + p1)))) (b := (bud (σ 0) (σ 0 (91 + p1)))) (hbud _ ho1.1 ho1.2) ?_
                  refine zt_i2l (a := (bud (σ 0) (σ 0 (91 + p1)))) hex hbc (by omega) dX5_source_141 ?_
                  refine zt_ldiv (a := (l1 * (ln (σ 0) (σ 0 (91 + p1))))) (b := (bud (σ 0) (σ 0 (91 + p1)))) hex hbc (by omega) dX5_source_142 ?_
                  refine zt_l2i hex hbc dX5_source_143 ?_
                  refine zt_iadd hex hbc dX5_source_144 ?_
                  exact g_iret hex hbc hrt hlocks hK hP hD hS ⟨⟨_, rfl, ⟨fun h => absurd ⟨(by omega), c23⟩ h, fun _ => ⟨fun hl => absurd hlay hl, fun _ => ⟨p1, ⟨hi0, hi1⟩, ⟨hi2, hpx⟩, fun h => (by exfalso; omega), fun _ => (by unfold org; rw [if_pos (by omega), ← hl1]; first | done | rfl), fun h => (by exfalso; omega)⟩⟩⟩⟩, ⟨rfl, rfl, hf2_29.1, hf2_29.2, rfl⟩⟩ dX5_source_145
              · skip
                refine lv_iload hex hbc dX5_source_102 (lv_at hl 0 rfl) ?_
                exact g_iret hex hbc hrt hlocks hK hP hD hS ⟨⟨_, rfl, ⟨fun h => absurd ⟨(by omega), c23⟩ h, fun _ => ⟨fun hl => absurd hlay hl, fun _ => ⟨p1, ⟨hi0, hi1⟩, ⟨hi2, hpx⟩, fun _ => rfl, fun h => (by exfalso; omega), fun h => (by exfalso; omega)⟩⟩⟩⟩, ⟨rfl, rfl, hf2_29.1, hf2_29.2, rfl⟩⟩ dX5_source_104
            · skip
              refine lv_iload hex hbc dX5_source_62 (lv_at hl 0 rfl) ?_
              refine lv_aload_n hex hbc dX5_source_64 rfl (lv_at hl 2 rfl) ?_
              refine va_get (v := .ref (a 5)) hex hbc hts hin5 hown hK hP 0 rfl rfl 6 (by decide) (hts _ (List.mem_of_getElem? (i := 2) rfl)) (fun _ h => h) rfl dX5_source_65 ?_
              refine lv_aload_n hex hbc dX5_source_68 rfl (lv_at hl 2 rfl) ?_
              refine va_get (v := .ref (a 1)) hex hbc hts hin5 hown hK hP 0 rfl rfl 0 (by decide) (hts _ (List.mem_of_getElem? (i := 1) rfl)) (fun _ h => h) rfl dX5_source_69 ?_
              refine lv_bipush (v := iI 91) hex hbc dX5_source_72 (by decide) ?_
              refine lv_iload_n hex hbc dX5_source_74 rfl (lv_at hl 1 rfl) ?_
              refine zt_iadd hex hbc dX5_source_75 ?_
              refine g_iald (f := (σ 0)) (v := (σ 0 (91 + p1))) (i := (91 + p1)) hex hbc hK hP 1 0 rfl rfl (by decide) (by omega) rfl dX5_source_76 ?_
              refine g_iald (f := f5_29) (v := (f5_29 (σ 0 (91 + p1)))) (i := (σ 0 (91 + p1))) hex hbc hK hP 5 0 rfl rfl (by decide) (by omega) rfl dX5_source_77 ?_
              refine zt_nm (a := (f5_29 (σ 0 (91 + p1)))) (b := (bud (σ 0) (σ 0 (91 + p1)))) (hbud _ ho1.1 ho1.2) ?_
              refine zt_isub hex hbc dX5_source_78 ?_
              refine lv_istore (lv' := [(4, .int (iI (l1 - (bud (σ 0) (σ 0 (91 + p1)))))), (3, .int (iI p1)), (0, .ref (a 0)), (1, .int (iI x1)), (2, .int (iI x2))]) hex hbc dX5_source_79 hl (by decide) rfl (fun ls hl => ?_)
              refine lv_iinc (v := iI (p1 + 1)) (lv' := [(3, .int (iI (p1 + 1))), (4, .int (iI (l1 - (bud (σ 0) (σ 0 (91 + p1)))))), (0, .ref (a 0)), (1, .int (iI x1)), (2, .int (iI x2))]) hex hbc dX5_source_81 hl (k := 1) rfl (iI_add _ _) (by decide) rfl (fun ls hl => ?_)
              refine lv_goto (tgt := 43) hex hbc dX5_source_84 (by decide) ?_
              exact ih_43 (p1 + 1) (l1 - (bud (σ 0) (σ 0 (91 + p1)))) ⟨by omega, (Int.lt_or_le (p1 + 1) (σ 0 74)).elim (fun q => q) (fun q => by exfalso; rw [show σ 0 74 = p1 + 1 by omega] at hpe; omega), by omega, by omega⟩ (by omega) _ _ _ hP hD hS (lv_sub hl [1, 0, 2, 3, 4] rfl)
        exact loop_43 _ 0 x1 ⟨by omega, by omega, (show (0 : Int) ≤ x1 by omega), (show x1 = x1 - 0 by omega)⟩ (mz_lt _) _ _ _ hP hD hS (lv_sub hl [0, 1, 2, 3, 4] rfl)
      · skip
        refine lv_bipush (v := iI (-9)) hex hbc dX5_source_35 (by decide) ?_
        exact g_iret hex hbc hrt hlocks hK hP hD hS ⟨⟨-9, rfl, fun h => absurd ⟨by omega, c23⟩ h, fun _ => ⟨fun _ => rfl, fun hl => absurd hl c32⟩⟩, ⟨rfl, rfl, hf2_29.1, hf2_29.2, rfl⟩⟩ dX5_source_37
    · skip
      refine lv_iconst (v := iI (-1)) hex hbc dX5_source_26 rfl ?_
      exact g_iret hex hbc hrt hlocks hK hP hD hS ⟨⟨-1, rfl, fun _ => rfl, fun h => (by exfalso; omega)⟩, ⟨rfl, rfl, rfl, rfl, rfl⟩⟩ dX5_source_27
