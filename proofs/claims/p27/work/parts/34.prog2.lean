/-! the program: the larger questions, images (rows laid by wip/gen) -/
theorem iX4_shift_X2 : ∀ w ∈ wsX20, w ∈ wsX4_shift := fun _ h => List.mem_cons_of_mem _ (List.mem_append_left _ (List.mem_append_right _ h))
theorem iX4_shift_X4 : ∀ w ∈ wsX40, w ∈ wsX4_shift := fun _ h => List.mem_cons_of_mem _ (List.mem_append_left _ (List.mem_append_left _ (List.mem_append_right _ h)))
set_option maxHeartbeats 4000000 in
set_option maxRecDepth 100000 in
theorem mX4_shift (l : Launch) (G : va_G) (cx a : Nat → Nat) (σ : Nat → Int → Int)   (hI : Inv (σ 0)) : Met l yX4_shift wsX4_shift ({ frames := 4, cells := 0, slots := 0, locals := 107 }) (va_Pc [.ref (a 0)] (gW G (tx cx) (XA a) (wx cx a) σ)) (va_Qi (fun r u => (can_ (σ 0) (σ 0 6) (σ 0 7) → iI (bst (σ 0) (σ 0 6) (σ 0 7) (σ 0 74 - 1).toNat 0 / σ 0 0) = r) ∧ (¬ can_ (σ 0) (σ 0 6) (σ 0 7) → iI (-9) = r) ∧ XQ_ σ u) (gW G (tx cx) (XA a) (wx cx a)) (XA a)) 0 0 (XA a) := by
  refine Met.ofW (cc := cX4_shift) (maxL := 2) (ret := some .int) (by decide) rfl ?_
  intro p e s m args below meth c s₁ B hml hv
  obtain ⟨rfl, hP, hK, hD⟩ := hv
  have hex := B.exec
  have hbc := B.bytes
  have hrt := B.returns
  have hts := atoms_spec (ws := wsX4_shift) B.pre
  have hown : s.vm.findClass RX4 = some m.cls := findClass_of_methodNamed B.named
  have hlocks := B.notSynchronized
  have hS : va_S (XA a) s.heap s.heap [] := va_S.rf
  have hin2 := iX4_shift_X2
  have hin4 := iX4_shift_X4
  have hl := lv_entry ([.ref (a 0)]) (n := 2) (Nat.le_of_ble_eq_true rfl)
  rw [lg_entry_eq]
  generalize (lg_sl ([.ref (a 0)]) ++ List.replicate (2 - (lg_sl ([.ref (a 0)])).length) Slot.unset).toArray = ls at hl ⊢
  have hl : lv_has ls 2 [(0, .ref (a 0))] := hl
  obtain ⟨hB, hEn, hMk, hAs, hPm⟩ := id hI
  have hcv := cv_in hI (T := σ 0 6) (G := σ 0 7) (d := (σ 0 74 - 1).toNat) (s := 0) (by omega) (by omega) (by omega) (by omega) (by omega)
  refine lv_aload_n hex hbc dX4_shift_0 rfl (lv_at hl 0 rfl) ?_
  refine va_get (v := .ref (a 8)) hex hbc hts hin4 hown hK hP 0 rfl rfl 1 (by decide) (hts _ (List.mem_of_getElem? (i := 1) rfl)) (fun _ h => h) rfl dX4_shift_1 ?_
  refine lv_aload_n hex hbc dX4_shift_4 rfl (lv_at hl 0 rfl) ?_
  refine va_get (v := .ref (a 3)) hex hbc hts hin4 hown hK hP 0 rfl rfl 0 (by decide) (hts _ (List.mem_of_getElem? (i := 2) rfl)) (fun _ h => h) rfl dX4_shift_5 ?_
  refine va_get (v := .ref (a 5)) hex hbc hts hin2 hown hK hP 3 rfl rfl 3 (by decide) (hts _ (List.mem_of_getElem? (i := 3) rfl)) (fun _ h => h) rfl dX4_shift_8 ?_
  refine lv_iconst (v := iI 5) hex hbc dX4_shift_11 rfl ?_
  refine g_iald (f := (fun k => (σ 0 (1 + k)))) (v := (σ 0 6)) (i := 5) hex hbc hK hP 5 0 rfl rfl (by decide) (by omega) rfl dX4_shift_12 ?_
  refine lv_aload_n hex hbc dX4_shift_13 rfl (lv_at hl 0 rfl) ?_
  refine va_get (v := .ref (a 3)) hex hbc hts hin4 hown hK hP 0 rfl rfl 0 (by decide) (hts _ (List.mem_of_getElem? (i := 2) rfl)) (fun _ h => h) rfl dX4_shift_14 ?_
  refine va_get (v := .ref (a 5)) hex hbc hts hin2 hown hK hP 3 rfl rfl 3 (by decide) (hts _ (List.mem_of_getElem? (i := 3) rfl)) (fun _ h => h) rfl dX4_shift_17 ?_
  refine lv_bipush (v := iI 6) hex hbc dX4_shift_20 (by decide) ?_
  refine g_iald (f := (fun k => (σ 0 (1 + k)))) (v := (σ 0 7)) (i := 6) hex hbc hK hP 5 0 rfl rfl (by decide) (by omega) rfl dX4_shift_22 ?_
  refine g_calli [.int (iI (σ 0 6)), .int (iI (σ 0 7))] ⟨hex, hbc, hml, hown, hts⟩ (mX0_leastSum l G cx a σ (σ 0 6) (σ 0 7) (by omega) (by omega) hI) (cwV 2 hts gX4_shift_X0_leastSum rfl rfl rfl (by decide +kernel) ⟨Nat.le_of_ble_eq_true rfl, Nat.le_of_ble_eq_true rfl⟩) hK hP hD hS (fun _ h => h) 8 0 rfl rfl rfl rfl hl.1 (Nat.le_of_ble_eq_true rfl) dX4_shift_23 ⟨Nat.zero_le _, Nat.zero_le _⟩ (fun r_23 u_23 H locs hw_23 hP hD hS hz_23 hk_23 => ?_)
  obtain ⟨f14_23, f15_23, f16_23, f17_23, f21_23, rfl, hrd_23, rfl⟩ := hw_23
  have hP : va_P G vwCl (wx cx a (sc (sc (sc (sc (sc σ 14 f14_23) 15 f15_23) 16 f16_23) 17 f17_23) 21 f21_23)) H := hP
  have hD : va_D (XA a) (wx cx a (sc (sc (sc (sc (sc σ 14 f14_23) 15 f15_23) 16 f16_23) 17 f17_23) 21 f21_23)) := hD
  refine lv_istore_n (lv' := [(1, .int (iI (cv_ (bst (σ 0) (σ 0 6) (σ 0 7) (σ 0 74 - 1).toNat 0)))), (0, .ref (a 0))]) hex hbc dX4_shift_26 rfl hl (by decide) rfl (fun ls hl => ?_)
  refine lv_iload_n hex hbc dX4_shift_27 rfl (lv_at hl 0 rfl) ?_
  refine lv_iconst (v := iI (-1)) hex hbc dX4_shift_28 rfl ?_
  refine zt_icmp_ne (a := (cv_ (bst (σ 0) (σ 0 6) (σ 0 7) (σ 0 74 - 1).toNat 0))) (b := (-1)) (tgt := 37) hex hbc (by omega) dX4_shift_29 (by decide) (fun c29 => ?_) (fun c29 => ?_)
  · skip
    refine lv_iload_n hex hbc dX4_shift_37 rfl (lv_at hl 0 rfl) ?_
    refine lv_aload_n hex hbc dX4_shift_38 rfl (lv_at hl 1 rfl) ?_
    refine va_get (v := .ref (a 3)) hex hbc hts hin4 hown hK hP 0 rfl rfl 0 (by decide) (hts _ (List.mem_of_getElem? (i := 2) rfl)) (fun _ h => h) rfl dX4_shift_39 ?_
    refine va_get (v := .int (iI (σ 0 0))) hex hbc hts hin2 hown hK hP 3 rfl rfl 0 (by decide) (hts _ (List.mem_of_getElem? (i := 4) rfl)) (fun _ h => h) rfl dX4_shift_42 ?_
    refine zt_idiv (a := (cv_ (bst (σ 0) (σ 0 6) (σ 0 7) (σ 0 74 - 1).toNat 0))) (b := (σ 0 0)) hex hbc (by omega) dX4_shift_45 ?_
    exact g_iret hex hbc hrt hlocks hK hP hD hS ⟨fun _ => congrArg iI (by rw [hcv.2.2.2 (fun q => c29 (by rw [q]; rfl))]), fun h => absurd (fun q => c29 (by rw [q]; rfl)) h, ⟨rfl, rfl, rfl, rfl, rfl, rfl⟩⟩ dX4_shift_46
  · skip
    refine lv_bipush (v := iI (-9)) hex hbc dX4_shift_32 (by decide) ?_
    refine lv_goto (tgt := 46) hex hbc dX4_shift_34 (by decide) ?_
    exact g_iret hex hbc hrt hlocks hK hP hD hS ⟨fun h => absurd (hcv.2.2.1.mp c29) h, fun _ => rfl, ⟨rfl, rfl, rfl, rfl, rfl, rfl⟩⟩ dX4_shift_46
theorem iX4_leastGrid_X2 : ∀ w ∈ wsX20, w ∈ wsX4_leastGrid := fun _ h => List.mem_cons_of_mem _ (List.mem_append_left _ (List.mem_append_right _ h))
theorem iX4_leastGrid_X4 : ∀ w ∈ wsX40, w ∈ wsX4_leastGrid := fun _ h => List.mem_cons_of_mem _ (List.mem_append_left _ (List.mem_append_left _ (List.mem_append_right _ h)))
set_option maxHeartbeats 4000000 in
set_option maxRecDepth 100000 in
theorem mX4_leastGrid (l : Launch) (G : va_G) (cx a : Nat → Nat) (σ : Nat → Int → Int)   (hI : Inv (σ 0)) : Met l yX4_leastGrid wsX4_leastGrid ({ frames := 5, cells := 0, slots := 0, locals := 129 }) (va_Pc [.ref (a 0)] (gW G (tx cx) (XA a) (wx cx a) σ)) (va_Qi (fun r u => (∃ v, iI v = r ∧ LG_ (σ 0) v) ∧ XQ_ σ u) (gW G (tx cx) (XA a) (wx cx a)) (XA a)) 0 0 (XA a) := by
  refine Met.ofW (cc := cX4_leastGrid) (maxL := 2) (ret := some .int) (by decide) rfl ?_
  intro p e s m args below meth c s₁ B hml hv
  obtain ⟨rfl, hP, hK, hD⟩ := hv
  have hex := B.exec
  have hbc := B.bytes
  have hrt := B.returns
  have hts := atoms_spec (ws := wsX4_leastGrid) B.pre
  have hown : s.vm.findClass RX4 = some m.cls := findClass_of_methodNamed B.named
  have hlocks := B.notSynchronized
  have hS : va_S (XA a) s.heap s.heap [] := va_S.rf
  have hin2 := iX4_leastGrid_X2
  have hin4 := iX4_leastGrid_X4
  have hl := lv_entry ([.ref (a 0)]) (n := 2) (Nat.le_of_ble_eq_true rfl)
  rw [lg_entry_eq]
  generalize (lg_sl ([.ref (a 0)]) ++ List.replicate (2 - (lg_sl ([.ref (a 0)])).length) Slot.unset).toArray = ls at hl ⊢
  have hl : lv_has ls 2 [(0, .ref (a 0))] := hl
  obtain ⟨hB, hEn, hMk, hAs, hPm⟩ := id hI
  refine lv_iconst (v := iI 1) hex hbc dX4_leastGrid_0 rfl ?_
  refine lv_istore_n (lv' := [(1, .int (iI 1)), (0, .ref (a 0))]) hex hbc dX4_leastGrid_1 rfl hl (by decide) rfl (fun ls hl => ?_)
  have loop_2 : ∀ (N : Nat) (g1 : Int) (b14 : Int → Int) (b15 : Int → Int) (b16 : Int → Int) (b17 : Int → Int) (b21 : Int → Int), (1 ≤ g1 ∧ g1 ≤ 33 ∧ ∀ g, 1 ≤ g → g < g1 → ¬ can_ (σ 0) (σ 0 6) g) → (33 - g1) < (N : Int) → ∀ (H : Heap) (locs : List Loc) (ls : Array Slot), va_P G vwCl (wx cx a (sc (sc (sc (sc (sc σ 14 b14) 15 b15) 16 b16) 17 b17) 21 b21)) H → va_D (XA a) (wx cx a (sc (sc (sc (sc (sc σ 14 b14) 15 b15) 16 b16) 17 b17) 21 b21)) → va_S (XA a) s.heap H locs → lv_has ls 2 [(1, .int (iI g1)), (0, .ref (a 0))] → W p l e (headSpec wsX4_leastGrid ({ frames := 5, cells := 0, slots := 0, locals := 129 })).room s m ([.ref (a 0)] : List Value).toArray below meth c H locs 0 0 (MQ below (va_Qi (fun r u => (∃ v, iI v = r ∧ LG_ (σ 0) v) ∧ XQ_ σ u) (gW G (tx cx) (XA a) (wx cx a)) (XA a)) ([.ref (a 0)] : List Value).toArray s 0 0 (XA a)) (F0 m 2 ls []) := by
    intro N
    induction N with
    | zero => intro g1 b14 b15 b16 b17 b21 hinv hlt; exfalso; omega
    | succ N ih_2 =>
      intro g1 b14 b15 b16 b17 b21 ⟨hi0, hi1, hw⟩ hlt_2 H locs ls hP hD hS hl
      refine lv_iload_n hex hbc dX4_leastGrid_2 rfl (lv_at hl 0 rfl) ?_
      refine lv_bipush (v := iI 32) hex hbc dX4_leastGrid_3 (by decide) ?_
      refine zt_icmp_gt (a := g1) (b := 32) (tgt := 36) hex hbc (by omega) dX4_leastGrid_5 (by decide) (fun c5 => ?_) (fun c5 => ?_)
      · skip
        refine lv_bipush (v := iI (-9)) hex hbc dX4_leastGrid_36 (by decide) ?_
        exact g_iret hex hbc hrt hlocks hK hP hD hS ⟨⟨-9, rfl, Or.inl ⟨rfl, fun g h1 h2 => hw g h1 (by omega)⟩⟩, ⟨rfl, rfl, rfl, rfl, rfl, rfl⟩⟩ dX4_leastGrid_38
      · skip
        refine lv_aload_n hex hbc dX4_leastGrid_8 rfl (lv_at hl 1 rfl) ?_
        refine va_get (v := .ref (a 8)) hex hbc hts hin4 hown hK hP 0 rfl rfl 1 (by decide) (hts _ (List.mem_of_getElem? (i := 1) rfl)) (fun _ h => h) rfl dX4_leastGrid_9 ?_
        refine lv_aload_n hex hbc dX4_leastGrid_12 rfl (lv_at hl 1 rfl) ?_
        refine va_get (v := .ref (a 3)) hex hbc hts hin4 hown hK hP 0 rfl rfl 0 (by decide) (hts _ (List.mem_of_getElem? (i := 2) rfl)) (fun _ h => h) rfl dX4_leastGrid_13 ?_
        refine va_get (v := .ref (a 5)) hex hbc hts hin2 hown hK hP 3 rfl rfl 3 (by decide) (hts _ (List.mem_of_getElem? (i := 3) rfl)) (fun _ h => h) rfl dX4_leastGrid_16 ?_
        refine lv_iconst (v := iI 5) hex hbc dX4_leastGrid_19 rfl ?_
        refine g_iald (f := (fun k => (σ 0 (1 + k)))) (v := (σ 0 6)) (i := 5) hex hbc hK hP 5 0 rfl rfl (by decide) (by omega) rfl dX4_leastGrid_20 ?_
        refine lv_iload_n hex hbc dX4_leastGrid_21 rfl (lv_at hl 0 rfl) ?_
        refine g_calli [.int (iI (σ 0 6)), .int (iI g1)] ⟨hex, hbc, hml, hown, hts⟩ (mX0_canLay l G cx a (sc (sc (sc (sc (sc σ 14 b14) 15 b15) 16 b16) 17 b17) 21 b21) (σ 0 6) g1 (show 1 ≤ (σ 0 6) ∧ (σ 0 6) ≤ 200000 from by omega) (show 1 ≤ g1 ∧ g1 ≤ 32 from by omega) hI) (cwV 2 hts gX4_leastGrid_X0_canLay rfl rfl rfl (by decide +kernel) ⟨Nat.le_of_ble_eq_true rfl, Nat.le_of_ble_eq_true rfl⟩) hK hP hD hS (fun _ h => h) 8 0 rfl rfl rfl rfl hl.1 (Nat.le_of_ble_eq_true rfl) dX4_leastGrid_22 ⟨Nat.zero_le _, Nat.zero_le _⟩ (fun r_22 u_22 H locs hw_22 hP hD hS hz_22 hk_22 => ?_)
        obtain ⟨⟨vb22, rfl, hv22⟩, f14_22, f15_22, f16_22, f17_22, f21_22, rfl⟩ := hw_22
        have hP : va_P G vwCl (wx cx a (sc (sc (sc (sc (sc σ 14 f14_22) 15 f15_22) 16 f16_22) 17 f17_22) 21 f21_22)) H := hP
        have hD : va_D (XA a) (wx cx a (sc (sc (sc (sc (sc σ 14 f14_22) 15 f15_22) 16 f16_22) 17 f17_22) 21 f21_22)) := hD
        have hv22 : ((can_ (σ 0) (σ 0 6) g1) ∧ vb22 = 1) ∨ (¬ (can_ (σ 0) (σ 0 6) g1) ∧ vb22 = 0) := hv22
        refine zt_ifb_eq (P := (can_ (σ 0) (σ 0 6) g1)) (tgt := 30) hex hbc hv22 dX4_leastGrid_25 (by decide) (fun c25 => ?_) (fun c25 => ?_)
        · skip
          refine lv_iinc (v := iI (g1 + 1)) (lv' := [(1, .int (iI (g1 + 1))), (0, .ref (a 0))]) hex hbc dX4_leastGrid_30 hl (k := 0) rfl (iI_add _ _) (by decide) rfl (fun ls hl => ?_)
          refine lv_goto (tgt := 2) hex hbc dX4_leastGrid_33 (by decide) ?_
          exact ih_2 (g1 + 1) f14_22 f15_22 f16_22 f17_22 f21_22 ⟨by omega, by omega, fun g h1 h2 => if hq : g = g1 then (by rw [hq]; exact c25) else hw g h1 (by omega)⟩ (by omega) _ _ _ hP hD hS (lv_sub hl [0, 1] rfl)
        · skip
          refine lv_iload_n hex hbc dX4_leastGrid_28 rfl (lv_at hl 0 rfl) ?_
          exact g_iret hex hbc hrt hlocks hK hP hD hS ⟨⟨g1, rfl, Or.inr ⟨hi0, by omega, c25, hw⟩⟩, ⟨rfl, rfl, rfl, rfl, rfl, rfl⟩⟩ dX4_leastGrid_29
  exact loop_2 _ 1 (σ 14) (σ 15) (σ 16) (σ 17) (σ 21) ⟨by omega, by omega, fun g h1 h2 => by omega⟩ (mz_lt _) _ _ _ hP hD hS (lv_sub hl [0, 1] rfl)
theorem iX4_nearTarget_X2 : ∀ w ∈ wsX20, w ∈ wsX4_nearTarget := fun _ h => List.mem_cons_of_mem _ (List.mem_append_left _ (List.mem_append_right _ h))
theorem iX4_nearTarget_X4 : ∀ w ∈ wsX40, w ∈ wsX4_nearTarget := fun _ h => List.mem_cons_of_mem _ (List.mem_append_left _ (List.mem_append_left _ (List.mem_append_right _ h)))
set_option maxHeartbeats 4000000 in
set_option maxRecDepth 100000 in
theorem mX4_nearTarget (l : Launch) (G : va_G) (cx a : Nat → Nat) (σ : Nat → Int → Int)  (x : Int) (hx : -2147483648 ≤ x ∧ x < 2147483648) (hI : Inv (σ 0)) : Met l yX4_nearTarget wsX4_nearTarget ({ frames := 5, cells := 0, slots := 0, locals := 129 }) (va_Pc [.ref (a 0), .int (iI x)] (gW G (tx cx) (XA a) (wx cx a) σ)) (va_Qi (fun r u => (¬ (0 ≤ x ∧ x ≤ 200) → iI (-1) = r) ∧ ((0 ≤ x ∧ x ≤ 200) → ∃ v, iI v = r ∧ NT_ (σ 0) x v) ∧ XQ_ σ u) (gW G (tx cx) (XA a) (wx cx a)) (XA a)) 0 0 (XA a) := by
  refine Met.ofW (cc := cX4_nearTarget) (maxL := 5) (ret := some .int) (by decide) rfl ?_
  intro p e s m args below meth c s₁ B hml hv
  obtain ⟨rfl, hP, hK, hD⟩ := hv
  have hex := B.exec
  have hbc := B.bytes
  have hrt := B.returns
  have hts := atoms_spec (ws := wsX4_nearTarget) B.pre
  have hown : s.vm.findClass RX4 = some m.cls := findClass_of_methodNamed B.named
  have hlocks := B.notSynchronized
  have hS : va_S (XA a) s.heap s.heap [] := va_S.rf
  have hin2 := iX4_nearTarget_X2
  have hin4 := iX4_nearTarget_X4
  have hl := lv_entry ([.ref (a 0), .int (iI x)]) (n := 5) (Nat.le_of_ble_eq_true rfl)
  rw [lg_entry_eq]
  generalize (lg_sl ([.ref (a 0), .int (iI x)]) ++ List.replicate (5 - (lg_sl ([.ref (a 0), .int (iI x)])).length) Slot.unset).toArray = ls at hl ⊢
  have hl : lv_has ls 5 [(0, .ref (a 0)), (1, .int (iI x))] := hl
  obtain ⟨hB, hEn, hMk, hAs, hPm⟩ := id hI
  refine lv_iload_n hex hbc dX4_nearTarget_0 rfl (lv_at hl 1 rfl) ?_
  refine zt_if_lt (a := x) (tgt := 11) hex hbc (by omega) dX4_nearTarget_1 (by decide) (fun c1 => ?_) (fun c1 => ?_)
  · skip
    refine lv_iconst (v := iI (-1)) hex hbc dX4_nearTarget_11 rfl ?_
    exact g_iret hex hbc hrt hlocks hK hP hD hS ⟨fun _ => rfl, fun h => (by exfalso; omega), ⟨rfl, rfl, rfl, rfl, rfl, rfl⟩⟩ dX4_nearTarget_12
  · skip
    refine lv_iload_n hex hbc dX4_nearTarget_4 rfl (lv_at hl 1 rfl) ?_
    refine lv_sipush (v := iI 200) hex hbc dX4_nearTarget_5 (by decide) ?_
    refine zt_icmp_le (a := x) (b := 200) (tgt := 13) hex hbc (by omega) dX4_nearTarget_8 (by decide) (fun c8 => ?_) (fun c8 => ?_)
    · skip
      refine lv_iconst (v := iI 0) hex hbc dX4_nearTarget_13 rfl ?_
      refine lv_istore_n (lv' := [(2, .int (iI 0)), (0, .ref (a 0)), (1, .int (iI x))]) hex hbc dX4_nearTarget_14 rfl hl (by decide) rfl (fun ls hl => ?_)
      have loop_15 : ∀ (N : Nat) (d1 : Int) (b14 : Int → Int) (b15 : Int → Int) (b16 : Int → Int) (b17 : Int → Int) (b21 : Int → Int), (0 ≤ d1 ∧ d1 ≤ x + 1 ∧ ∀ b, 0 ≤ b → b < d1 → ¬ okT (σ 0) (σ 0 6 - b) ∧ ¬ okT (σ 0) (σ 0 6 + b)) → (x + 1 - d1) < (N : Int) → ∀ (H : Heap) (locs : List Loc) (ls : Array Slot), va_P G vwCl (wx cx a (sc (sc (sc (sc (sc σ 14 b14) 15 b15) 16 b16) 17 b17) 21 b21)) H → va_D (XA a) (wx cx a (sc (sc (sc (sc (sc σ 14 b14) 15 b15) 16 b16) 17 b17) 21 b21)) → va_S (XA a) s.heap H locs → lv_has ls 5 [(2, .int (iI d1)), (0, .ref (a 0)), (1, .int (iI x))] → W p l e (headSpec wsX4_nearTarget ({ frames := 5, cells := 0, slots := 0, locals := 129 })).room s m ([.ref (a 0), .int (iI x)] : List Value).toArray below meth c H locs 0 0 (MQ below (va_Qi (fun r u => (¬ (0 ≤ x ∧ x ≤ 200) → iI (-1) = r) ∧ ((0 ≤ x ∧ x ≤ 200) → ∃ v, iI v = r ∧ NT_ (σ 0) x v) ∧ XQ_ σ u) (gW G (tx cx) (XA a) (wx cx a)) (XA a)) ([.ref (a 0), .int (iI x)] : List Value).toArray s 0 0 (XA a)) (F0 m 15 ls []) := by
        intro N
        induction N with
        | zero => intro d1 b14 b15 b16 b17 b21 hinv hlt; exfalso; have hz := hinv.2.1; omega
        | succ N ih_15 =>
          intro d1 b14 b15 b16 b17 b21 ⟨hi0, hi1, hw⟩ hlt_15 H locs ls hP hD hS hl
          refine lv_iload_n hex hbc dX4_nearTarget_15 rfl (lv_at hl 0 rfl) ?_
          refine lv_iload_n hex hbc dX4_nearTarget_16 rfl (lv_at hl 2 rfl) ?_
          refine zt_icmp_gt (a := d1) (b := x) (tgt := 111) hex hbc (by omega) dX4_nearTarget_17 (by decide) (fun c17 => ?_) (fun c17 => ?_)
          · skip
            refine lv_bipush (v := iI (-9)) hex hbc dX4_nearTarget_111 (by decide) ?_
            exact g_iret hex hbc hrt hlocks hK hP hD hS ⟨fun h => (by exfalso; omega), fun _ => ⟨-9, rfl, Or.inl ⟨rfl, fun d h1 h2 => hw d h1 (by omega)⟩⟩, ⟨rfl, rfl, rfl, rfl, rfl, rfl⟩⟩ dX4_nearTarget_113
          · skip
            refine lv_aload_n hex hbc dX4_nearTarget_20 rfl (lv_at hl 1 rfl) ?_
            refine va_get (v := .ref (a 3)) hex hbc hts hin4 hown hK hP 0 rfl rfl 0 (by decide) (hts _ (List.mem_of_getElem? (i := 1) rfl)) (fun _ h => h) rfl dX4_nearTarget_21 ?_
            refine va_get (v := .ref (a 5)) hex hbc hts hin2 hown hK hP 3 rfl rfl 3 (by decide) (hts _ (List.mem_of_getElem? (i := 2) rfl)) (fun _ h => h) rfl dX4_nearTarget_24 ?_
            refine lv_iconst (v := iI 5) hex hbc dX4_nearTarget_27 rfl ?_
            refine g_iald (f := (fun k => (σ 0 (1 + k)))) (v := (σ 0 6)) (i := 5) hex hbc hK hP 5 0 rfl rfl (by decide) (by omega) rfl dX4_nearTarget_28 ?_
            refine lv_iload_n hex hbc dX4_nearTarget_29 rfl (lv_at hl 0 rfl) ?_
            refine zt_isub hex hbc dX4_nearTarget_30 ?_
            refine lv_istore_n (lv' := [(3, .int (iI ((σ 0 6) - d1))), (2, .int (iI d1)), (0, .ref (a 0)), (1, .int (iI x))]) hex hbc dX4_nearTarget_31 rfl hl (by decide) rfl (fun ls hl => ?_)
            refine lv_iload_n hex hbc dX4_nearTarget_32 rfl (lv_at hl 0 rfl) ?_
            refine lv_iconst (v := iI 1) hex hbc dX4_nearTarget_33 rfl ?_
            refine zt_icmp_lt (a := ((σ 0 6) - d1)) (b := 1) (tgt := 60) hex hbc (by omega) dX4_nearTarget_34 (by decide) (fun c34 => ?_) (fun c34 => ?_)
            · skip
              refine lv_aload_n hex hbc dX4_nearTarget_60 rfl (lv_at hl 2 rfl) ?_
              refine va_get (v := .ref (a 3)) hex hbc hts hin4 hown hK hP 0 rfl rfl 0 (by decide) (hts _ (List.mem_of_getElem? (i := 1) rfl)) (fun _ h => h) rfl dX4_nearTarget_61 ?_
              refine va_get (v := .ref (a 5)) hex hbc hts hin2 hown hK hP 3 rfl rfl 3 (by decide) (hts _ (List.mem_of_getElem? (i := 2) rfl)) (fun _ h => h) rfl dX4_nearTarget_64 ?_
              refine lv_iconst (v := iI 5) hex hbc dX4_nearTarget_67 rfl ?_
              refine g_iald (f := (fun k => (σ 0 (1 + k)))) (v := (σ 0 6)) (i := 5) hex hbc hK hP 5 0 rfl rfl (by decide) (by omega) rfl dX4_nearTarget_68 ?_
              refine lv_iload_n hex hbc dX4_nearTarget_69 rfl (lv_at hl 1 rfl) ?_
              refine zt_iadd hex hbc dX4_nearTarget_70 ?_
              refine lv_istore (lv' := [(4, .int (iI ((σ 0 6) + d1))), (3, .int (iI ((σ 0 6) - d1))), (2, .int (iI d1)), (0, .ref (a 0)), (1, .int (iI x))]) hex hbc dX4_nearTarget_71 hl (by decide) rfl (fun ls hl => ?_)
              refine lv_iload hex hbc dX4_nearTarget_73 (lv_at hl 0 rfl) ?_
              refine lv_ldc (v := iI 200000) hex hbc hown (hts _ (List.mem_of_getElem? (i := 4) rfl)) dX4_nearTarget_75 ?_
              refine zt_icmp_gt (a := ((σ 0 6) + d1)) (b := 200000) (tgt := 105) hex hbc (by omega) dX4_nearTarget_77 (by decide) (fun c77 => ?_) (fun c77 => ?_)
              · skip
                refine lv_iinc (v := iI (d1 + 1)) (lv' := [(2, .int (iI (d1 + 1))), (4, .int (iI ((σ 0 6) + d1))), (3, .int (iI ((σ 0 6) - d1))), (0, .ref (a 0)), (1, .int (iI x))]) hex hbc dX4_nearTarget_105 hl (k := 2) rfl (iI_add _ _) (by decide) rfl (fun ls hl => ?_)
                refine lv_goto (tgt := 15) hex hbc dX4_nearTarget_108 (by decide) ?_
                exact ih_15 (d1 + 1) b14 b15 b16 b17 b21 ⟨by omega, by omega, fun b h1 h2 => if hq : b = d1 then (by rw [hq]; exact ⟨(fun h => (by first | exact c55 h.2 | exact absurd h.1.1 (by omega))), (fun h => (by first | exact c99 h.2 | exact absurd h.1.2 (by omega)))⟩) else hw b h1 (by omega)⟩ (by omega) _ _ _ hP hD hS (lv_sub hl [0, 3, 4] rfl)
              · skip
                refine lv_aload_n hex hbc dX4_nearTarget_80 rfl (lv_at hl 3 rfl) ?_
                refine va_get (v := .ref (a 8)) hex hbc hts hin4 hown hK hP 0 rfl rfl 1 (by decide) (hts _ (List.mem_of_getElem? (i := 3) rfl)) (fun _ h => h) rfl dX4_nearTarget_81 ?_
                refine lv_iload hex hbc dX4_nearTarget_84 (lv_at hl 0 rfl) ?_
                refine lv_aload_n hex hbc dX4_nearTarget_86 rfl (lv_at hl 3 rfl) ?_
                refine va_get (v := .ref (a 3)) hex hbc hts hin4 hown hK hP 0 rfl rfl 0 (by decide) (hts _ (List.mem_of_getElem? (i := 1) rfl)) (fun _ h => h) rfl dX4_nearTarget_87 ?_
                refine va_get (v := .ref (a 5)) hex hbc hts hin2 hown hK hP 3 rfl rfl 3 (by decide) (hts _ (List.mem_of_getElem? (i := 2) rfl)) (fun _ h => h) rfl dX4_nearTarget_90 ?_
                refine lv_bipush (v := iI 6) hex hbc dX4_nearTarget_93 (by decide) ?_
                refine g_iald (f := (fun k => (σ 0 (1 + k)))) (v := (σ 0 7)) (i := 6) hex hbc hK hP 5 0 rfl rfl (by decide) (by omega) rfl dX4_nearTarget_95 ?_
                refine g_calli [.int (iI ((σ 0 6) + d1)), .int (iI (σ 0 7))] ⟨hex, hbc, hml, hown, hts⟩ (mX0_canLay l G cx a (sc (sc (sc (sc (sc σ 14 b14) 15 b15) 16 b16) 17 b17) 21 b21) ((σ 0 6) + d1) (σ 0 7) (show 1 ≤ ((σ 0 6) + d1) ∧ ((σ 0 6) + d1) ≤ 200000 from by omega) (show 1 ≤ (σ 0 7) ∧ (σ 0 7) ≤ 32 from by omega) hI) (cwV 2 hts gX4_nearTarget_X0_canLay rfl rfl rfl (by decide +kernel) ⟨Nat.le_of_ble_eq_true rfl, Nat.le_of_ble_eq_true rfl⟩) hK hP hD hS (fun _ h => h) 8 0 rfl rfl rfl rfl hl.1 (Nat.le_of_ble_eq_true rfl) dX4_nearTarget_96 ⟨Nat.zero_le _, Nat.zero_le _⟩ (fun r_96 u_96 H locs hw_96 hP hD hS hz_96 hk_96 => ?_)
                obtain ⟨⟨vb96, rfl, hv96⟩, f14_96, f15_96, f16_96, f17_96, f21_96, rfl⟩ := hw_96
                have hP : va_P G vwCl (wx cx a (sc (sc (sc (sc (sc σ 14 f14_96) 15 f15_96) 16 f16_96) 17 f17_96) 21 f21_96)) H := hP
                have hD : va_D (XA a) (wx cx a (sc (sc (sc (sc (sc σ 14 f14_96) 15 f15_96) 16 f16_96) 17 f17_96) 21 f21_96)) := hD
                have hv96 : ((can_ (σ 0) ((σ 0 6) + d1) (σ 0 7)) ∧ vb96 = 1) ∨ (¬ (can_ (σ 0) ((σ 0 6) + d1) (σ 0 7)) ∧ vb96 = 0) := hv96
                refine zt_ifb_eq (P := (can_ (σ 0) ((σ 0 6) + d1) (σ 0 7))) (tgt := 105) hex hbc hv96 dX4_nearTarget_99 (by decide) (fun c99 => ?_) (fun c99 => ?_)
                · skip
                  refine lv_iinc (v := iI (d1 + 1)) (lv' := [(2, .int (iI (d1 + 1))), (4, .int (iI ((σ 0 6) + d1))), (3, .int (iI ((σ 0 6) - d1))), (0, .ref (a 0)), (1, .int (iI x))]) hex hbc dX4_nearTarget_105 hl (k := 2) rfl (iI_add _ _) (by decide) rfl (fun ls hl => ?_)
                  refine lv_goto (tgt := 15) hex hbc dX4_nearTarget_108 (by decide) ?_
                  exact ih_15 (d1 + 1) f14_96 f15_96 f16_96 f17_96 f21_96 ⟨by omega, by omega, fun b h1 h2 => if hq : b = d1 then (by rw [hq]; exact ⟨(fun h => (by first | exact c55 h.2 | exact absurd h.1.1 (by omega))), (fun h => (by first | exact c99 h.2 | exact absurd h.1.2 (by omega)))⟩) else hw b h1 (by omega)⟩ (by omega) _ _ _ hP hD hS (lv_sub hl [0, 3, 4] rfl)
                · skip
                  refine lv_iload hex hbc dX4_nearTarget_102 (lv_at hl 0 rfl) ?_
                  exact g_iret hex hbc hrt hlocks hK hP hD hS ⟨fun h => (by exfalso; omega), fun _ => ⟨_, rfl, Or.inr ⟨d1, hi0, by omega, hw, Or.inr ⟨(fun h => (by first | exact c55 h.2 | exact absurd h.1.1 (by omega))), ⟨⟨by omega, by omega⟩, c99⟩, rfl⟩⟩⟩, ⟨rfl, rfl, rfl, rfl, rfl, rfl⟩⟩ dX4_nearTarget_104
            · skip
              refine lv_aload_n hex hbc dX4_nearTarget_37 rfl (lv_at hl 2 rfl) ?_
              refine va_get (v := .ref (a 8)) hex hbc hts hin4 hown hK hP 0 rfl rfl 1 (by decide) (hts _ (List.mem_of_getElem? (i := 3) rfl)) (fun _ h => h) rfl dX4_nearTarget_38 ?_
              refine lv_iload_n hex hbc dX4_nearTarget_41 rfl (lv_at hl 0 rfl) ?_
              refine lv_aload_n hex hbc dX4_nearTarget_42 rfl (lv_at hl 2 rfl) ?_
              refine va_get (v := .ref (a 3)) hex hbc hts hin4 hown hK hP 0 rfl rfl 0 (by decide) (hts _ (List.mem_of_getElem? (i := 1) rfl)) (fun _ h => h) rfl dX4_nearTarget_43 ?_
              refine va_get (v := .ref (a 5)) hex hbc hts hin2 hown hK hP 3 rfl rfl 3 (by decide) (hts _ (List.mem_of_getElem? (i := 2) rfl)) (fun _ h => h) rfl dX4_nearTarget_46 ?_
              refine lv_bipush (v := iI 6) hex hbc dX4_nearTarget_49 (by decide) ?_
              refine g_iald (f := (fun k => (σ 0 (1 + k)))) (v := (σ 0 7)) (i := 6) hex hbc hK hP 5 0 rfl rfl (by decide) (by omega) rfl dX4_nearTarget_51 ?_
              refine g_calli [.int (iI ((σ 0 6) - d1)), .int (iI (σ 0 7))] ⟨hex, hbc, hml, hown, hts⟩ (mX0_canLay l G cx a (sc (sc (sc (sc (sc σ 14 b14) 15 b15) 16 b16) 17 b17) 21 b21) ((σ 0 6) - d1) (σ 0 7) (show 1 ≤ ((σ 0 6) - d1) ∧ ((σ 0 6) - d1) ≤ 200000 from by omega) (show 1 ≤ (σ 0 7) ∧ (σ 0 7) ≤ 32 from by omega) hI) (cwV 2 hts gX4_nearTarget_X0_canLay rfl rfl rfl (by decide +kernel) ⟨Nat.le_of_ble_eq_true rfl, Nat.le_of_ble_eq_true rfl⟩) hK hP hD hS (fun _ h => h) 8 0 rfl rfl rfl rfl hl.1 (Nat.le_of_ble_eq_true rfl) dX4_nearTarget_52 ⟨Nat.zero_le _, Nat.zero_le _⟩ (fun r_52 u_52 H locs hw_52 hP hD hS hz_52 hk_52 => ?_)
              obtain ⟨⟨vb52, rfl, hv52⟩, f14_52, f15_52, f16_52, f17_52, f21_52, rfl⟩ := hw_52
              have hP : va_P G vwCl (wx cx a (sc (sc (sc (sc (sc σ 14 f14_52) 15 f15_52) 16 f16_52) 17 f17_52) 21 f21_52)) H := hP
              have hD : va_D (XA a) (wx cx a (sc (sc (sc (sc (sc σ 14 f14_52) 15 f15_52) 16 f16_52) 17 f17_52) 21 f21_52)) := hD
              have hv52 : ((can_ (σ 0) ((σ 0 6) - d1) (σ 0 7)) ∧ vb52 = 1) ∨ (¬ (can_ (σ 0) ((σ 0 6) - d1) (σ 0 7)) ∧ vb52 = 0) := hv52
              refine zt_ifb_eq (P := (can_ (σ 0) ((σ 0 6) - d1) (σ 0 7))) (tgt := 60) hex hbc hv52 dX4_nearTarget_55 (by decide) (fun c55 => ?_) (fun c55 => ?_)
              · skip
                refine lv_aload_n hex hbc dX4_nearTarget_60 rfl (lv_at hl 2 rfl) ?_
                refine va_get (v := .ref (a 3)) hex hbc hts hin4 hown hK hP 0 rfl rfl 0 (by decide) (hts _ (List.mem_of_getElem? (i := 1) rfl)) (fun _ h => h) rfl dX4_nearTarget_61 ?_
                refine va_get (v := .ref (a 5)) hex hbc hts hin2 hown hK hP 3 rfl rfl 3 (by decide) (hts _ (List.mem_of_getElem? (i := 2) rfl)) (fun _ h => h) rfl dX4_nearTarget_64 ?_
                refine lv_iconst (v := iI 5) hex hbc dX4_nearTarget_67 rfl ?_
                refine g_iald (f := (fun k => (σ 0 (1 + k)))) (v := (σ 0 6)) (i := 5) hex hbc hK hP 5 0 rfl rfl (by decide) (by omega) rfl dX4_nearTarget_68 ?_
                refine lv_iload_n hex hbc dX4_nearTarget_69 rfl (lv_at hl 1 rfl) ?_
                refine zt_iadd hex hbc dX4_nearTarget_70 ?_
                refine lv_istore (lv' := [(4, .int (iI ((σ 0 6) + d1))), (3, .int (iI ((σ 0 6) - d1))), (2, .int (iI d1)), (0, .ref (a 0)), (1, .int (iI x))]) hex hbc dX4_nearTarget_71 hl (by decide) rfl (fun ls hl => ?_)
                refine lv_iload hex hbc dX4_nearTarget_73 (lv_at hl 0 rfl) ?_
                refine lv_ldc (v := iI 200000) hex hbc hown (hts _ (List.mem_of_getElem? (i := 4) rfl)) dX4_nearTarget_75 ?_
                refine zt_icmp_gt (a := ((σ 0 6) + d1)) (b := 200000) (tgt := 105) hex hbc (by omega) dX4_nearTarget_77 (by decide) (fun c77 => ?_) (fun c77 => ?_)
                · skip
                  refine lv_iinc (v := iI (d1 + 1)) (lv' := [(2, .int (iI (d1 + 1))), (4, .int (iI ((σ 0 6) + d1))), (3, .int (iI ((σ 0 6) - d1))), (0, .ref (a 0)), (1, .int (iI x))]) hex hbc dX4_nearTarget_105 hl (k := 2) rfl (iI_add _ _) (by decide) rfl (fun ls hl => ?_)
                  refine lv_goto (tgt := 15) hex hbc dX4_nearTarget_108 (by decide) ?_
                  exact ih_15 (d1 + 1) f14_52 f15_52 f16_52 f17_52 f21_52 ⟨by omega, by omega, fun b h1 h2 => if hq : b = d1 then (by rw [hq]; exact ⟨(fun h => (by first | exact c55 h.2 | exact absurd h.1.1 (by omega))), (fun h => (by first | exact c99 h.2 | exact absurd h.1.2 (by omega)))⟩) else hw b h1 (by omega)⟩ (by omega) _ _ _ hP hD hS (lv_sub hl [0, 3, 4] rfl)
                · skip
                  refine lv_aload_n hex hbc dX4_nearTarget_80 rfl (lv_at hl 3 rfl) ?_
                  refine va_get (v := .ref (a 8)) hex hbc hts hin4 hown hK hP 0 rfl rfl 1 (by decide) (hts _ (List.mem_of_getElem? (i := 3) rfl)) (fun _ h => h) rfl dX4_nearTarget_81 ?_
                  refine lv_iload hex hbc dX4_nearTarget_84 (lv_at hl 0 rfl) ?_
                  refine lv_aload_n hex hbc dX4_nearTarget_86 rfl (lv_at hl 3 rfl) ?_
                  refine va_get (v := .ref (a 3)) hex hbc hts hin4 hown hK hP 0 rfl rfl 0 (by decide) (hts _ (List.mem_of_getElem? (i := 1) rfl)) (fun _ h => h) rfl dX4_nearTarget_87 ?_
                  refine va_get (v := .ref (a 5)) hex hbc hts hin2 hown hK hP 3 rfl rfl 3 (by decide) (hts _ (List.mem_of_getElem? (i := 2) rfl)) (fun _ h => h) rfl dX4_nearTarget_90 ?_
                  refine lv_bipush (v := iI 6) hex hbc dX4_nearTarget_93 (by decide) ?_
                  refine g_iald (f := (fun k => (σ 0 (1 + k)))) (v := (σ 0 7)) (i := 6) hex hbc hK hP 5 0 rfl rfl (by decide) (by omega) rfl dX4_nearTarget_95 ?_
                  refine g_calli [.int (iI ((σ 0 6) + d1)), .int (iI (σ 0 7))] ⟨hex, hbc, hml, hown, hts⟩ (mX0_canLay l G cx a (sc (sc (sc (sc (sc σ 14 f14_52) 15 f15_52) 16 f16_52) 17 f17_52) 21 f21_52) ((σ 0 6) + d1) (σ 0 7) (show 1 ≤ ((σ 0 6) + d1) ∧ ((σ 0 6) + d1) ≤ 200000 from by omega) (show 1 ≤ (σ 0 7) ∧ (σ 0 7) ≤ 32 from by omega) hI) (cwV 2 hts gX4_nearTarget_X0_canLay rfl rfl rfl (by decide +kernel) ⟨Nat.le_of_ble_eq_true rfl, Nat.le_of_ble_eq_true rfl⟩) hK hP hD hS (fun _ h => h) 8 0 rfl rfl rfl rfl hl.1 (Nat.le_of_ble_eq_true rfl) dX4_nearTarget_96 ⟨Nat.zero_le _, Nat.zero_le _⟩ (fun r_96 u_96 H locs hw_96 hP hD hS hz_96 hk_96 => ?_)
                  obtain ⟨⟨vb96, rfl, hv96⟩, f14_96, f15_96, f16_96, f17_96, f21_96, rfl⟩ := hw_96
                  have hP : va_P G vwCl (wx cx a (sc (sc (sc (sc (sc σ 14 f14_96) 15 f15_96) 16 f16_96) 17 f17_96) 21 f21_96)) H := hP
                  have hD : va_D (XA a) (wx cx a (sc (sc (sc (sc (sc σ 14 f14_96) 15 f15_96) 16 f16_96) 17 f17_96) 21 f21_96)) := hD
                  have hv96 : ((can_ (σ 0) ((σ 0 6) + d1) (σ 0 7)) ∧ vb96 = 1) ∨ (¬ (can_ (σ 0) ((σ 0 6) + d1) (σ 0 7)) ∧ vb96 = 0) := hv96
                  refine zt_ifb_eq (P := (can_ (σ 0) ((σ 0 6) + d1) (σ 0 7))) (tgt := 105) hex hbc hv96 dX4_nearTarget_99 (by decide) (fun c99 => ?_) (fun c99 => ?_)
                  · skip
                    refine lv_iinc (v := iI (d1 + 1)) (lv' := [(2, .int (iI (d1 + 1))), (4, .int (iI ((σ 0 6) + d1))), (3, .int (iI ((σ 0 6) - d1))), (0, .ref (a 0)), (1, .int (iI x))]) hex hbc dX4_nearTarget_105 hl (k := 2) rfl (iI_add _ _) (by decide) rfl (fun ls hl => ?_)
                    refine lv_goto (tgt := 15) hex hbc dX4_nearTarget_108 (by decide) ?_
                    exact ih_15 (d1 + 1) f14_96 f15_96 f16_96 f17_96 f21_96 ⟨by omega, by omega, fun b h1 h2 => if hq : b = d1 then (by rw [hq]; exact ⟨(fun h => (by first | exact c55 h.2 | exact absurd h.1.1 (by omega))), (fun h => (by first | exact c99 h.2 | exact absurd h.1.2 (by omega)))⟩) else hw b h1 (by omega)⟩ (by omega) _ _ _ hP hD hS (lv_sub hl [0, 3, 4] rfl)
                  · skip
                    refine lv_iload hex hbc dX4_nearTarget_102 (lv_at hl 0 rfl) ?_
                    exact g_iret hex hbc hrt hlocks hK hP hD hS ⟨fun h => (by exfalso; omega), fun _ => ⟨_, rfl, Or.inr ⟨d1, hi0, by omega, hw, Or.inr ⟨(fun h => (by first | exact c55 h.2 | exact absurd h.1.1 (by omega))), ⟨⟨by omega, by omega⟩, c99⟩, rfl⟩⟩⟩, ⟨rfl, rfl, rfl, rfl, rfl, rfl⟩⟩ dX4_nearTarget_104
              · skip
                refine lv_iload_n hex hbc dX4_nearTarget_58 rfl (lv_at hl 0 rfl) ?_
                exact g_iret hex hbc hrt hlocks hK hP hD hS ⟨fun h => (by exfalso; omega), fun _ => ⟨_, rfl, Or.inr ⟨d1, hi0, by omega, hw, Or.inl ⟨⟨⟨by omega, by omega⟩, c55⟩, rfl⟩⟩⟩, ⟨rfl, rfl, rfl, rfl, rfl, rfl⟩⟩ dX4_nearTarget_59
      exact loop_15 _ 0 (σ 14) (σ 15) (σ 16) (σ 17) (σ 21) ⟨by omega, by omega, fun b h1 h2 => by omega⟩ (mz_lt _) _ _ _ hP hD hS (lv_sub hl [0, 1, 2] rfl)
    · skip
      refine lv_iconst (v := iI (-1)) hex hbc dX4_nearTarget_11 rfl ?_
      exact g_iret hex hbc hrt hlocks hK hP hD hS ⟨fun _ => rfl, fun h => (by exfalso; omega), ⟨rfl, rfl, rfl, rfl, rfl, rfl⟩⟩ dX4_nearTarget_12
theorem iX4_marksWith_X4 : ∀ w ∈ wsX40, w ∈ wsX4_marksWith := fun _ h => List.mem_cons_of_mem _ (List.mem_append_left _ (List.mem_append_right _ h))
set_option maxHeartbeats 4000000 in
set_option maxRecDepth 100000 in
theorem mX4_marksWith (l : Launch) (G : va_G) (cx a : Nat → Nat) (σ : Nat → Int → Int)  (x : Int) (hx : -2147483648 ≤ x ∧ x < 2147483648) (hI : Inv (σ 0)) : Met l yX4_marksWith wsX4_marksWith ({ frames := 1, cells := 0, slots := 0, locals := 25 }) (va_Pc [.ref (a 0), .int (iI x)] (gW G (tx cx) (XA a) (wx cx a) σ)) (va_Qi (fun r u => ((1 ≤ x ∧ x ≤ 999) → iI (fnd (σ 0) x) = r) ∧ (¬ (1 ≤ x ∧ x ≤ 999) → iI (-1) = r) ∧ XQ_ σ u) (gW G (tx cx) (XA a) (wx cx a)) (XA a)) 0 0 (XA a) := by
  refine Met.ofW (cc := cX4_marksWith) (maxL := 2) (ret := some .int) (by decide) rfl ?_
  intro p e s m args below meth c s₁ B hml hv
  obtain ⟨rfl, hP, hK, hD⟩ := hv
  have hex := B.exec
  have hbc := B.bytes
  have hrt := B.returns
  have hts := atoms_spec (ws := wsX4_marksWith) B.pre
  have hown : s.vm.findClass RX4 = some m.cls := findClass_of_methodNamed B.named
  have hlocks := B.notSynchronized
  have hS : va_S (XA a) s.heap s.heap [] := va_S.rf
  have hin4 := iX4_marksWith_X4
  have hl := lv_entry ([.ref (a 0), .int (iI x)]) (n := 2) (Nat.le_of_ble_eq_true rfl)
  rw [lg_entry_eq]
  generalize (lg_sl ([.ref (a 0), .int (iI x)]) ++ List.replicate (2 - (lg_sl ([.ref (a 0), .int (iI x)])).length) Slot.unset).toArray = ls at hl ⊢
  have hl : lv_has ls 2 [(0, .ref (a 0)), (1, .int (iI x))] := hl
  obtain ⟨hB, hEn, hMk, hAs, hPm⟩ := id hI
  have hf1 := (fbn_1 (σ 0) x (fun k => σ 0 (75 + k)) (σ 13) (σ 0 0 - 1).toNat).1
  refine lv_iload_n hex hbc dX4_marksWith_0 rfl (lv_at hl 1 rfl) ?_
  refine lv_iconst (v := iI 1) hex hbc dX4_marksWith_1 rfl ?_
  refine zt_icmp_lt (a := x) (b := 1) (tgt := 12) hex hbc (by omega) dX4_marksWith_2 (by decide) (fun c2 => ?_) (fun c2 => ?_)
  · skip
    refine lv_iconst (v := iI (-1)) hex hbc dX4_marksWith_12 rfl ?_
    exact g_iret hex hbc hrt hlocks hK hP hD hS ⟨fun h => (by exfalso; omega), fun _ => rfl, ⟨rfl, rfl, rfl, rfl, rfl, rfl⟩⟩ dX4_marksWith_13
  · skip
    refine lv_iload_n hex hbc dX4_marksWith_5 rfl (lv_at hl 1 rfl) ?_
    refine lv_sipush (v := iI 999) hex hbc dX4_marksWith_6 (by decide) ?_
    refine zt_icmp_le (a := x) (b := 999) (tgt := 14) hex hbc (by omega) dX4_marksWith_9 (by decide) (fun c9 => ?_) (fun c9 => ?_)
    · skip
      refine lv_aload_n hex hbc dX4_marksWith_14 rfl (lv_at hl 0 rfl) ?_
      refine va_get (v := .ref (a 3)) hex hbc hts hin4 hown hK hP 0 rfl rfl 0 (by decide) (hts _ (List.mem_of_getElem? (i := 1) rfl)) (fun _ h => h) rfl dX4_marksWith_15 ?_
      refine lv_iload_n hex hbc dX4_marksWith_18 rfl (lv_at hl 1 rfl) ?_
      refine lv_aload_n hex hbc dX4_marksWith_19 rfl (lv_at hl 0 rfl) ?_
      refine va_get (v := .ref (a 2)) hex hbc hts hin4 hown hK hP 0 rfl rfl 6 (by decide) (hts _ (List.mem_of_getElem? (i := 2) rfl)) (fun _ h => h) rfl dX4_marksWith_20 ?_
      refine g_calli [.int (iI x), .ref (a 2)] ⟨hex, hbc, hml, hown, hts⟩ (mX2_findRises_2 l G cx a σ x (by omega) hI) (cwV 2 hts gX4_marksWith_X2_findRises rfl rfl rfl (by decide +kernel) ⟨Nat.le_of_ble_eq_true rfl, Nat.le_of_ble_eq_true rfl⟩) hK hP hD hS (fun _ h => h) 3 2 rfl rfl rfl rfl hl.1 (Nat.le_of_ble_eq_true rfl) dX4_marksWith_23 ⟨Nat.zero_le _, Nat.zero_le _⟩ (fun r_23 u_23 H locs hw_23 hP hD hS hz_23 hk_23 => ?_)
      obtain ⟨rfl, rfl⟩ := hw_23
      have hP : va_P G vwCl (wx cx a (sc σ 13 ((fbn (σ 0) x (σ 13) (σ 0 0 - 1).toNat).2))) H := hP
      have hD : va_D (XA a) (wx cx a (sc σ 13 ((fbn (σ 0) x (σ 13) (σ 0 0 - 1).toNat).2))) := hD
      exact g_iret hex hbc hrt hlocks hK hP hD hS ⟨fun _ => congrArg iI hf1, fun h => absurd ⟨by omega, by omega⟩ h, ⟨rfl, rfl, rfl, rfl, rfl, rfl⟩⟩ dX4_marksWith_26
    · skip
      refine lv_iconst (v := iI (-1)) hex hbc dX4_marksWith_12 rfl ?_
      exact g_iret hex hbc hrt hlocks hK hP hD hS ⟨fun h => (by exfalso; omega), fun _ => rfl, ⟨rfl, rfl, rfl, rfl, rfl, rfl⟩⟩ dX4_marksWith_13
theorem iX4_told_X1 : ∀ w ∈ wsX10, w ∈ wsX4_told := fun _ h => List.mem_cons_of_mem _ (List.mem_append_left _ (List.mem_append_left _ (List.mem_append_right _ h)))
theorem iX4_told_X2 : ∀ w ∈ wsX20, w ∈ wsX4_told := fun _ h => List.mem_cons_of_mem _ (List.mem_append_left _ (List.mem_append_left _ (List.mem_append_left _ (List.mem_append_right _ h))))
theorem iX4_told_X4 : ∀ w ∈ wsX40, w ∈ wsX4_told := fun _ h => List.mem_cons_of_mem _ (List.mem_append_left _ (List.mem_append_left _ (List.mem_append_left _ (List.mem_append_left _ (List.mem_append_right _ h)))))
set_option maxHeartbeats 4000000 in
set_option maxRecDepth 100000 in
theorem mX4_told (l : Launch) (G : va_G) (cx a : Nat → Nat) (σ : Nat → Int → Int)  (x : Int) (hx : -2147483648 ≤ x ∧ x < 2147483648) (hI : Inv (σ 0)) : Met l yX4_told wsX4_told ({ frames := 6, cells := 0, slots := 0, locals := 150 }) (va_Pc [.ref (a 0), .int (iI x)] (gW G (tx cx) (XA a) (wx cx a) σ)) (va_Qi (fun r u => (∃ v, iI v = r ∧ TD_ (σ 0) (σ 12 1) x v) ∧ XQ_ σ u) (gW G (tx cx) (XA a) (wx cx a)) (XA a)) 0 0 (XA a) := by
  refine Met.ofW (cc := cX4_told) (maxL := 2) (ret := some .int) (by decide) rfl ?_
  intro p e s m args below meth c s₁ B hml hv
  obtain ⟨rfl, hP, hK, hD⟩ := hv
  have hex := B.exec
  have hbc := B.bytes
  have hrt := B.returns
  have hts := atoms_spec (ws := wsX4_told) B.pre
  have hown : s.vm.findClass RX4 = some m.cls := findClass_of_methodNamed B.named
  have hlocks := B.notSynchronized
  have hS : va_S (XA a) s.heap s.heap [] := va_S.rf
  have hin1 := iX4_told_X1
  have hin2 := iX4_told_X2
  have hin4 := iX4_told_X4
  have hl := lv_entry ([.ref (a 0), .int (iI x)]) (n := 2) (Nat.le_of_ble_eq_true rfl)
  rw [lg_entry_eq]
  generalize (lg_sl ([.ref (a 0), .int (iI x)]) ++ List.replicate (2 - (lg_sl ([.ref (a 0), .int (iI x)])).length) Slot.unset).toArray = ls at hl ⊢
  have hl : lv_has ls 2 [(0, .ref (a 0)), (1, .int (iI x))] := hl
  obtain ⟨hB, hEn, hMk, hAs, hPm⟩ := id hI
  refine lv_iload_n hex hbc dX4_told_0 rfl (lv_at hl 1 rfl) ?_
  by_cases cs1 : x < 0 ∨ 6 < x
  · refine lv_tableOut (tgt := 148) hex hbc dX4_told_1 (by rw [iI_toInt (by omega)]; exact cs1) (by decide) ?_
    refine lv_iconst (v := iI (-1)) hex hbc dX4_told_148 rfl ?_
    exact g_iret hex hbc hrt hlocks hK hP hD hS ⟨⟨_, rfl, by unfold TD_; refine ⟨fun h => ?_, fun h => ?_, fun h => ?_, fun h => ⟨fun hl => ?_, fun hl => ?_⟩, fun h => ⟨fun hl => ?_, fun hl => ?_⟩, fun h => ⟨fun hl => ?_, fun hl => ?_⟩, fun h => ?_, fun h => ?_⟩ <;> first | (exfalso; omega) | rfl | contradiction⟩, ⟨rfl, rfl, rfl, rfl, rfl, rfl⟩⟩ dX4_told_149
  by_cases cs1_0 : x = 0
  · refine zt_nm (a := x) (b := 0) cs1_0 ?_
    refine lv_tableIn (off := 43) (tgt := 44) hex hbc dX4_told_1 (by decide) (by decide) rfl (by decide) ?_
    refine lv_aload_n hex hbc dX4_told_44 rfl (lv_at hl 0 rfl) ?_
    refine va_get (v := .ref (a 3)) hex hbc hts hin4 hown hK hP 0 rfl rfl 0 (by decide) (hts _ (List.mem_of_getElem? (i := 1) rfl)) (fun _ h => h) rfl dX4_told_45 ?_
    refine va_get (v := .int (iI (σ 0 0))) hex hbc hts hin2 hown hK hP 3 rfl rfl 0 (by decide) (hts _ (List.mem_of_getElem? (i := 2) rfl)) (fun _ h => h) rfl dX4_told_48 ?_
    exact g_iret hex hbc hrt hlocks hK hP hD hS ⟨⟨_, rfl, by unfold TD_; refine ⟨fun h => ?_, fun h => ?_, fun h => ?_, fun h => ⟨fun hl => ?_, fun hl => ?_⟩, fun h => ⟨fun hl => ?_, fun hl => ?_⟩, fun h => ⟨fun hl => ?_, fun hl => ?_⟩, fun h => ?_, fun h => ?_⟩ <;> first | (exfalso; omega) | rfl | contradiction⟩, ⟨rfl, rfl, rfl, rfl, rfl, rfl⟩⟩ dX4_told_51
  by_cases cs1_1 : x = 1
  · refine zt_nm (a := x) (b := 1) cs1_1 ?_
    refine lv_tableIn (off := 51) (tgt := 52) hex hbc dX4_told_1 (by decide) (by decide) rfl (by decide) ?_
    refine lv_aload_n hex hbc dX4_told_52 rfl (lv_at hl 0 rfl) ?_
    refine va_get (v := .ref (a 3)) hex hbc hts hin4 hown hK hP 0 rfl rfl 0 (by decide) (hts _ (List.mem_of_getElem? (i := 1) rfl)) (fun _ h => h) rfl dX4_told_53 ?_
    refine va_get (v := .int (iI (σ 0 0))) hex hbc hts hin2 hown hK hP 3 rfl rfl 0 (by decide) (hts _ (List.mem_of_getElem? (i := 2) rfl)) (fun _ h => h) rfl dX4_told_56 ?_
    refine lv_aload_n hex hbc dX4_told_59 rfl (lv_at hl 0 rfl) ?_
    refine va_get (v := .ref (a 3)) hex hbc hts hin4 hown hK hP 0 rfl rfl 0 (by decide) (hts _ (List.mem_of_getElem? (i := 1) rfl)) (fun _ h => h) rfl dX4_told_60 ?_
    refine va_get (v := .ref (a 5)) hex hbc hts hin2 hown hK hP 3 rfl rfl 3 (by decide) (hts _ (List.mem_of_getElem? (i := 3) rfl)) (fun _ h => h) rfl dX4_told_63 ?_
    refine lv_iconst (v := iI 0) hex hbc dX4_told_66 rfl ?_
    refine g_iald (f := (fun k => (σ 0 (1 + k)))) (v := (σ 0 1)) (i := 0) hex hbc hK hP 5 0 rfl rfl (by decide) (by omega) rfl dX4_told_67 ?_
    refine zt_imul hex hbc dX4_told_68 ?_
    exact g_iret hex hbc hrt hlocks hK hP hD hS ⟨⟨_, rfl, by unfold TD_; refine ⟨fun h => ?_, fun h => ?_, fun h => ?_, fun h => ⟨fun hl => ?_, fun hl => ?_⟩, fun h => ⟨fun hl => ?_, fun hl => ?_⟩, fun h => ⟨fun hl => ?_, fun hl => ?_⟩, fun h => ?_, fun h => ?_⟩ <;> first | (exfalso; omega) | rfl | contradiction⟩, ⟨rfl, rfl, rfl, rfl, rfl, rfl⟩⟩ dX4_told_69
  by_cases cs1_2 : x = 2
  · refine zt_nm (a := x) (b := 2) cs1_2 ?_
    refine lv_tableIn (off := 69) (tgt := 70) hex hbc dX4_told_1 (by decide) (by decide) rfl (by decide) ?_
    refine lv_aload_n hex hbc dX4_told_70 rfl (lv_at hl 0 rfl) ?_
    refine va_get (v := .ref (a 3)) hex hbc hts hin4 hown hK hP 0 rfl rfl 0 (by decide) (hts _ (List.mem_of_getElem? (i := 1) rfl)) (fun _ h => h) rfl dX4_told_71 ?_
    refine va_get (v := .int (iI (σ 0 74))) hex hbc hts hin2 hown hK hP 3 rfl rfl 1 (by decide) (hts _ (List.mem_of_getElem? (i := 4) rfl)) (fun _ h => h) rfl dX4_told_74 ?_
    exact g_iret hex hbc hrt hlocks hK hP hD hS ⟨⟨_, rfl, by unfold TD_; refine ⟨fun h => ?_, fun h => ?_, fun h => ?_, fun h => ⟨fun hl => ?_, fun hl => ?_⟩, fun h => ⟨fun hl => ?_, fun hl => ?_⟩, fun h => ⟨fun hl => ?_, fun hl => ?_⟩, fun h => ?_, fun h => ?_⟩ <;> first | (exfalso; omega) | rfl | contradiction⟩, ⟨rfl, rfl, rfl, rfl, rfl, rfl⟩⟩ dX4_told_77
  by_cases cs1_3 : x = 3
  · refine zt_nm (a := x) (b := 3) cs1_3 ?_
    refine lv_tableIn (off := 77) (tgt := 78) hex hbc dX4_told_1 (by decide) (by decide) rfl (by decide) ?_
    refine lv_aload_n hex hbc dX4_told_78 rfl (lv_at hl 0 rfl) ?_
    refine va_get (v := .ref (a 14)) hex hbc hts hin4 hown hK hP 0 rfl rfl 2 (by decide) (hts _ (List.mem_of_getElem? (i := 5) rfl)) (fun _ h => h) rfl dX4_told_79 ?_
    refine g_calli [] ⟨hex, hbc, hml, hown, hts⟩ (mX3_lay l G cx a σ  hI) (cwV 0 hts gX4_told_X3_lay rfl rfl rfl (by decide +kernel) ⟨Nat.le_of_ble_eq_true rfl, Nat.le_of_ble_eq_true rfl⟩) hK hP hD hS (fun _ h => h) 14 3 rfl rfl rfl rfl hl.1 (Nat.le_of_ble_eq_true rfl) dX4_told_82 ⟨Nat.zero_le _, Nat.zero_le _⟩ (fun r_82 u_82 H locs hw_82 hP hD hS hz_82 hk_82 => ?_)
    obtain ⟨⟨vb82, rfl, hv82⟩, f14_82, f15_82, f16_82, f17_82, f18_82, f19_82, f20_82, f21_82, hbu_82, hst_82, rfl⟩ := hw_82
    have hP : va_P G vwCl (wx cx a (sc (sc (sc (sc (sc (sc (sc (sc σ 14 f14_82) 15 f15_82) 16 f16_82) 17 f17_82) 18 f18_82) 19 f19_82) 20 f20_82) 21 f21_82)) H := hP
    have hD : va_D (XA a) (wx cx a (sc (sc (sc (sc (sc (sc (sc (sc σ 14 f14_82) 15 f15_82) 16 f16_82) 17 f17_82) 18 f18_82) 19 f19_82) 20 f20_82) 21 f21_82)) := hD
    refine zt_ifb_eq (P := (lay_ (σ 0))) (tgt := 92) hex hbc hv82 dX4_told_85 (by decide) (fun c85 => ?_) (fun c85 => ?_)
    · skip
      refine lv_iconst (v := iI 0) hex hbc dX4_told_92 rfl ?_
      exact g_iret hex hbc hrt hlocks hK hP hD hS ⟨⟨_, rfl, by unfold TD_; refine ⟨fun h => ?_, fun h => ?_, fun h => ?_, fun h => ⟨fun hl => ?_, fun hl => ?_⟩, fun h => ⟨fun hl => ?_, fun hl => ?_⟩, fun h => ⟨fun hl => ?_, fun hl => ?_⟩, fun h => ?_, fun h => ?_⟩ <;> first | (exfalso; omega) | rfl | contradiction⟩, ⟨rfl, rfl, rfl, rfl, rfl, rfl⟩⟩ dX4_told_93
    · skip
      refine lv_iconst (v := iI 1) hex hbc dX4_told_88 rfl ?_
      refine lv_goto (tgt := 93) hex hbc dX4_told_89 (by decide) ?_
      exact g_iret hex hbc hrt hlocks hK hP hD hS ⟨⟨_, rfl, by unfold TD_; refine ⟨fun h => ?_, fun h => ?_, fun h => ?_, fun h => ⟨fun hl => ?_, fun hl => ?_⟩, fun h => ⟨fun hl => ?_, fun hl => ?_⟩, fun h => ⟨fun hl => ?_, fun hl => ?_⟩, fun h => ?_, fun h => ?_⟩ <;> first | (exfalso; omega) | rfl | contradiction⟩, ⟨rfl, rfl, rfl, rfl, rfl, rfl⟩⟩ dX4_told_93
  by_cases cs1_4 : x = 4
  · refine zt_nm (a := x) (b := 4) cs1_4 ?_
    refine lv_tableIn (off := 93) (tgt := 94) hex hbc dX4_told_1 (by decide) (by decide) rfl (by decide) ?_
    refine lv_aload_n hex hbc dX4_told_94 rfl (lv_at hl 0 rfl) ?_
    refine va_get (v := .ref (a 14)) hex hbc hts hin4 hown hK hP 0 rfl rfl 2 (by decide) (hts _ (List.mem_of_getElem? (i := 5) rfl)) (fun _ h => h) rfl dX4_told_95 ?_
    refine g_calli [] ⟨hex, hbc, hml, hown, hts⟩ (mX3_lay l G cx a σ  hI) (cwV 0 hts gX4_told_X3_lay rfl rfl rfl (by decide +kernel) ⟨Nat.le_of_ble_eq_true rfl, Nat.le_of_ble_eq_true rfl⟩) hK hP hD hS (fun _ h => h) 14 3 rfl rfl rfl rfl hl.1 (Nat.le_of_ble_eq_true rfl) dX4_told_98 ⟨Nat.zero_le _, Nat.zero_le _⟩ (fun r_98 u_98 H locs hw_98 hP hD hS hz_98 hk_98 => ?_)
    obtain ⟨⟨vb98, rfl, hv98⟩, f14_98, f15_98, f16_98, f17_98, f18_98, f19_98, f20_98, f21_98, hbu_98, hst_98, rfl⟩ := hw_98
    have hP : va_P G vwCl (wx cx a (sc (sc (sc (sc (sc (sc (sc (sc σ 14 f14_98) 15 f15_98) 16 f16_98) 17 f17_98) 18 f18_98) 19 f19_98) 20 f20_98) 21 f21_98)) H := hP
    have hD : va_D (XA a) (wx cx a (sc (sc (sc (sc (sc (sc (sc (sc σ 14 f14_98) 15 f15_98) 16 f16_98) 17 f17_98) 18 f18_98) 19 f19_98) 20 f20_98) 21 f21_98)) := hD
    refine zt_ifb_eq (P := (lay_ (σ 0))) (tgt := 114) hex hbc hv98 dX4_told_101 (by decide) (fun c101 => ?_) (fun c101 => ?_)
    · skip
      refine lv_bipush (v := iI (-9)) hex hbc dX4_told_114 (by decide) ?_
      exact g_iret hex hbc hrt hlocks hK hP hD hS ⟨⟨_, rfl, by unfold TD_; refine ⟨fun h => ?_, fun h => ?_, fun h => ?_, fun h => ⟨fun hl => ?_, fun hl => ?_⟩, fun h => ⟨fun hl => ?_, fun hl => ?_⟩, fun h => ⟨fun hl => ?_, fun hl => ?_⟩, fun h => ?_, fun h => ?_⟩ <;> first | (exfalso; omega) | rfl | contradiction⟩, ⟨rfl, rfl, rfl, rfl, rfl, rfl⟩⟩ dX4_told_116
    · skip
      have hlay : lay_ (σ 0) := c101
      have hbud := hbu_98 hlay
      refine lv_aload_n hex hbc dX4_told_104 rfl (lv_at hl 0 rfl) ?_
      refine va_get (v := .ref (a 14)) hex hbc hts hin4 hown hK hP 0 rfl rfl 2 (by decide) (hts _ (List.mem_of_getElem? (i := 5) rfl)) (fun _ h => h) rfl dX4_told_105 ?_
      refine g_calli [] ⟨hex, hbc, hml, hown, hts⟩ (mX3_countBeyondLimits l G cx a (sc (sc (sc (sc (sc (sc (sc (sc σ 14 f14_98) 15 f15_98) 16 f16_98) 17 f17_98) 18 f18_98) 19 f19_98) 20 f20_98) 21 f21_98)  hlay hbud hI) (cwV 0 hts gX4_told_X3_countBeyondLimits rfl rfl rfl (by decide +kernel) ⟨Nat.le_of_ble_eq_true rfl, Nat.le_of_ble_eq_true rfl⟩) hK hP hD hS (fun _ h => h) 14 3 rfl rfl rfl rfl hl.1 (Nat.le_of_ble_eq_true rfl) dX4_told_108 ⟨Nat.zero_le _, Nat.zero_le _⟩ (fun r_108 u_108 H locs hw_108 hP hD hS hz_108 hk_108 => ?_)
      obtain ⟨rfl, rfl⟩ := hw_108
      refine lv_goto (tgt := 116) hex hbc dX4_told_111 (by decide) ?_
      exact g_iret hex hbc hrt hlocks hK hP hD hS ⟨⟨_, rfl, by unfold TD_; refine ⟨fun h => ?_, fun h => ?_, fun h => ?_, fun h => ⟨fun hl => ?_, fun hl => ?_⟩, fun h => ⟨fun hl => ?_, fun hl => ?_⟩, fun h => ⟨fun hl => ?_, fun hl => ?_⟩, fun h => ?_, fun h => ?_⟩ <;> first | (exfalso; omega) | rfl | contradiction⟩, ⟨rfl, rfl, rfl, rfl, rfl, rfl⟩⟩ dX4_told_116
  by_cases cs1_5 : x = 5
  · refine zt_nm (a := x) (b := 5) cs1_5 ?_
    refine lv_tableIn (off := 116) (tgt := 117) hex hbc dX4_told_1 (by decide) (by decide) rfl (by decide) ?_
    refine lv_aload_n hex hbc dX4_told_117 rfl (lv_at hl 0 rfl) ?_
    refine va_get (v := .ref (a 14)) hex hbc hts hin4 hown hK hP 0 rfl rfl 2 (by decide) (hts _ (List.mem_of_getElem? (i := 5) rfl)) (fun _ h => h) rfl dX4_told_118 ?_
    refine g_calli [] ⟨hex, hbc, hml, hown, hts⟩ (mX3_lay l G cx a σ  hI) (cwV 0 hts gX4_told_X3_lay rfl rfl rfl (by decide +kernel) ⟨Nat.le_of_ble_eq_true rfl, Nat.le_of_ble_eq_true rfl⟩) hK hP hD hS (fun _ h => h) 14 3 rfl rfl rfl rfl hl.1 (Nat.le_of_ble_eq_true rfl) dX4_told_121 ⟨Nat.zero_le _, Nat.zero_le _⟩ (fun r_121 u_121 H locs hw_121 hP hD hS hz_121 hk_121 => ?_)
    obtain ⟨⟨vb121, rfl, hv121⟩, f14_121, f15_121, f16_121, f17_121, f18_121, f19_121, f20_121, f21_121, hbu_121, hst_121, rfl⟩ := hw_121
    have hP : va_P G vwCl (wx cx a (sc (sc (sc (sc (sc (sc (sc (sc σ 14 f14_121) 15 f15_121) 16 f16_121) 17 f17_121) 18 f18_121) 19 f19_121) 20 f20_121) 21 f21_121)) H := hP
    have hD : va_D (XA a) (wx cx a (sc (sc (sc (sc (sc (sc (sc (sc σ 14 f14_121) 15 f15_121) 16 f16_121) 17 f17_121) 18 f18_121) 19 f19_121) 20 f20_121) 21 f21_121)) := hD
    refine zt_ifb_eq (P := (lay_ (σ 0))) (tgt := 137) hex hbc hv121 dX4_told_124 (by decide) (fun c124 => ?_) (fun c124 => ?_)
    · skip
      refine lv_bipush (v := iI (-9)) hex hbc dX4_told_137 (by decide) ?_
      exact g_iret hex hbc hrt hlocks hK hP hD hS ⟨⟨_, rfl, by unfold TD_; refine ⟨fun h => ?_, fun h => ?_, fun h => ?_, fun h => ⟨fun hl => ?_, fun hl => ?_⟩, fun h => ⟨fun hl => ?_, fun hl => ?_⟩, fun h => ⟨fun hl => ?_, fun hl => ?_⟩, fun h => ?_, fun h => ?_⟩ <;> first | (exfalso; omega) | rfl | contradiction⟩, ⟨rfl, rfl, rfl, rfl, rfl, rfl⟩⟩ dX4_told_139
    · skip
      have hlay : lay_ (σ 0) := c124
      have hbud := hbu_121 hlay
      refine lv_aload_n hex hbc dX4_told_127 rfl (lv_at hl 0 rfl) ?_
      refine va_get (v := .ref (a 14)) hex hbc hts hin4 hown hK hP 0 rfl rfl 2 (by decide) (hts _ (List.mem_of_getElem? (i := 5) rfl)) (fun _ h => h) rfl dX4_told_128 ?_
      refine g_calli [] ⟨hex, hbc, hml, hown, hts⟩ (mX3_sumFades l G cx a (sc (sc (sc (sc (sc (sc (sc (sc σ 14 f14_121) 15 f15_121) 16 f16_121) 17 f17_121) 18 f18_121) 19 f19_121) 20 f20_121) 21 f21_121)  hlay hbud hI) (cwV 0 hts gX4_told_X3_sumFades rfl rfl rfl (by decide +kernel) ⟨Nat.le_of_ble_eq_true rfl, Nat.le_of_ble_eq_true rfl⟩) hK hP hD hS (fun _ h => h) 14 3 rfl rfl rfl rfl hl.1 (Nat.le_of_ble_eq_true rfl) dX4_told_131 ⟨Nat.zero_le _, Nat.zero_le _⟩ (fun r_131 u_131 H locs hw_131 hP hD hS hz_131 hk_131 => ?_)
      obtain ⟨rfl, rfl⟩ := hw_131
      refine lv_goto (tgt := 139) hex hbc dX4_told_134 (by decide) ?_
      exact g_iret hex hbc hrt hlocks hK hP hD hS ⟨⟨_, rfl, by unfold TD_; refine ⟨fun h => ?_, fun h => ?_, fun h => ?_, fun h => ⟨fun hl => ?_, fun hl => ?_⟩, fun h => ⟨fun hl => ?_, fun hl => ?_⟩, fun h => ⟨fun hl => ?_, fun hl => ?_⟩, fun h => ?_, fun h => ?_⟩ <;> first | (exfalso; omega) | rfl | contradiction⟩, ⟨rfl, rfl, rfl, rfl, rfl, rfl⟩⟩ dX4_told_139
  have cs1_6 : x = 6 := by omega
  refine zt_nm (a := x) (b := 6) cs1_6 ?_
  refine lv_tableIn (off := 139) (tgt := 140) hex hbc dX4_told_1 (by decide) (by decide) rfl (by decide) ?_
  refine lv_aload_n hex hbc dX4_told_140 rfl (lv_at hl 0 rfl) ?_
  refine va_get (v := .ref (a 17)) hex hbc hts hin4 hown hK hP 0 rfl rfl 3 (by decide) (hts _ (List.mem_of_getElem? (i := 6) rfl)) (fun _ h => h) rfl dX4_told_141 ?_
  refine va_get (v := .int (iI (σ 12 1))) hex hbc hts hin1 hown hK hP 17 rfl rfl 2 (by decide) (hts _ (List.mem_of_getElem? (i := 7) rfl)) (fun _ h => h) rfl dX4_told_144 ?_
  exact g_iret hex hbc hrt hlocks hK hP hD hS ⟨⟨_, rfl, by unfold TD_; refine ⟨fun h => ?_, fun h => ?_, fun h => ?_, fun h => ⟨fun hl => ?_, fun hl => ?_⟩, fun h => ⟨fun hl => ?_, fun hl => ?_⟩, fun h => ⟨fun hl => ?_, fun hl => ?_⟩, fun h => ?_, fun h => ?_⟩ <;> first | (exfalso; omega) | rfl | contradiction⟩, ⟨rfl, rfl, rfl, rfl, rfl, rfl⟩⟩ dX4_told_147
theorem iX4_slice_X0 : ∀ w ∈ wsX00, w ∈ wsX4_slice := fun _ h => List.mem_cons_of_mem _ (List.mem_append_right _ h)
theorem iX4_slice_X2 : ∀ w ∈ wsX20, w ∈ wsX4_slice := fun _ h => List.mem_cons_of_mem _ (List.mem_append_left _ (List.mem_append_left _ (List.mem_append_right _ h)))
theorem iX4_slice_X3 : ∀ w ∈ wsX30, w ∈ wsX4_slice := fun _ h => List.mem_cons_of_mem _ (List.mem_append_left _ (List.mem_append_right _ h))
theorem iX4_slice_X4 : ∀ w ∈ wsX40, w ∈ wsX4_slice := fun _ h => List.mem_cons_of_mem _ (List.mem_append_left _ (List.mem_append_left _ (List.mem_append_left _ (List.mem_append_right _ h))))
set_option maxHeartbeats 4000000 in
set_option maxRecDepth 100000 in
theorem mX4_slice (l : Launch) (G : va_G) (cx a : Nat → Nat) (σ : Nat → Int → Int)  (x1 : Int) (x2 : Int) (h1 : -2147483648 ≤ x1 ∧ x1 < 2147483648) (h2 : -2147483648 ≤ x2 ∧ x2 < 2147483648) (hI : Inv (σ 0)) : Met l yX4_slice wsX4_slice ({ frames := 6, cells := 0, slots := 0, locals := 150 }) (va_Pc [.ref (a 0), .int (iI x1), .int (iI x2)] (gW G (tx cx) (XA a) (wx cx a) σ)) (va_Qi (fun r u => (∃ v, iI v = r ∧ SL_ (σ 0) x1 x2 v) ∧ XQ_ σ u) (gW G (tx cx) (XA a) (wx cx a)) (XA a)) 0 0 (XA a) := by
  refine Met.ofW (cc := cX4_slice) (maxL := 3) (ret := some .int) (by decide) rfl ?_
  intro p e s m args below meth c s₁ B hml hv
  obtain ⟨rfl, hP, hK, hD⟩ := hv
  have hex := B.exec
  have hbc := B.bytes
  have hrt := B.returns
  have hts := atoms_spec (ws := wsX4_slice) B.pre
  have hown : s.vm.findClass RX4 = some m.cls := findClass_of_methodNamed B.named
  have hlocks := B.notSynchronized
  have hS : va_S (XA a) s.heap s.heap [] := va_S.rf
  have hin0 := iX4_slice_X0
  have hin2 := iX4_slice_X2
  have hin3 := iX4_slice_X3
  have hin4 := iX4_slice_X4
  have hl := lv_entry ([.ref (a 0), .int (iI x1), .int (iI x2)]) (n := 3) (Nat.le_of_ble_eq_true rfl)
  rw [lg_entry_eq]
  generalize (lg_sl ([.ref (a 0), .int (iI x1), .int (iI x2)]) ++ List.replicate (3 - (lg_sl ([.ref (a 0), .int (iI x1), .int (iI x2)])).length) Slot.unset).toArray = ls at hl ⊢
  have hl : lv_has ls 3 [(0, .ref (a 0)), (1, .int (iI x1)), (2, .int (iI x2))] := hl
  obtain ⟨hB, hEn, hMk, hAs, hPm⟩ := id hI
  refine lv_aload_n hex hbc dX4_slice_0 rfl (lv_at hl 0 rfl) ?_
  refine va_get (v := .ref (a 3)) hex hbc hts hin4 hown hK hP 0 rfl rfl 0 (by decide) (hts _ (List.mem_of_getElem? (i := 1) rfl)) (fun _ h => h) rfl dX4_slice_1 ?_
  refine lv_iload_n hex hbc dX4_slice_4 rfl (lv_at hl 1 rfl) ?_
  refine g_calli [.int (iI x1)] ⟨hex, hbc, hml, hown, hts⟩ (mX2_isSlice l G cx a σ x1 (by omega) hI) (cwV 1 hts gX4_slice_X2_isSlice rfl rfl rfl (by decide +kernel) ⟨Nat.le_of_ble_eq_true rfl, Nat.le_of_ble_eq_true rfl⟩) hK hP hD hS (fun _ h => h) 3 2 rfl rfl rfl rfl hl.1 (Nat.le_of_ble_eq_true rfl) dX4_slice_5 ⟨Nat.zero_le _, Nat.zero_le _⟩ (fun r_5 u_5 H locs hw_5 hP hD hS hz_5 hk_5 => ?_)
  obtain ⟨rfl, vb5, rfl, hv5⟩ := hw_5
  refine zt_ifb_ne (P := (0 ≤ x1 ∧ x1 < σ 0 74)) (tgt := 13) hex hbc hv5 dX4_slice_8 (by decide) (fun c8 => ?_) (fun c8 => ?_)
  · skip
    refine lv_iload_n hex hbc dX4_slice_13 rfl (lv_at hl 2 rfl) ?_
    by_cases cs14 : x2 < 0 ∨ 7 < x2
    · refine lv_tableOut (tgt := 212) hex hbc dX4_slice_14 (by rw [iI_toInt (by omega)]; exact cs14) (by decide) ?_
      refine lv_iconst (v := iI (-1)) hex hbc dX4_slice_212 rfl ?_
      exact g_iret hex hbc hrt hlocks hK hP hD hS ⟨⟨_, rfl, by unfold SL_; refine ⟨fun h => ?_, fun h0 => ⟨fun h => ?_, fun h => ?_, fun h => ⟨fun hl => ?_, fun hl => ?_⟩, fun h => ⟨fun hl => ?_, fun hl => ?_⟩, fun h => ⟨fun hl => ?_, fun hl => ?_⟩, fun h => ?_, fun h => ⟨fun hl => ?_, fun hl => ?_⟩, fun h => ?_⟩⟩ <;> first | (exfalso; omega) | rfl | contradiction | (exact absurd hl.1 (by assumption)) | (exact absurd ⟨by assumption, by assumption⟩ hl) | (exfalso; exact hl.2 (by assumption)) | (rw [plcf_eq (w := σ 0) (by assumption)]; first | done | rfl)⟩, ⟨rfl, rfl, rfl, rfl, rfl, rfl⟩⟩ dX4_slice_213
    by_cases cs14_0 : x2 = 0
    · refine zt_nm (a := x2) (b := 0) cs14_0 ?_
      refine lv_tableIn (off := 46) (tgt := 60) hex hbc dX4_slice_14 (by decide) (by decide) rfl (by decide) ?_
      refine lv_aload_n hex hbc dX4_slice_60 rfl (lv_at hl 0 rfl) ?_
      refine va_get (v := .ref (a 3)) hex hbc hts hin4 hown hK hP 0 rfl rfl 0 (by decide) (hts _ (List.mem_of_getElem? (i := 1) rfl)) (fun _ h => h) rfl dX4_slice_61 ?_
      refine va_get (v := .ref (a 6)) hex hbc hts hin2 hown hK hP 3 rfl rfl 4 (by decide) (hts _ (List.mem_of_getElem? (i := 2) rfl)) (fun _ h => h) rfl dX4_slice_64 ?_
      refine lv_iload_n hex hbc dX4_slice_67 rfl (lv_at hl 1 rfl) ?_
      refine g_iald (f := (fun k => (σ 0 (75 + k)))) (v := (σ 0 (75 + x1))) (i := x1) hex hbc hK hP 6 0 rfl rfl (by decide) (by omega) rfl dX4_slice_68 ?_
      refine zt_nm (a := (σ 0 (75 + x1))) (b := (fr (σ 0) x1)) (fr_lt c8.2).symm ?_
      exact g_iret hex hbc hrt hlocks hK hP hD hS ⟨⟨_, rfl, by unfold SL_; refine ⟨fun h => ?_, fun h0 => ⟨fun h => ?_, fun h => ?_, fun h => ⟨fun hl => ?_, fun hl => ?_⟩, fun h => ⟨fun hl => ?_, fun hl => ?_⟩, fun h => ⟨fun hl => ?_, fun hl => ?_⟩, fun h => ?_, fun h => ⟨fun hl => ?_, fun hl => ?_⟩, fun h => ?_⟩⟩ <;> first | (exfalso; omega) | rfl | contradiction | (exact absurd hl.1 (by assumption)) | (exact absurd ⟨by assumption, by assumption⟩ hl) | (exfalso; exact hl.2 (by assumption)) | (rw [plcf_eq (w := σ 0) (by assumption)]; first | done | rfl)⟩, ⟨rfl, rfl, rfl, rfl, rfl, rfl⟩⟩ dX4_slice_69
    by_cases cs14_1 : x2 = 1
    · refine zt_nm (a := x2) (b := 1) cs14_1 ?_
      refine lv_tableIn (off := 56) (tgt := 70) hex hbc dX4_slice_14 (by decide) (by decide) rfl (by decide) ?_
      refine lv_aload_n hex hbc dX4_slice_70 rfl (lv_at hl 0 rfl) ?_
      refine va_get (v := .ref (a 3)) hex hbc hts hin4 hown hK hP 0 rfl rfl 0 (by decide) (hts _ (List.mem_of_getElem? (i := 1) rfl)) (fun _ h => h) rfl dX4_slice_71 ?_
      refine lv_iload_n hex hbc dX4_slice_74 rfl (lv_at hl 1 rfl) ?_
      refine g_calli [.int (iI x1)] ⟨hex, hbc, hml, hown, hts⟩ (mX2_lengthOf l G cx a σ x1 (by omega) hI) (cwV 1 hts gX4_slice_X2_lengthOf rfl rfl rfl (by decide +kernel) ⟨Nat.le_of_ble_eq_true rfl, Nat.le_of_ble_eq_true rfl⟩) hK hP hD hS (fun _ h => h) 3 2 rfl rfl rfl rfl hl.1 (Nat.le_of_ble_eq_true rfl) dX4_slice_75 ⟨Nat.zero_le _, Nat.zero_le _⟩ (fun r_75 u_75 H locs hw_75 hP hD hS hz_75 hk_75 => ?_)
      obtain ⟨rfl, rfl⟩ := hw_75
      exact g_iret hex hbc hrt hlocks hK hP hD hS ⟨⟨_, rfl, by unfold SL_; refine ⟨fun h => ?_, fun h0 => ⟨fun h => ?_, fun h => ?_, fun h => ⟨fun hl => ?_, fun hl => ?_⟩, fun h => ⟨fun hl => ?_, fun hl => ?_⟩, fun h => ⟨fun hl => ?_, fun hl => ?_⟩, fun h => ?_, fun h => ⟨fun hl => ?_, fun hl => ?_⟩, fun h => ?_⟩⟩ <;> first | (exfalso; omega) | rfl | contradiction | (exact absurd hl.1 (by assumption)) | (exact absurd ⟨by assumption, by assumption⟩ hl) | (exfalso; exact hl.2 (by assumption)) | (rw [plcf_eq (w := σ 0) (by assumption)]; first | done | rfl)⟩, ⟨rfl, rfl, rfl, rfl, rfl, rfl⟩⟩ dX4_slice_78
    by_cases cs14_2 : x2 = 2
    · refine zt_nm (a := x2) (b := 2) cs14_2 ?_
      refine lv_tableIn (off := 65) (tgt := 79) hex hbc dX4_slice_14 (by decide) (by decide) rfl (by decide) ?_
      refine lv_aload_n hex hbc dX4_slice_79 rfl (lv_at hl 0 rfl) ?_
      refine va_get (v := .ref (a 14)) hex hbc hts hin4 hown hK hP 0 rfl rfl 2 (by decide) (hts _ (List.mem_of_getElem? (i := 3) rfl)) (fun _ h => h) rfl dX4_slice_80 ?_
      refine g_calli [] ⟨hex, hbc, hml, hown, hts⟩ (mX3_lay l G cx a σ  hI) (cwV 0 hts gX4_slice_X3_lay rfl rfl rfl (by decide +kernel) ⟨Nat.le_of_ble_eq_true rfl, Nat.le_of_ble_eq_true rfl⟩) hK hP hD hS (fun _ h => h) 14 3 rfl rfl rfl rfl hl.1 (Nat.le_of_ble_eq_true rfl) dX4_slice_83 ⟨Nat.zero_le _, Nat.zero_le _⟩ (fun r_83 u_83 H locs hw_83 hP hD hS hz_83 hk_83 => ?_)
      obtain ⟨⟨vb83, rfl, hv83⟩, f14_83, f15_83, f16_83, f17_83, f18_83, f19_83, f20_83, f21_83, hbu_83, hst_83, rfl⟩ := hw_83
      have hP : va_P G vwCl (wx cx a (sc (sc (sc (sc (sc (sc (sc (sc σ 14 f14_83) 15 f15_83) 16 f16_83) 17 f17_83) 18 f18_83) 19 f19_83) 20 f20_83) 21 f21_83)) H := hP
      have hD : va_D (XA a) (wx cx a (sc (sc (sc (sc (sc (sc (sc (sc σ 14 f14_83) 15 f15_83) 16 f16_83) 17 f17_83) 18 f18_83) 19 f19_83) 20 f20_83) 21 f21_83)) := hD
      refine zt_ifb_eq (P := (lay_ (σ 0))) (tgt := 101) hex hbc hv83 dX4_slice_86 (by decide) (fun c86 => ?_) (fun c86 => ?_)
      · skip
        refine lv_bipush (v := iI (-9)) hex hbc dX4_slice_101 (by decide) ?_
        exact g_iret hex hbc hrt hlocks hK hP hD hS ⟨⟨_, rfl, by unfold SL_; refine ⟨fun h => ?_, fun h0 => ⟨fun h => ?_, fun h => ?_, fun h => ⟨fun hl => ?_, fun hl => ?_⟩, fun h => ⟨fun hl => ?_, fun hl => ?_⟩, fun h => ⟨fun hl => ?_, fun hl => ?_⟩, fun h => ?_, fun h => ⟨fun hl => ?_, fun hl => ?_⟩, fun h => ?_⟩⟩ <;> first | (exfalso; omega) | rfl | contradiction | (exact absurd hl.1 (by assumption)) | (exact absurd ⟨by assumption, by assumption⟩ hl) | (exfalso; exact hl.2 (by assumption)) | (rw [plcf_eq (w := σ 0) (by assumption)]; first | done | rfl)⟩, ⟨rfl, rfl, rfl, rfl, rfl, rfl⟩⟩ dX4_slice_103
      · skip
        have hlay : lay_ (σ 0) := c86
        have hbud := hbu_83 hlay
        refine lv_aload_n hex hbc dX4_slice_89 rfl (lv_at hl 0 rfl) ?_
        refine va_get (v := .ref (a 14)) hex hbc hts hin4 hown hK hP 0 rfl rfl 2 (by decide) (hts _ (List.mem_of_getElem? (i := 3) rfl)) (fun _ h => h) rfl dX4_slice_90 ?_
        refine va_get (v := .ref (a 15)) hex hbc hts hin3 hown hK hP 14 rfl rfl 2 (by decide) (hts _ (List.mem_of_getElem? (i := 4) rfl)) (fun _ h => h) rfl dX4_slice_93 ?_
        refine lv_iload_n hex hbc dX4_slice_96 rfl (lv_at hl 1 rfl) ?_
        refine g_iald (f := f19_83) (v := (f19_83 x1)) (i := x1) hex hbc hK hP 15 0 rfl rfl (by decide) (by omega) rfl dX4_slice_97 ?_
        refine zt_nm (a := (f19_83 x1)) (b := (bud (σ 0) x1)) (hbud x1 c8.1 c8.2) ?_
        refine lv_goto (tgt := 103) hex hbc dX4_slice_98 (by decide) ?_
        exact g_iret hex hbc hrt hlocks hK hP hD hS ⟨⟨_, rfl, by unfold SL_; refine ⟨fun h => ?_, fun h0 => ⟨fun h => ?_, fun h => ?_, fun h => ⟨fun hl => ?_, fun hl => ?_⟩, fun h => ⟨fun hl => ?_, fun hl => ?_⟩, fun h => ⟨fun hl => ?_, fun hl => ?_⟩, fun h => ?_, fun h => ⟨fun hl => ?_, fun hl => ?_⟩, fun h => ?_⟩⟩ <;> first | (exfalso; omega) | rfl | contradiction | (exact absurd hl.1 (by assumption)) | (exact absurd ⟨by assumption, by assumption⟩ hl) | (exfalso; exact hl.2 (by assumption)) | (rw [plcf_eq (w := σ 0) (by assumption)]; first | done | rfl)⟩, ⟨rfl, rfl, rfl, rfl, rfl, rfl⟩⟩ dX4_slice_103
    by_cases cs14_3 : x2 = 3
    · refine zt_nm (a := x2) (b := 3) cs14_3 ?_
      refine lv_tableIn (off := 90) (tgt := 104) hex hbc dX4_slice_14 (by decide) (by decide) rfl (by decide) ?_
      refine lv_aload_n hex hbc dX4_slice_104 rfl (lv_at hl 0 rfl) ?_
      refine va_get (v := .ref (a 3)) hex hbc hts hin4 hown hK hP 0 rfl rfl 0 (by decide) (hts _ (List.mem_of_getElem? (i := 1) rfl)) (fun _ h => h) rfl dX4_slice_105 ?_
      refine g_calli [] ⟨hex, hbc, hml, hown, hts⟩ (mX2_isFree l G cx a σ  hI) (cwV 0 hts gX4_slice_X2_isFree rfl rfl rfl (by decide +kernel) ⟨Nat.le_of_ble_eq_true rfl, Nat.le_of_ble_eq_true rfl⟩) hK hP hD hS (fun _ h => h) 3 2 rfl rfl rfl rfl hl.1 (Nat.le_of_ble_eq_true rfl) dX4_slice_108 ⟨Nat.zero_le _, Nat.zero_le _⟩ (fun r_108 u_108 H locs hw_108 hP hD hS hz_108 hk_108 => ?_)
      obtain ⟨rfl, vb108, rfl, hv108⟩ := hw_108
      refine zt_ifb_ne (P := (σ 0 8 = 0)) (tgt := 136) hex hbc hv108 dX4_slice_111 (by decide) (fun c111 => ?_) (fun c111 => ?_)
      · skip
        refine lv_bipush (v := iI (-9)) hex hbc dX4_slice_136 (by decide) ?_
        exact g_iret hex hbc hrt hlocks hK hP hD hS ⟨⟨_, rfl, by unfold SL_; refine ⟨fun h => ?_, fun h0 => ⟨fun h => ?_, fun h => ?_, fun h => ⟨fun hl => ?_, fun hl => ?_⟩, fun h => ⟨fun hl => ?_, fun hl => ?_⟩, fun h => ⟨fun hl => ?_, fun hl => ?_⟩, fun h => ?_, fun h => ⟨fun hl => ?_, fun hl => ?_⟩, fun h => ?_⟩⟩ <;> first | (exfalso; omega) | rfl | contradiction | (exact absurd hl.1 (by assumption)) | (exact absurd ⟨by assumption, by assumption⟩ hl) | (exfalso; exact hl.2 (by assumption)) | (rw [plcf_eq (w := σ 0) (by assumption)]; first | done | rfl)⟩, ⟨rfl, rfl, rfl, rfl, rfl, rfl⟩⟩ dX4_slice_138
      · skip
        refine lv_aload_n hex hbc dX4_slice_114 rfl (lv_at hl 0 rfl) ?_
        refine va_get (v := .ref (a 14)) hex hbc hts hin4 hown hK hP 0 rfl rfl 2 (by decide) (hts _ (List.mem_of_getElem? (i := 3) rfl)) (fun _ h => h) rfl dX4_slice_115 ?_
        refine g_calli [] ⟨hex, hbc, hml, hown, hts⟩ (mX3_lay l G cx a σ  hI) (cwV 0 hts gX4_slice_X3_lay rfl rfl rfl (by decide +kernel) ⟨Nat.le_of_ble_eq_true rfl, Nat.le_of_ble_eq_true rfl⟩) hK hP hD hS (fun _ h => h) 14 3 rfl rfl rfl rfl hl.1 (Nat.le_of_ble_eq_true rfl) dX4_slice_118 ⟨Nat.zero_le _, Nat.zero_le _⟩ (fun r_118 u_118 H locs hw_118 hP hD hS hz_118 hk_118 => ?_)
        obtain ⟨⟨vb118, rfl, hv118⟩, f14_118, f15_118, f16_118, f17_118, f18_118, f19_118, f20_118, f21_118, hbu_118, hst_118, rfl⟩ := hw_118
        have hP : va_P G vwCl (wx cx a (sc (sc (sc (sc (sc (sc (sc (sc σ 14 f14_118) 15 f15_118) 16 f16_118) 17 f17_118) 18 f18_118) 19 f19_118) 20 f20_118) 21 f21_118)) H := hP
        have hD : va_D (XA a) (wx cx a (sc (sc (sc (sc (sc (sc (sc (sc σ 14 f14_118) 15 f15_118) 16 f16_118) 17 f17_118) 18 f18_118) 19 f19_118) 20 f20_118) 21 f21_118)) := hD
        refine zt_ifb_eq (P := (lay_ (σ 0))) (tgt := 136) hex hbc hv118 dX4_slice_121 (by decide) (fun c121 => ?_) (fun c121 => ?_)
        · skip
          refine lv_bipush (v := iI (-9)) hex hbc dX4_slice_136 (by decide) ?_
          exact g_iret hex hbc hrt hlocks hK hP hD hS ⟨⟨_, rfl, by unfold SL_; refine ⟨fun h => ?_, fun h0 => ⟨fun h => ?_, fun h => ?_, fun h => ⟨fun hl => ?_, fun hl => ?_⟩, fun h => ⟨fun hl => ?_, fun hl => ?_⟩, fun h => ⟨fun hl => ?_, fun hl => ?_⟩, fun h => ?_, fun h => ⟨fun hl => ?_, fun hl => ?_⟩, fun h => ?_⟩⟩ <;> first | (exfalso; omega) | rfl | contradiction | (exact absurd hl.1 (by assumption)) | (exact absurd ⟨by assumption, by assumption⟩ hl) | (exfalso; exact hl.2 (by assumption)) | (rw [plcf_eq (w := σ 0) (by assumption)]; first | done | rfl)⟩, ⟨rfl, rfl, rfl, rfl, rfl, rfl⟩⟩ dX4_slice_138
        · skip
          have hlay : lay_ (σ 0) := c121
          have hbud := hbu_118 hlay
          refine lv_aload_n hex hbc dX4_slice_124 rfl (lv_at hl 0 rfl) ?_
          refine va_get (v := .ref (a 8)) hex hbc hts hin4 hown hK hP 0 rfl rfl 1 (by decide) (hts _ (List.mem_of_getElem? (i := 5) rfl)) (fun _ h => h) rfl dX4_slice_125 ?_
          refine va_get (v := .ref (a 13)) hex hbc hts hin0 hown hK hP 8 rfl rfl 7 (by decide) (hts _ (List.mem_of_getElem? (i := 6) rfl)) (fun _ h => h) rfl dX4_slice_128 ?_
          refine lv_iload_n hex hbc dX4_slice_131 rfl (lv_at hl 1 rfl) ?_
          refine g_iald (f := f18_118) (v := (f18_118 x1)) (i := x1) hex hbc hK hP 13 0 rfl rfl (by decide) (by omega) rfl dX4_slice_132 ?_
          refine zt_nm (a := (f18_118 x1)) (b := (stp (σ 0) (σ 0 6) (σ 0 7) x1)) (hst_118 hlay c111 x1 c8.1 c8.2) ?_
          refine lv_goto (tgt := 138) hex hbc dX4_slice_133 (by decide) ?_
          exact g_iret hex hbc hrt hlocks hK hP hD hS ⟨⟨_, rfl, by unfold SL_; refine ⟨fun h => ?_, fun h0 => ⟨fun h => ?_, fun h => ?_, fun h => ⟨fun hl => ?_, fun hl => ?_⟩, fun h => ⟨fun hl => ?_, fun hl => ?_⟩, fun h => ⟨fun hl => ?_, fun hl => ?_⟩, fun h => ?_, fun h => ⟨fun hl => ?_, fun hl => ?_⟩, fun h => ?_⟩⟩ <;> first | (exfalso; omega) | rfl | contradiction | (exact absurd hl.1 (by assumption)) | (exact absurd ⟨by assumption, by assumption⟩ hl) | (exfalso; exact hl.2 (by assumption)) | (rw [plcf_eq (w := σ 0) (by assumption)]; first | done | rfl)⟩, ⟨rfl, rfl, rfl, rfl, rfl, rfl⟩⟩ dX4_slice_138
    by_cases cs14_4 : x2 = 4
    · refine zt_nm (a := x2) (b := 4) cs14_4 ?_
      refine lv_tableIn (off := 125) (tgt := 139) hex hbc dX4_slice_14 (by decide) (by decide) rfl (by decide) ?_
      refine lv_aload_n hex hbc dX4_slice_139 rfl (lv_at hl 0 rfl) ?_
      refine va_get (v := .ref (a 14)) hex hbc hts hin4 hown hK hP 0 rfl rfl 2 (by decide) (hts _ (List.mem_of_getElem? (i := 3) rfl)) (fun _ h => h) rfl dX4_slice_140 ?_
      refine g_calli [] ⟨hex, hbc, hml, hown, hts⟩ (mX3_lay l G cx a σ  hI) (cwV 0 hts gX4_slice_X3_lay rfl rfl rfl (by decide +kernel) ⟨Nat.le_of_ble_eq_true rfl, Nat.le_of_ble_eq_true rfl⟩) hK hP hD hS (fun _ h => h) 14 3 rfl rfl rfl rfl hl.1 (Nat.le_of_ble_eq_true rfl) dX4_slice_143 ⟨Nat.zero_le _, Nat.zero_le _⟩ (fun r_143 u_143 H locs hw_143 hP hD hS hz_143 hk_143 => ?_)
      obtain ⟨⟨vb143, rfl, hv143⟩, f14_143, f15_143, f16_143, f17_143, f18_143, f19_143, f20_143, f21_143, hbu_143, hst_143, rfl⟩ := hw_143
      have hP : va_P G vwCl (wx cx a (sc (sc (sc (sc (sc (sc (sc (sc σ 14 f14_143) 15 f15_143) 16 f16_143) 17 f17_143) 18 f18_143) 19 f19_143) 20 f20_143) 21 f21_143)) H := hP
      have hD : va_D (XA a) (wx cx a (sc (sc (sc (sc (sc (sc (sc (sc σ 14 f14_143) 15 f15_143) 16 f16_143) 17 f17_143) 18 f18_143) 19 f19_143) 20 f20_143) 21 f21_143)) := hD
      refine zt_ifb_eq (P := (lay_ (σ 0))) (tgt := 160) hex hbc hv143 dX4_slice_146 (by decide) (fun c146 => ?_) (fun c146 => ?_)
      · skip
        refine lv_bipush (v := iI (-9)) hex hbc dX4_slice_160 (by decide) ?_
        exact g_iret hex hbc hrt hlocks hK hP hD hS ⟨⟨_, rfl, by unfold SL_; refine ⟨fun h => ?_, fun h0 => ⟨fun h => ?_, fun h => ?_, fun h => ⟨fun hl => ?_, fun hl => ?_⟩, fun h => ⟨fun hl => ?_, fun hl => ?_⟩, fun h => ⟨fun hl => ?_, fun hl => ?_⟩, fun h => ?_, fun h => ⟨fun hl => ?_, fun hl => ?_⟩, fun h => ?_⟩⟩ <;> first | (exfalso; omega) | rfl | contradiction | (exact absurd hl.1 (by assumption)) | (exact absurd ⟨by assumption, by assumption⟩ hl) | (exfalso; exact hl.2 (by assumption)) | (rw [plcf_eq (w := σ 0) (by assumption)]; first | done | rfl)⟩, ⟨rfl, rfl, rfl, rfl, rfl, rfl⟩⟩ dX4_slice_162
      · skip
        have hlay : lay_ (σ 0) := c146
        have hbud := hbu_143 hlay
        refine lv_aload_n hex hbc dX4_slice_149 rfl (lv_at hl 0 rfl) ?_
        refine va_get (v := .ref (a 14)) hex hbc hts hin4 hown hK hP 0 rfl rfl 2 (by decide) (hts _ (List.mem_of_getElem? (i := 3) rfl)) (fun _ h => h) rfl dX4_slice_150 ?_
        refine lv_iload_n hex hbc dX4_slice_153 rfl (lv_at hl 1 rfl) ?_
        refine g_calli [.int (iI x1)] ⟨hex, hbc, hml, hown, hts⟩ (mX3_beginOf l G cx a (sc (sc (sc (sc (sc (sc (sc (sc σ 14 f14_143) 15 f15_143) 16 f16_143) 17 f17_143) 18 f18_143) 19 f19_143) 20 f20_143) 21 f21_143) x1 (show 0 ≤ x1 ∧ x1 < σ 0 74 from by omega) hlay hbud hI) (cwV 1 hts gX4_slice_X3_beginOf rfl rfl rfl (by decide +kernel) ⟨Nat.le_of_ble_eq_true rfl, Nat.le_of_ble_eq_true rfl⟩) hK hP hD hS (fun _ h => h) 14 3 rfl rfl rfl rfl hl.1 (Nat.le_of_ble_eq_true rfl) dX4_slice_154 ⟨Nat.zero_le _, Nat.zero_le _⟩ (fun r_154 u_154 H locs hw_154 hP hD hS hz_154 hk_154 => ?_)
        obtain ⟨rfl, p154, hp154, rfl⟩ := hw_154
        refine lv_goto (tgt := 162) hex hbc dX4_slice_157 (by decide) ?_
        exact g_iret hex hbc hrt hlocks hK hP hD hS ⟨⟨_, rfl, by unfold SL_; refine ⟨fun h => ?_, fun h0 => ⟨fun h => ?_, fun h => ?_, fun h => ⟨fun hl => ?_, fun hl => ?_⟩, fun h => ⟨fun hl => ?_, fun hl => ?_⟩, fun h => ⟨fun hl => ?_, fun hl => ?_⟩, fun h => ?_, fun h => ⟨fun hl => ?_, fun hl => ?_⟩, fun h => ?_⟩⟩ <;> first | (exfalso; omega) | rfl | contradiction | (exact absurd hl.1 (by assumption)) | (exact absurd ⟨by assumption, by assumption⟩ hl) | (exfalso; exact hl.2 (by assumption)) | (rw [plcf_eq (w := σ 0) (by assumption)]; first | done | rfl)⟩, ⟨rfl, rfl, rfl, rfl, rfl, rfl⟩⟩ dX4_slice_162
    by_cases cs14_5 : x2 = 5
    · refine zt_nm (a := x2) (b := 5) cs14_5 ?_
      refine lv_tableIn (off := 149) (tgt := 163) hex hbc dX4_slice_14 (by decide) (by decide) rfl (by decide) ?_
      refine lv_aload_n hex hbc dX4_slice_163 rfl (lv_at hl 0 rfl) ?_
      refine va_get (v := .ref (a 3)) hex hbc hts hin4 hown hK hP 0 rfl rfl 0 (by decide) (hts _ (List.mem_of_getElem? (i := 1) rfl)) (fun _ h => h) rfl dX4_slice_164 ?_
      refine lv_iload_n hex hbc dX4_slice_167 rfl (lv_at hl 1 rfl) ?_
      refine g_calli [.int (iI x1)] ⟨hex, hbc, hml, hown, hts⟩ (mX2_placeOf l G cx a σ x1 (by omega) hI (hI.plc (by omega))) (cwV 1 hts gX4_slice_X2_placeOf rfl rfl rfl (by decide +kernel) ⟨Nat.le_of_ble_eq_true rfl, Nat.le_of_ble_eq_true rfl⟩) hK hP hD hS (fun _ h => h) 3 2 rfl rfl rfl rfl hl.1 (Nat.le_of_ble_eq_true rfl) dX4_slice_168 ⟨Nat.zero_le _, Nat.zero_le _⟩ (fun r_168 u_168 H locs hw_168 hP hD hS hz_168 hk_168 => ?_)
      obtain ⟨rfl, p168, rfl, hp168⟩ := hw_168
      exact g_iret hex hbc hrt hlocks hK hP hD hS ⟨⟨_, rfl, by unfold SL_; refine ⟨fun h => ?_, fun h0 => ⟨fun h => ?_, fun h => ?_, fun h => ⟨fun hl => ?_, fun hl => ?_⟩, fun h => ⟨fun hl => ?_, fun hl => ?_⟩, fun h => ⟨fun hl => ?_, fun hl => ?_⟩, fun h => ?_, fun h => ⟨fun hl => ?_, fun hl => ?_⟩, fun h => ?_⟩⟩ <;> first | (exfalso; omega) | rfl | contradiction | (exact absurd hl.1 (by assumption)) | (exact absurd ⟨by assumption, by assumption⟩ hl) | (exfalso; exact hl.2 (by assumption)) | (rw [plcf_eq (w := σ 0) (by assumption)]; first | done | rfl)⟩, ⟨rfl, rfl, rfl, rfl, rfl, rfl⟩⟩ dX4_slice_171
    by_cases cs14_6 : x2 = 6
    · refine zt_nm (a := x2) (b := 6) cs14_6 ?_
      refine lv_tableIn (off := 158) (tgt := 172) hex hbc dX4_slice_14 (by decide) (by decide) rfl (by decide) ?_
      refine lv_aload_n hex hbc dX4_slice_172 rfl (lv_at hl 0 rfl) ?_
      refine va_get (v := .ref (a 14)) hex hbc hts hin4 hown hK hP 0 rfl rfl 2 (by decide) (hts _ (List.mem_of_getElem? (i := 3) rfl)) (fun _ h => h) rfl dX4_slice_173 ?_
      refine g_calli [] ⟨hex, hbc, hml, hown, hts⟩ (mX3_lay l G cx a σ  hI) (cwV 0 hts gX4_slice_X3_lay rfl rfl rfl (by decide +kernel) ⟨Nat.le_of_ble_eq_true rfl, Nat.le_of_ble_eq_true rfl⟩) hK hP hD hS (fun _ h => h) 14 3 rfl rfl rfl rfl hl.1 (Nat.le_of_ble_eq_true rfl) dX4_slice_176 ⟨Nat.zero_le _, Nat.zero_le _⟩ (fun r_176 u_176 H locs hw_176 hP hD hS hz_176 hk_176 => ?_)
      obtain ⟨⟨vb176, rfl, hv176⟩, f14_176, f15_176, f16_176, f17_176, f18_176, f19_176, f20_176, f21_176, hbu_176, hst_176, rfl⟩ := hw_176
      have hP : va_P G vwCl (wx cx a (sc (sc (sc (sc (sc (sc (sc (sc σ 14 f14_176) 15 f15_176) 16 f16_176) 17 f17_176) 18 f18_176) 19 f19_176) 20 f20_176) 21 f21_176)) H := hP
      have hD : va_D (XA a) (wx cx a (sc (sc (sc (sc (sc (sc (sc (sc σ 14 f14_176) 15 f15_176) 16 f16_176) 17 f17_176) 18 f18_176) 19 f19_176) 20 f20_176) 21 f21_176)) := hD
      refine zt_ifb_eq (P := (lay_ (σ 0))) (tgt := 200) hex hbc hv176 dX4_slice_179 (by decide) (fun c179 => ?_) (fun c179 => ?_)
      · skip
        refine lv_bipush (v := iI (-9)) hex hbc dX4_slice_200 (by decide) ?_
        exact g_iret hex hbc hrt hlocks hK hP hD hS ⟨⟨_, rfl, by unfold SL_; refine ⟨fun h => ?_, fun h0 => ⟨fun h => ?_, fun h => ?_, fun h => ⟨fun hl => ?_, fun hl => ?_⟩, fun h => ⟨fun hl => ?_, fun hl => ?_⟩, fun h => ⟨fun hl => ?_, fun hl => ?_⟩, fun h => ?_, fun h => ⟨fun hl => ?_, fun hl => ?_⟩, fun h => ?_⟩⟩ <;> first | (exfalso; omega) | rfl | contradiction | (exact absurd hl.1 (by assumption)) | (exact absurd ⟨by assumption, by assumption⟩ hl) | (exfalso; exact hl.2 (by assumption)) | (rw [plcf_eq (w := σ 0) (by assumption)]; first | done | rfl)⟩, ⟨rfl, rfl, rfl, rfl, rfl, rfl⟩⟩ dX4_slice_202
      · skip
        have hlay : lay_ (σ 0) := c179
        have hbud := hbu_176 hlay
        refine lv_aload_n hex hbc dX4_slice_182 rfl (lv_at hl 0 rfl) ?_
        refine va_get (v := .ref (a 14)) hex hbc hts hin4 hown hK hP 0 rfl rfl 2 (by decide) (hts _ (List.mem_of_getElem? (i := 3) rfl)) (fun _ h => h) rfl dX4_slice_183 ?_
        refine lv_aload_n hex hbc dX4_slice_186 rfl (lv_at hl 0 rfl) ?_
        refine va_get (v := .ref (a 3)) hex hbc hts hin4 hown hK hP 0 rfl rfl 0 (by decide) (hts _ (List.mem_of_getElem? (i := 1) rfl)) (fun _ h => h) rfl dX4_slice_187 ?_
        refine lv_iload_n hex hbc dX4_slice_190 rfl (lv_at hl 1 rfl) ?_
        refine g_calli [.int (iI x1)] ⟨hex, hbc, hml, hown, hts⟩ (mX2_placeOf l G cx a (sc (sc (sc (sc (sc (sc (sc (sc σ 14 f14_176) 15 f15_176) 16 f16_176) 17 f17_176) 18 f18_176) 19 f19_176) 20 f20_176) 21 f21_176) x1 (show -2147483648 ≤ x1 ∧ x1 < 2147483648 from by omega) hI (hI.plc (by omega))) (cwV 1 hts gX4_slice_X2_placeOf rfl rfl rfl (by decide +kernel) ⟨Nat.le_of_ble_eq_true rfl, Nat.le_of_ble_eq_true rfl⟩) hK hP hD hS (fun _ h => h) 3 2 rfl rfl rfl rfl hl.1 (Nat.le_of_ble_eq_true rfl) dX4_slice_191 ⟨Nat.zero_le _, Nat.zero_le _⟩ (fun r_191 u_191 H locs hw_191 hP hD hS hz_191 hk_191 => ?_)
        obtain ⟨rfl, p191, rfl, hp191⟩ := hw_191
        have hpq : Plc (σ 0) x1 p191 := hp191
        obtain ⟨hq1, hq2, -⟩ := id hpq
        refine g_calli [.int (iI p191)] ⟨hex, hbc, hml, hown, hts⟩ (mX3_fadeAt l G cx a (sc (sc (sc (sc (sc (sc (sc (sc σ 14 f14_176) 15 f15_176) 16 f16_176) 17 f17_176) 18 f18_176) 19 f19_176) 20 f20_176) 21 f21_176) p191 (show 0 ≤ p191 ∧ p191 < σ 0 74 from by omega) hlay hbud hI) (cwV 1 hts gX4_slice_X3_fadeAt rfl rfl rfl (by decide +kernel) ⟨Nat.le_of_ble_eq_true rfl, Nat.le_of_ble_eq_true rfl⟩) hK hP hD hS (fun _ h => h) 14 3 rfl rfl rfl rfl hl.1 (Nat.le_of_ble_eq_true rfl) dX4_slice_194 ⟨Nat.zero_le _, Nat.zero_le _⟩ (fun r_194 u_194 H locs hw_194 hP hD hS hz_194 hk_194 => ?_)
        obtain ⟨rfl, rfl⟩ := hw_194
        refine lv_goto (tgt := 202) hex hbc dX4_slice_197 (by decide) ?_
        exact g_iret hex hbc hrt hlocks hK hP hD hS ⟨⟨_, rfl, by unfold SL_; refine ⟨fun h => ?_, fun h0 => ⟨fun h => ?_, fun h => ?_, fun h => ⟨fun hl => ?_, fun hl => ?_⟩, fun h => ⟨fun hl => ?_, fun hl => ?_⟩, fun h => ⟨fun hl => ?_, fun hl => ?_⟩, fun h => ?_, fun h => ⟨fun hl => ?_, fun hl => ?_⟩, fun h => ?_⟩⟩ <;> first | (exfalso; omega) | rfl | contradiction | (exact absurd hl.1 (by assumption)) | (exact absurd ⟨by assumption, by assumption⟩ hl) | (exfalso; exact hl.2 (by assumption)) | (rw [plcf_eq (w := σ 0) (by assumption)]; first | done | rfl)⟩, ⟨rfl, rfl, rfl, rfl, rfl, rfl⟩⟩ dX4_slice_202
    have cs14_7 : x2 = 7 := by omega
    refine zt_nm (a := x2) (b := 7) cs14_7 ?_
    refine lv_tableIn (off := 189) (tgt := 203) hex hbc dX4_slice_14 (by decide) (by decide) rfl (by decide) ?_
    refine lv_aload_n hex hbc dX4_slice_203 rfl (lv_at hl 0 rfl) ?_
    refine va_get (v := .ref (a 3)) hex hbc hts hin4 hown hK hP 0 rfl rfl 0 (by decide) (hts _ (List.mem_of_getElem? (i := 1) rfl)) (fun _ h => h) rfl dX4_slice_204 ?_
    refine lv_iload_n hex hbc dX4_slice_207 rfl (lv_at hl 1 rfl) ?_
    refine g_calli [.int (iI x1)] ⟨hex, hbc, hml, hown, hts⟩ (mX2_loudestFrame l G cx a σ x1 (by omega) hI) (cwV 1 hts gX4_slice_X2_loudestFrame rfl rfl rfl (by decide +kernel) ⟨Nat.le_of_ble_eq_true rfl, Nat.le_of_ble_eq_true rfl⟩) hK hP hD hS (fun _ h => h) 3 2 rfl rfl rfl rfl hl.1 (Nat.le_of_ble_eq_true rfl) dX4_slice_208 ⟨Nat.zero_le _, Nat.zero_le _⟩ (fun r_208 u_208 H locs hw_208 hP hD hS hz_208 hk_208 => ?_)
    obtain ⟨rfl, rfl⟩ := hw_208
    exact g_iret hex hbc hrt hlocks hK hP hD hS ⟨⟨_, rfl, by unfold SL_; refine ⟨fun h => ?_, fun h0 => ⟨fun h => ?_, fun h => ?_, fun h => ⟨fun hl => ?_, fun hl => ?_⟩, fun h => ⟨fun hl => ?_, fun hl => ?_⟩, fun h => ⟨fun hl => ?_, fun hl => ?_⟩, fun h => ?_, fun h => ⟨fun hl => ?_, fun hl => ?_⟩, fun h => ?_⟩⟩ <;> first | (exfalso; omega) | rfl | contradiction | (exact absurd hl.1 (by assumption)) | (exact absurd ⟨by assumption, by assumption⟩ hl) | (exfalso; exact hl.2 (by assumption)) | (rw [plcf_eq (w := σ 0) (by assumption)]; first | done | rfl)⟩, ⟨rfl, rfl, rfl, rfl, rfl, rfl⟩⟩ dX4_slice_211
  · skip
    refine lv_iconst (v := iI (-1)) hex hbc dX4_slice_11 rfl ?_
    exact g_iret hex hbc hrt hlocks hK hP hD hS ⟨⟨_, rfl, by unfold SL_; refine ⟨fun h => ?_, fun h0 => ⟨fun h => ?_, fun h => ?_, fun h => ⟨fun hl => ?_, fun hl => ?_⟩, fun h => ⟨fun hl => ?_, fun hl => ?_⟩, fun h => ⟨fun hl => ?_, fun hl => ?_⟩, fun h => ?_, fun h => ⟨fun hl => ?_, fun hl => ?_⟩, fun h => ?_⟩⟩ <;> first | (exfalso; omega) | rfl | contradiction | (exact absurd hl.1 (by assumption)) | (exact absurd ⟨by assumption, by assumption⟩ hl) | (exfalso; exact hl.2 (by assumption)) | (rw [plcf_eq (w := σ 0) (by assumption)]; first | done | rfl)⟩, ⟨rfl, rfl, rfl, rfl, rfl, rfl⟩⟩ dX4_slice_12
theorem iX4_source_X2 : ∀ w ∈ wsX20, w ∈ wsX4_source := fun _ h => List.mem_cons_of_mem _ (List.mem_append_left _ (List.mem_append_left _ (List.mem_append_right _ h)))
theorem iX4_source_X3 : ∀ w ∈ wsX30, w ∈ wsX4_source := fun _ h => List.mem_cons_of_mem _ (List.mem_append_left _ (List.mem_append_right _ h))
theorem iX4_source_X4 : ∀ w ∈ wsX40, w ∈ wsX4_source := fun _ h => List.mem_cons_of_mem _ (List.mem_append_left _ (List.mem_append_left _ (List.mem_append_left _ (List.mem_append_right _ h))))
set_option maxHeartbeats 4000000 in
set_option maxRecDepth 100000 in
theorem mX4_source (l : Launch) (G : va_G) (cx a : Nat → Nat) (σ : Nat → Int → Int)  (x1 : Int) (x2 : Int) (h1 : -2147483648 ≤ x1 ∧ x1 < 2147483648) (h2 : -2147483648 ≤ x2 ∧ x2 < 2147483648) (hI : Inv (σ 0)) : Met l yX4_source wsX4_source ({ frames := 6, cells := 0, slots := 0, locals := 150 }) (va_Pc [.ref (a 0), .int (iI x1), .int (iI x2)] (gW G (tx cx) (XA a) (wx cx a) σ)) (va_Qi (fun r u => (∃ v, iI v = r ∧ SR_ (σ 0) x1 x2 v) ∧ XQ_ σ u) (gW G (tx cx) (XA a) (wx cx a)) (XA a)) 0 0 (XA a) := by
  refine Met.ofW (cc := cX4_source) (maxL := 6) (ret := some .int) (by decide) rfl ?_
  intro p e s m args below meth c s₁ B hml hv
  obtain ⟨rfl, hP, hK, hD⟩ := hv
  have hex := B.exec
  have hbc := B.bytes
  have hrt := B.returns
  have hts := atoms_spec (ws := wsX4_source) B.pre
  have hown : s.vm.findClass RX4 = some m.cls := findClass_of_methodNamed B.named
  have hlocks := B.notSynchronized
  have hS : va_S (XA a) s.heap s.heap [] := va_S.rf
  have hin2 := iX4_source_X2
  have hin3 := iX4_source_X3
  have hin4 := iX4_source_X4
  have hl := lv_entry ([.ref (a 0), .int (iI x1), .int (iI x2)]) (n := 6) (Nat.le_of_ble_eq_true rfl)
  rw [lg_entry_eq]
  generalize (lg_sl ([.ref (a 0), .int (iI x1), .int (iI x2)]) ++ List.replicate (6 - (lg_sl ([.ref (a 0), .int (iI x1), .int (iI x2)])).length) Slot.unset).toArray = ls at hl ⊢
  have hl : lv_has ls 6 [(0, .ref (a 0)), (1, .int (iI x1)), (2, .int (iI x2))] := hl
  obtain ⟨hB, hEn, hMk, hAs, hPm⟩ := id hI
  have hO := hPm.1
  refine lv_iload_n hex hbc dX4_source_0 rfl (lv_at hl 1 rfl) ?_
  refine zt_if_lt (a := x1) (tgt := 26) hex hbc (by omega) dX4_source_1 (by decide) (fun c1 => ?_) (fun c1 => ?_)
  · skip
    refine lv_iconst (v := iI (-1)) hex hbc dX4_source_26 rfl ?_
    exact g_iret hex hbc hrt hlocks hK hP hD hS ⟨⟨-1, rfl, fun _ => rfl, fun h => (by exfalso; omega)⟩, ⟨rfl, rfl, rfl, rfl, rfl, rfl⟩⟩ dX4_source_27
  · skip
    refine lv_iload_n hex hbc dX4_source_4 rfl (lv_at hl 1 rfl) ?_
    refine lv_aload_n hex hbc dX4_source_5 rfl (lv_at hl 0 rfl) ?_
    refine va_get (v := .ref (a 3)) hex hbc hts hin4 hown hK hP 0 rfl rfl 0 (by decide) (hts _ (List.mem_of_getElem? (i := 1) rfl)) (fun _ h => h) rfl dX4_source_6 ?_
    refine va_get (v := .ref (a 5)) hex hbc hts hin2 hown hK hP 3 rfl rfl 3 (by decide) (hts _ (List.mem_of_getElem? (i := 2) rfl)) (fun _ h => h) rfl dX4_source_9 ?_
    refine lv_iconst (v := iI 5) hex hbc dX4_source_12 rfl ?_
    refine g_iald (f := (fun k => (σ 0 (1 + k)))) (v := (σ 0 6)) (i := 5) hex hbc hK hP 5 0 rfl rfl (by decide) (by omega) rfl dX4_source_13 ?_
    refine zt_icmp_ge (a := x1) (b := (σ 0 6)) (tgt := 26) hex hbc (by omega) dX4_source_14 (by decide) (fun c14 => ?_) (fun c14 => ?_)
    · skip
      refine lv_iconst (v := iI (-1)) hex hbc dX4_source_26 rfl ?_
      exact g_iret hex hbc hrt hlocks hK hP hD hS ⟨⟨-1, rfl, fun _ => rfl, fun h => (by exfalso; omega)⟩, ⟨rfl, rfl, rfl, rfl, rfl, rfl⟩⟩ dX4_source_27
    · skip
      refine lv_iload_n hex hbc dX4_source_17 rfl (lv_at hl 2 rfl) ?_
      refine zt_if_lt (a := x2) (tgt := 26) hex hbc (by omega) dX4_source_18 (by decide) (fun c18 => ?_) (fun c18 => ?_)
      · skip
        refine lv_iconst (v := iI (-1)) hex hbc dX4_source_26 rfl ?_
        exact g_iret hex hbc hrt hlocks hK hP hD hS ⟨⟨-1, rfl, fun _ => rfl, fun h => (by exfalso; omega)⟩, ⟨rfl, rfl, rfl, rfl, rfl, rfl⟩⟩ dX4_source_27
      · skip
        refine lv_iload_n hex hbc dX4_source_21 rfl (lv_at hl 2 rfl) ?_
        refine lv_iconst (v := iI 2) hex hbc dX4_source_22 rfl ?_
        refine zt_icmp_le (a := x2) (b := 2) (tgt := 28) hex hbc (by omega) dX4_source_23 (by decide) (fun c23 => ?_) (fun c23 => ?_)
        · skip
          refine lv_aload_n hex hbc dX4_source_28 rfl (lv_at hl 0 rfl) ?_
          refine va_get (v := .ref (a 14)) hex hbc hts hin4 hown hK hP 0 rfl rfl 2 (by decide) (hts _ (List.mem_of_getElem? (i := 3) rfl)) (fun _ h => h) rfl dX4_source_29 ?_
          refine g_calli [] ⟨hex, hbc, hml, hown, hts⟩ (mX3_lay l G cx a σ  hI) (cwV 0 hts gX4_source_X3_lay rfl rfl rfl (by decide +kernel) ⟨Nat.le_of_ble_eq_true rfl, Nat.le_of_ble_eq_true rfl⟩) hK hP hD hS (fun _ h => h) 14 3 rfl rfl rfl rfl hl.1 (Nat.le_of_ble_eq_true rfl) dX4_source_32 ⟨Nat.zero_le _, Nat.zero_le _⟩ (fun r_32 u_32 H locs hw_32 hP hD hS hz_32 hk_32 => ?_)
          obtain ⟨⟨vb32, rfl, hv32⟩, f14_32, f15_32, f16_32, f17_32, f18_32, f19_32, f20_32, f21_32, hbu_32, hst_32, rfl⟩ := hw_32
          have hP : va_P G vwCl (wx cx a (sc (sc (sc (sc (sc (sc (sc (sc σ 14 f14_32) 15 f15_32) 16 f16_32) 17 f17_32) 18 f18_32) 19 f19_32) 20 f20_32) 21 f21_32)) H := hP
          have hD : va_D (XA a) (wx cx a (sc (sc (sc (sc (sc (sc (sc (sc σ 14 f14_32) 15 f15_32) 16 f16_32) 17 f17_32) 18 f18_32) 19 f19_32) 20 f20_32) 21 f21_32)) := hD
          refine zt_ifb_ne (P := (lay_ (σ 0))) (tgt := 41) hex hbc hv32 dX4_source_35 (by decide) (fun c35 => ?_) (fun c35 => ?_)
          · skip
            have hlay : lay_ (σ 0) := c35
            have hbud := hbu_32 hlay
            have hpe := par_end hI
            refine lv_iload_n hex hbc dX4_source_41 rfl (lv_at hl 1 rfl) ?_
            refine lv_istore_n (lv' := [(3, .int (iI x1)), (0, .ref (a 0)), (1, .int (iI x1)), (2, .int (iI x2))]) hex hbc dX4_source_42 rfl hl (by decide) rfl (fun ls hl => ?_)
            refine lv_iconst (v := iI 0) hex hbc dX4_source_43 rfl ?_
            refine lv_istore (lv' := [(4, .int (iI 0)), (3, .int (iI x1)), (0, .ref (a 0)), (1, .int (iI x1)), (2, .int (iI x2))]) hex hbc dX4_source_44 hl (by decide) rfl (fun ls hl => ?_)
            have loop_46 : ∀ (N : Nat) (p1 : Int) (l1 : Int), (0 ≤ p1 ∧ p1 < σ 0 74 ∧ par_ (σ 0) p1 ≤ x1 ∧ l1 = x1 - par_ (σ 0) p1) → (σ 0 74 - p1) < (N : Int) → ∀ (H : Heap) (locs : List Loc) (ls : Array Slot), va_P G vwCl (wx cx a (sc (sc (sc (sc (sc (sc (sc (sc σ 14 f14_32) 15 f15_32) 16 f16_32) 17 f17_32) 18 f18_32) 19 f19_32) 20 f20_32) 21 f21_32)) H → va_D (XA a) (wx cx a (sc (sc (sc (sc (sc (sc (sc (sc σ 14 f14_32) 15 f15_32) 16 f16_32) 17 f17_32) 18 f18_32) 19 f19_32) 20 f20_32) 21 f21_32)) → va_S (XA a) s.heap H locs → lv_has ls 6 [(3, .int (iI l1)), (4, .int (iI p1)), (0, .ref (a 0)), (1, .int (iI x1)), (2, .int (iI x2))] → W p l e (headSpec wsX4_source ({ frames := 6, cells := 0, slots := 0, locals := 150 })).room s m ([.ref (a 0), .int (iI x1), .int (iI x2)] : List Value).toArray below meth c H locs 0 0 (MQ below (va_Qi (fun r u => (∃ v, iI v = r ∧ SR_ (σ 0) x1 x2 v) ∧ XQ_ σ u) (gW G (tx cx) (XA a) (wx cx a)) (XA a)) ([.ref (a 0), .int (iI x1), .int (iI x2)] : List Value).toArray s 0 0 (XA a)) (F0 m 46 ls []) := by
              intro N
              induction N with
              | zero => intro p1 l1 hinv hlt; exfalso; omega
              | succ N ih_46 =>
                intro p1 l1 ⟨hi0, hi1, hi2, hl1⟩ hlt_46 H locs ls hP hD hS hl
                have ho1 := hO p1 hi0 hi1
                have hb1 := bud_in hI hlay ho1.1 ho1.2
                have hpa := par_at (w := σ 0) hi0
                have hp0 := par_mono hI hlay (p := 0) (q := p1) (by omega) hi0 (by omega)
                have hp00 : par_ (σ 0) 0 = 0 := rfl
                refine lv_iload hex hbc dX4_source_46 (lv_at hl 1 rfl) ?_
                refine lv_aload_n hex hbc dX4_source_48 rfl (lv_at hl 2 rfl) ?_
                refine va_get (v := .ref (a 3)) hex hbc hts hin4 hown hK hP 0 rfl rfl 0 (by decide) (hts _ (List.mem_of_getElem? (i := 1) rfl)) (fun _ h => h) rfl dX4_source_49 ?_
                refine va_get (v := .int (iI (σ 0 74))) hex hbc hts hin2 hown hK hP 3 rfl rfl 1 (by decide) (hts _ (List.mem_of_getElem? (i := 4) rfl)) (fun _ h => h) rfl dX4_source_52 ?_
                refine zt_icmp_ge (a := p1) (b := (σ 0 74)) (tgt := 107) hex hbc (by omega) dX4_source_55 (by decide) (fun c55 => ?_) (fun c55 => ?_)
                · skip
                  exfalso; omega
                · skip
                  refine lv_aload_n hex hbc dX4_source_58 rfl (lv_at hl 2 rfl) ?_
                  refine va_get (v := .ref (a 14)) hex hbc hts hin4 hown hK hP 0 rfl rfl 2 (by decide) (hts _ (List.mem_of_getElem? (i := 3) rfl)) (fun _ h => h) rfl dX4_source_59 ?_
                  refine va_get (v := .ref (a 15)) hex hbc hts hin3 hown hK hP 14 rfl rfl 2 (by decide) (hts _ (List.mem_of_getElem? (i := 5) rfl)) (fun _ h => h) rfl dX4_source_62 ?_
                  refine lv_aload_n hex hbc dX4_source_65 rfl (lv_at hl 2 rfl) ?_
                  refine va_get (v := .ref (a 3)) hex hbc hts hin4 hown hK hP 0 rfl rfl 0 (by decide) (hts _ (List.mem_of_getElem? (i := 1) rfl)) (fun _ h => h) rfl dX4_source_66 ?_
                  refine va_get (v := .ref (a 7)) hex hbc hts hin2 hown hK hP 3 rfl rfl 5 (by decide) (hts _ (List.mem_of_getElem? (i := 6) rfl)) (fun _ h => h) rfl dX4_source_69 ?_
                  refine lv_iload hex hbc dX4_source_72 (lv_at hl 1 rfl) ?_
                  refine g_iald (f := (fun k => (σ 0 (91 + k)))) (v := (σ 0 (91 + p1))) (i := p1) hex hbc hK hP 7 0 rfl rfl (by decide) (by omega) rfl dX4_source_74 ?_
                  refine g_iald (f := f19_32) (v := (f19_32 (σ 0 (91 + p1)))) (i := (σ 0 (91 + p1))) hex hbc hK hP 15 0 rfl rfl (by decide) (by omega) rfl dX4_source_75 ?_
                  refine zt_nm (a := (f19_32 (σ 0 (91 + p1)))) (b := (bud (σ 0) (σ 0 (91 + p1)))) (hbud _ ho1.1 ho1.2) ?_
                  refine lv_istore (lv' := [(5, .int (iI (bud (σ 0) (σ 0 (91 + p1))))), (3, .int (iI l1)), (4, .int (iI p1)), (0, .ref (a 0)), (1, .int (iI x1)), (2, .int (iI x2))]) hex hbc dX4_source_76 hl (by decide) rfl (fun ls hl => ?_)
                  refine lv_iload_n hex hbc dX4_source_78 rfl (lv_at hl 1 rfl) ?_
                  refine lv_iload hex hbc dX4_source_79 (lv_at hl 0 rfl) ?_
                  refine zt_icmp_ge (a := l1) (b := (bud (σ 0) (σ 0 (91 + p1)))) (tgt := 96) hex hbc (by omega) dX4_source_81 (by decide) (fun c81 => ?_) (fun c81 => ?_)
                  · skip
                    refine lv_iload_n hex hbc dX4_source_96 rfl (lv_at hl 1 rfl) ?_
                    refine lv_iload hex hbc dX4_source_97 (lv_at hl 0 rfl) ?_
                    refine zt_isub hex hbc dX4_source_99 ?_
                    refine lv_istore_n (lv' := [(3, .int (iI (l1 - (bud (σ 0) (σ 0 (91 + p1)))))), (5, .int (iI (bud (σ 0) (σ 0 (91 + p1))))), (4, .int (iI p1)), (0, .ref (a 0)), (1, .int (iI x1)), (2, .int (iI x2))]) hex hbc dX4_source_100 rfl hl (by decide) rfl (fun ls hl => ?_)
                    refine lv_iinc (v := iI (p1 + 1)) (lv' := [(4, .int (iI (p1 + 1))), (3, .int (iI (l1 - (bud (σ 0) (σ 0 (91 + p1)))))), (5, .int (iI (bud (σ 0) (σ 0 (91 + p1))))), (0, .ref (a 0)), (1, .int (iI x1)), (2, .int (iI x2))]) hex hbc dX4_source_101 hl (k := 2) rfl (iI_add _ _) (by decide) rfl (fun ls hl => ?_)
                    refine lv_goto (tgt := 46) hex hbc dX4_source_104 (by decide) ?_
                    exact ih_46 (p1 + 1) (l1 - (bud (σ 0) (σ 0 (91 + p1)))) ⟨by omega, (Int.lt_or_le (p1 + 1) (σ 0 74)).elim (fun q => q) (fun q => by exfalso; rw [show σ 0 74 = p1 + 1 by omega] at hpe; omega), by omega, by omega⟩ (by omega) _ _ _ hP hD hS (lv_sub hl [1, 0, 3, 4, 5] rfl)
                  · skip
                    have hpx : x1 < par_ (σ 0) (p1 + 1) := by omega
                    refine lv_aload_n hex hbc dX4_source_84 rfl (lv_at hl 3 rfl) ?_
                    refine va_get (v := .ref (a 14)) hex hbc hts hin4 hown hK hP 0 rfl rfl 2 (by decide) (hts _ (List.mem_of_getElem? (i := 3) rfl)) (fun _ h => h) rfl dX4_source_85 ?_
                    refine lv_iload hex hbc dX4_source_88 (lv_at hl 2 rfl) ?_
                    refine lv_iload_n hex hbc dX4_source_90 rfl (lv_at hl 1 rfl) ?_
                    refine lv_iload_n hex hbc dX4_source_91 rfl (lv_at hl 5 rfl) ?_
                    refine g_calli [.int (iI p1), .int (iI l1), .int (iI x2)] ⟨hex, hbc, hml, hown, hts⟩ (mX3_originOf l G cx a (sc (sc (sc (sc (sc (sc (sc (sc σ 14 f14_32) 15 f15_32) 16 f16_32) 17 f17_32) 18 f18_32) 19 f19_32) 20 f20_32) 21 f21_32) p1 l1 x2 (show 0 ≤ p1 ∧ p1 < σ 0 74 from by omega) (show 0 ≤ l1 ∧ l1 < bud (σ 0) (σ 0 (91 + p1)) from by omega) (show 0 ≤ x2 ∧ x2 ≤ 2 from by omega) hlay hbud hI) (cwV 3 hts gX4_source_X3_originOf rfl rfl rfl (by decide +kernel) ⟨Nat.le_of_ble_eq_true rfl, Nat.le_of_ble_eq_true rfl⟩) hK hP hD hS (fun _ h => h) 14 3 rfl rfl rfl rfl hl.1 (Nat.le_of_ble_eq_true rfl) dX4_source_92 ⟨Nat.zero_le _, Nat.zero_le _⟩ (fun r_92 u_92 H locs hw_92 hP hD hS hz_92 hk_92 => ?_)
                    obtain ⟨rfl, rfl⟩ := hw_92
                    exact g_iret hex hbc hrt hlocks hK hP hD hS ⟨⟨_, rfl, fun h => absurd ⟨⟨by omega, by omega⟩, by omega, by omega⟩ h, fun _ => ⟨fun hl => absurd hlay hl, fun _ => ⟨p1, ⟨hi0, hi1⟩, ⟨hi2, hpx⟩, fun h => if_pos h, fun h => (by rw [if_neg (by omega), if_pos h, ← hl1]; first | done | rfl), fun h => (by rw [if_neg (by omega), if_neg (by omega), ← hl1]; first | done | rfl)⟩⟩⟩, ⟨rfl, rfl, rfl, rfl, rfl, rfl⟩⟩ dX4_source_95
            exact loop_46 _ 0 x1 ⟨by omega, by omega, (show (0 : Int) ≤ x1 by omega), (show x1 = x1 - 0 by omega)⟩ (mz_lt _) _ _ _ hP hD hS (lv_sub hl [1, 0, 2, 3, 4] rfl)
          · skip
            refine lv_bipush (v := iI (-9)) hex hbc dX4_source_38 (by decide) ?_
            exact g_iret hex hbc hrt hlocks hK hP hD hS ⟨⟨-9, rfl, fun h => absurd ⟨⟨by omega, by omega⟩, by omega, by omega⟩ h, fun _ => ⟨fun _ => rfl, fun hl => absurd hl c35⟩⟩, ⟨rfl, rfl, rfl, rfl, rfl, rfl⟩⟩ dX4_source_40
        · skip
          refine lv_iconst (v := iI (-1)) hex hbc dX4_source_26 rfl ?_
          exact g_iret hex hbc hrt hlocks hK hP hD hS ⟨⟨-1, rfl, fun _ => rfl, fun h => (by exfalso; omega)⟩, ⟨rfl, rfl, rfl, rfl, rfl, rfl⟩⟩ dX4_source_27
theorem iX4_keep_X2 : ∀ w ∈ wsX20, w ∈ wsX4_keep := fun _ h => List.mem_cons_of_mem _ (List.mem_append_right _ h)
theorem iX4_keep_X4 : ∀ w ∈ wsX40, w ∈ wsX4_keep := fun _ h => List.mem_cons_of_mem _ (List.mem_append_left _ (List.mem_append_right _ h))
set_option maxHeartbeats 4000000 in
set_option maxRecDepth 100000 in
theorem mX4_keep (l : Launch) (G : va_G) (cx a : Nat → Nat) (σ : Nat → Int → Int)  (x : Int) (hx : -2147483648 ≤ x ∧ x < 2147483648) (hI : Inv (σ 0)) : Met l yX4_keep wsX4_keep ({ frames := 2, cells := 0, slots := 0, locals := 81 }) (va_Pc [.ref (a 0), .int (iI x)] (gW G (tx cx) (XA a) (wx cx a) σ)) (va_Qi (fun r u => ((0 ≤ x ∧ x ≤ 1) → iI (σ 0 74) = r ∧ u 0 = σ 0 ∧ u 1 = σ 1 ∧ u 12 0 = σ 12 0 ∧ u 12 1 = σ 12 1 ∧ u 9 = cpi (σ 9) (σ 0) (107 * x) ∧ u 11 = ups (σ 11) x 1) ∧ (¬ (0 ≤ x ∧ x ≤ 1) → iI (-1) = r ∧ XQ_ σ u)) (gW G (tx cx) (XA a) (wx cx a)) (XA a)) 0 0 (XA a) := by
  refine Met.ofW (cc := cX4_keep) (maxL := 2) (ret := some .int) (by decide) rfl ?_
  intro p e s m args below meth c s₁ B hml hv
  obtain ⟨rfl, hP, hK, hD⟩ := hv
  have hex := B.exec
  have hbc := B.bytes
  have hrt := B.returns
  have hts := atoms_spec (ws := wsX4_keep) B.pre
  have hown : s.vm.findClass RX4 = some m.cls := findClass_of_methodNamed B.named
  have hlocks := B.notSynchronized
  have hS : va_S (XA a) s.heap s.heap [] := va_S.rf
  have hin2 := iX4_keep_X2
  have hin4 := iX4_keep_X4
  have hl := lv_entry ([.ref (a 0), .int (iI x)]) (n := 2) (Nat.le_of_ble_eq_true rfl)
  rw [lg_entry_eq]
  generalize (lg_sl ([.ref (a 0), .int (iI x)]) ++ List.replicate (2 - (lg_sl ([.ref (a 0), .int (iI x)])).length) Slot.unset).toArray = ls at hl ⊢
  have hl : lv_has ls 2 [(0, .ref (a 0)), (1, .int (iI x))] := hl
  obtain ⟨hB, hEn, hMk, hAs, hPm⟩ := id hI
  refine lv_iload_n hex hbc dX4_keep_0 rfl (lv_at hl 1 rfl) ?_
  refine g_callS [.int (iI x)] ⟨hex, hbc, hml, hown, hts⟩ (mX4_isImage l x (by omega)) (va_cwS 1 hts gX4_keep_X4_isImage rfl rfl rfl (by decide +kernel) ⟨Nat.le_of_ble_eq_true rfl, Nat.le_of_ble_eq_true rfl⟩) hP hS rfl rfl hl.1 (Nat.le_of_ble_eq_true rfl) dX4_keep_1 ⟨Nat.zero_le _, Nat.zero_le _⟩ (fun r_1 H locs hw_1 hP hS => ?_)
  obtain ⟨vb1, rfl, hv1⟩ := hw_1
  refine zt_ifb_ne (P := (0 ≤ x ∧ x ≤ 1)) (tgt := 9) hex hbc hv1 dX4_keep_4 (by decide) (fun c4 => ?_) (fun c4 => ?_)
  · skip
    refine lv_aload_n hex hbc dX4_keep_9 rfl (lv_at hl 0 rfl) ?_
    refine va_get (v := .ref (a 59)) hex hbc hts hin4 hown hK hP 0 rfl rfl 4 (by decide) (hts _ (List.mem_of_getElem? (i := 1) rfl)) (fun _ h => h) rfl dX4_keep_10 ?_
    refine lv_iload_n hex hbc dX4_keep_13 rfl (lv_at hl 1 rfl) ?_
    by_cases cq14_0 : x = 0
    · skip
      refine g_aald (i := x) (k := 0) (v := a 60) hex hbc hK hP 59 3 rfl rfl (by decide) cq14_0 (by decide) rfl dX4_keep_14 ?_
      refine lv_aload_n hex hbc dX4_keep_15 rfl (lv_at hl 0 rfl) ?_
      refine va_get (v := .ref (a 3)) hex hbc hts hin4 hown hK hP 0 rfl rfl 0 (by decide) (hts _ (List.mem_of_getElem? (i := 2) rfl)) (fun _ h => h) rfl dX4_keep_16 ?_
      refine g_callv [.ref (a 3)] ⟨hex, hbc, hml, hown, hts⟩ (mX2_copy_k0 l G cx a σ  ) (cwV 1 hts gX4_keep_X2_copy rfl rfl rfl (by decide +kernel) ⟨Nat.le_of_ble_eq_true rfl, Nat.le_of_ble_eq_true rfl⟩) hK hP hD hS (fun _ h => h) 60 2 rfl rfl rfl rfl hl.1 (Nat.le_of_ble_eq_true rfl) dX4_keep_19 ⟨Nat.zero_le _, Nat.zero_le _⟩ (fun u_19 H locs hw_19 hP hD hS hz_19 hk_19 => ?_)
      obtain rfl := hw_19
      have hP : va_P G vwCl (wx cx a (sc σ 9 (cpi (σ 9) (σ 0) 0))) H := hP
      have hD : va_D (XA a) (wx cx a (sc σ 9 (cpi (σ 9) (σ 0) 0))) := hD
      refine lv_aload_n hex hbc dX4_keep_22 rfl (lv_at hl 0 rfl) ?_
      refine va_get (v := .ref (a 1)) hex hbc hts hin4 hown hK hP 0 rfl rfl 5 (by decide) (hts _ (List.mem_of_getElem? (i := 3) rfl)) (fun _ h => h) rfl dX4_keep_23 ?_
      refine lv_iload_n hex hbc dX4_keep_26 rfl (lv_at hl 1 rfl) ?_
      refine lv_iconst (v := iI 1) hex hbc dX4_keep_27 rfl ?_
      have hi_28 : (0 : Int) ≤ x ∧ x < (2 : Int) := (by omega)
      refine g_zast (σ := (sc σ 9 (cpi (σ 9) (σ 0) 0))) (f := (σ 11)) (i := x) (v := 1) (τ := st (sc σ 9 (cpi (σ 9) (σ 0) 0)) 11 x 1) hex hbc hK hP hD hS 1 2 rfl rfl (by decide) hi_28 (by omega) dX4_keep_28 (wx_up_1 hi_28) (fun H locs hP hD hS => ?_)
      obtain ⟨f11_28, ef11_28⟩ : ∃ z : Int → Int, z = ups (σ 11) x 1 := ⟨_, rfl⟩
      have hP : va_P G vwCl (wx cx a (sc (sc σ 9 (cpi (σ 9) (σ 0) 0)) 11 f11_28)) H := by rw [ef11_28]; exact hP
      have hD : va_D (XA a) (wx cx a (sc (sc σ 9 (cpi (σ 9) (σ 0) 0)) 11 f11_28)) := by rw [ef11_28]; exact hD
      refine lv_aload_n hex hbc dX4_keep_29 rfl (lv_at hl 0 rfl) ?_
      refine va_get (v := .ref (a 3)) hex hbc hts hin4 hown hK hP 0 rfl rfl 0 (by decide) (hts _ (List.mem_of_getElem? (i := 2) rfl)) (fun _ h => h) rfl dX4_keep_30 ?_
      refine va_get (v := .int (iI (σ 0 74))) hex hbc hts hin2 hown hK hP 3 rfl rfl 1 (by decide) (hts _ (List.mem_of_getElem? (i := 4) rfl)) (fun _ h => h) rfl dX4_keep_33 ?_
      exact g_iret hex hbc hrt hlocks hK hP hD hS ⟨fun _ => ⟨rfl, rfl, rfl, rfl, rfl, (by show (cpi (σ 9) (σ 0) 0) = _; congr 1; omega), ef11_28⟩, fun h => absurd c4 h⟩ dX4_keep_36
    have cq14_1 : x = 1 := by omega
    refine g_aald (i := x) (k := 1) (v := a 65) hex hbc hK hP 59 3 rfl rfl (by decide) cq14_1 (by decide) rfl dX4_keep_14 ?_
    refine lv_aload_n hex hbc dX4_keep_15 rfl (lv_at hl 0 rfl) ?_
    refine va_get (v := .ref (a 3)) hex hbc hts hin4 hown hK hP 0 rfl rfl 0 (by decide) (hts _ (List.mem_of_getElem? (i := 2) rfl)) (fun _ h => h) rfl dX4_keep_16 ?_
    refine g_callv [.ref (a 3)] ⟨hex, hbc, hml, hown, hts⟩ (mX2_copy_k1 l G cx a σ  ) (cwV 1 hts gX4_keep_X2_copy rfl rfl rfl (by decide +kernel) ⟨Nat.le_of_ble_eq_true rfl, Nat.le_of_ble_eq_true rfl⟩) hK hP hD hS (fun _ h => h) 65 2 rfl rfl rfl rfl hl.1 (Nat.le_of_ble_eq_true rfl) dX4_keep_19 ⟨Nat.zero_le _, Nat.zero_le _⟩ (fun u_19 H locs hw_19 hP hD hS hz_19 hk_19 => ?_)
    obtain rfl := hw_19
    have hP : va_P G vwCl (wx cx a (sc σ 9 (cpi (σ 9) (σ 0) 107))) H := hP
    have hD : va_D (XA a) (wx cx a (sc σ 9 (cpi (σ 9) (σ 0) 107))) := hD
    refine lv_aload_n hex hbc dX4_keep_22 rfl (lv_at hl 0 rfl) ?_
    refine va_get (v := .ref (a 1)) hex hbc hts hin4 hown hK hP 0 rfl rfl 5 (by decide) (hts _ (List.mem_of_getElem? (i := 3) rfl)) (fun _ h => h) rfl dX4_keep_23 ?_
    refine lv_iload_n hex hbc dX4_keep_26 rfl (lv_at hl 1 rfl) ?_
    refine lv_iconst (v := iI 1) hex hbc dX4_keep_27 rfl ?_
    have hi_28 : (0 : Int) ≤ x ∧ x < (2 : Int) := (by omega)
    refine g_zast (σ := (sc σ 9 (cpi (σ 9) (σ 0) 107))) (f := (σ 11)) (i := x) (v := 1) (τ := st (sc σ 9 (cpi (σ 9) (σ 0) 107)) 11 x 1) hex hbc hK hP hD hS 1 2 rfl rfl (by decide) hi_28 (by omega) dX4_keep_28 (wx_up_1 hi_28) (fun H locs hP hD hS => ?_)
    obtain ⟨f11_28, ef11_28⟩ : ∃ z : Int → Int, z = ups (σ 11) x 1 := ⟨_, rfl⟩
    have hP : va_P G vwCl (wx cx a (sc (sc σ 9 (cpi (σ 9) (σ 0) 107)) 11 f11_28)) H := by rw [ef11_28]; exact hP
    have hD : va_D (XA a) (wx cx a (sc (sc σ 9 (cpi (σ 9) (σ 0) 107)) 11 f11_28)) := by rw [ef11_28]; exact hD
    refine lv_aload_n hex hbc dX4_keep_29 rfl (lv_at hl 0 rfl) ?_
    refine va_get (v := .ref (a 3)) hex hbc hts hin4 hown hK hP 0 rfl rfl 0 (by decide) (hts _ (List.mem_of_getElem? (i := 2) rfl)) (fun _ h => h) rfl dX4_keep_30 ?_
    refine va_get (v := .int (iI (σ 0 74))) hex hbc hts hin2 hown hK hP 3 rfl rfl 1 (by decide) (hts _ (List.mem_of_getElem? (i := 4) rfl)) (fun _ h => h) rfl dX4_keep_33 ?_
    exact g_iret hex hbc hrt hlocks hK hP hD hS ⟨fun _ => ⟨rfl, rfl, rfl, rfl, rfl, (by show (cpi (σ 9) (σ 0) 107) = _; congr 1; omega), ef11_28⟩, fun h => absurd c4 h⟩ dX4_keep_36
  · skip
    refine lv_iconst (v := iI (-1)) hex hbc dX4_keep_7 rfl ?_
    exact g_iret hex hbc hrt hlocks hK hP hD hS ⟨fun h => absurd h c4, fun _ => ⟨rfl, ⟨rfl, rfl, rfl, rfl, rfl, rfl⟩⟩⟩ dX4_keep_8
theorem iX4_back_X2 : ∀ w ∈ wsX20, w ∈ wsX4_back := fun _ h => List.mem_cons_of_mem _ (List.mem_append_left _ (List.mem_append_right _ h))
theorem iX4_back_X4 : ∀ w ∈ wsX40, w ∈ wsX4_back := fun _ h => List.mem_cons_of_mem _ (List.mem_append_left _ (List.mem_append_left _ (List.mem_append_right _ h)))
set_option maxHeartbeats 4000000 in
set_option maxRecDepth 100000 in
theorem mX4_back (l : Launch) (G : va_G) (cx a : Nat → Nat) (σ : Nat → Int → Int)  (x : Int) (hx : -2147483648 ≤ x ∧ x < 2147483648) (hFk : ∀ i, 0 ≤ i → i ≤ 1 → σ 11 i = 0 ∨ σ 11 i = 1) (hHs : (0 ≤ σ 12 0 ∧ σ 12 0 ≤ 7) ∧ (0 ≤ σ 12 1 ∧ σ 12 1 ≤ 8)) (hI : Inv (σ 0)) : Met l yX4_back wsX4_back ({ frames := 3, cells := 0, slots := 0, locals := 102 }) (va_Pc [.ref (a 0), .int (iI x)] (gW G (tx cx) (XA a) (wx cx a) σ)) (va_Qi (fun r u => (¬ (0 ≤ x ∧ x ≤ 1) → iI (-1) = r ∧ XQ_ σ u) ∧ ((0 ≤ x ∧ x ≤ 1) → (σ 11 x = 0 → iI (-2) = r ∧ XQ_ σ u) ∧ (σ 11 x ≠ 0 → iI (σ 9 (107 * x + 74)) = r ∧ XC_ σ u (cpo (σ 0) (σ 9) (107 * x))))) (gW G (tx cx) (XA a) (wx cx a)) (XA a)) 0 0 (XA a) := by
  refine Met.ofW (cc := cX4_back) (maxL := 2) (ret := some .int) (by decide) rfl ?_
  intro p e s m args below meth c s₁ B hml hv
  obtain ⟨rfl, hP, hK, hD⟩ := hv
  have hex := B.exec
  have hbc := B.bytes
  have hrt := B.returns
  have hts := atoms_spec (ws := wsX4_back) B.pre
  have hown : s.vm.findClass RX4 = some m.cls := findClass_of_methodNamed B.named
  have hlocks := B.notSynchronized
  have hS : va_S (XA a) s.heap s.heap [] := va_S.rf
  have hin2 := iX4_back_X2
  have hin4 := iX4_back_X4
  have hl := lv_entry ([.ref (a 0), .int (iI x)]) (n := 2) (Nat.le_of_ble_eq_true rfl)
  rw [lg_entry_eq]
  generalize (lg_sl ([.ref (a 0), .int (iI x)]) ++ List.replicate (2 - (lg_sl ([.ref (a 0), .int (iI x)])).length) Slot.unset).toArray = ls at hl ⊢
  have hl : lv_has ls 2 [(0, .ref (a 0)), (1, .int (iI x))] := hl
  obtain ⟨hB, hEn, hMk, hAs, hPm⟩ := id hI
  refine lv_iload_n hex hbc dX4_back_0 rfl (lv_at hl 1 rfl) ?_
  refine g_callS [.int (iI x)] ⟨hex, hbc, hml, hown, hts⟩ (mX4_isImage l x (by omega)) (va_cwS 1 hts gX4_back_X4_isImage rfl rfl rfl (by decide +kernel) ⟨Nat.le_of_ble_eq_true rfl, Nat.le_of_ble_eq_true rfl⟩) hP hS rfl rfl hl.1 (Nat.le_of_ble_eq_true rfl) dX4_back_1 ⟨Nat.zero_le _, Nat.zero_le _⟩ (fun r_1 H locs hw_1 hP hS => ?_)
  obtain ⟨vb1, rfl, hv1⟩ := hw_1
  refine zt_ifb_ne (P := (0 ≤ x ∧ x ≤ 1)) (tgt := 9) hex hbc hv1 dX4_back_4 (by decide) (fun c4 => ?_) (fun c4 => ?_)
  · skip
    refine lv_aload_n hex hbc dX4_back_9 rfl (lv_at hl 0 rfl) ?_
    refine va_get (v := .ref (a 1)) hex hbc hts hin4 hown hK hP 0 rfl rfl 5 (by decide) (hts _ (List.mem_of_getElem? (i := 1) rfl)) (fun _ h => h) rfl dX4_back_10 ?_
    refine lv_iload_n hex hbc dX4_back_13 rfl (lv_at hl 1 rfl) ?_
    have hfx := hFk x c4.1 c4.2
    refine g_zald (f := (σ 11)) (v := (σ 11 x)) (i := x) hex hbc hK hP 1 2 rfl rfl (by decide) (by omega) rfl dX4_back_14 ?_
    refine zt_if_ne (a := (σ 11 x)) (tgt := 21) hex hbc (by omega) dX4_back_15 (by decide) (fun c15 => ?_) (fun c15 => ?_)
    · skip
      refine lv_aload_n hex hbc dX4_back_21 rfl (lv_at hl 0 rfl) ?_
      refine va_get (v := .ref (a 17)) hex hbc hts hin4 hown hK hP 0 rfl rfl 3 (by decide) (hts _ (List.mem_of_getElem? (i := 2) rfl)) (fun _ h => h) rfl dX4_back_22 ?_
      refine lv_aload_n hex hbc dX4_back_25 rfl (lv_at hl 0 rfl) ?_
      refine va_get (v := .ref (a 3)) hex hbc hts hin4 hown hK hP 0 rfl rfl 0 (by decide) (hts _ (List.mem_of_getElem? (i := 3) rfl)) (fun _ h => h) rfl dX4_back_26 ?_
      refine g_callv [.ref (a 3)] ⟨hex, hbc, hml, hown, hts⟩ (mX1_push l G cx a σ  hHs) (cwV 1 hts gX4_back_X1_push rfl rfl rfl (by decide +kernel) ⟨Nat.le_of_ble_eq_true rfl, Nat.le_of_ble_eq_true rfl⟩) hK hP hD hS (fun _ h => h) 17 1 rfl rfl rfl rfl hl.1 (Nat.le_of_ble_eq_true rfl) dX4_back_29 ⟨Nat.zero_le _, Nat.zero_le _⟩ (fun u_29 H locs hw_29 hP hD hS hz_29 hk_29 => ?_)
      obtain rfl := hw_29
      have hP : va_P G vwCl (wx cx a (sc (sc σ 1 (cpi (σ 1) (σ 0) (107 * (if σ 12 0 + 1 < 8 then σ 12 0 + 1 else 0)))) 12 (ups (ups (σ 12) 0 (if σ 12 0 + 1 < 8 then σ 12 0 + 1 else 0)) 1 (if σ 12 1 < 8 then σ 12 1 + 1 else σ 12 1)))) H := hP
      have hD : va_D (XA a) (wx cx a (sc (sc σ 1 (cpi (σ 1) (σ 0) (107 * (if σ 12 0 + 1 < 8 then σ 12 0 + 1 else 0)))) 12 (ups (ups (σ 12) 0 (if σ 12 0 + 1 < 8 then σ 12 0 + 1 else 0)) 1 (if σ 12 1 < 8 then σ 12 1 + 1 else σ 12 1)))) := hD
      refine lv_aload_n hex hbc dX4_back_32 rfl (lv_at hl 0 rfl) ?_
      refine va_get (v := .ref (a 3)) hex hbc hts hin4 hown hK hP 0 rfl rfl 0 (by decide) (hts _ (List.mem_of_getElem? (i := 3) rfl)) (fun _ h => h) rfl dX4_back_33 ?_
      refine lv_aload_n hex hbc dX4_back_36 rfl (lv_at hl 0 rfl) ?_
      refine va_get (v := .ref (a 59)) hex hbc hts hin4 hown hK hP 0 rfl rfl 4 (by decide) (hts _ (List.mem_of_getElem? (i := 4) rfl)) (fun _ h => h) rfl dX4_back_37 ?_
      refine lv_iload_n hex hbc dX4_back_40 rfl (lv_at hl 1 rfl) ?_
      by_cases cq41_0 : x = 0
      · skip
        refine g_aald (i := x) (k := 0) (v := a 60) hex hbc hK hP 59 3 rfl rfl (by decide) cq41_0 (by decide) rfl dX4_back_41 ?_
        refine g_callv [.ref (a 60)] ⟨hex, hbc, hml, hown, hts⟩ (mX2_copy_b0 l G cx a (sc (sc σ 1 (cpi (σ 1) (σ 0) (107 * (if σ 12 0 + 1 < 8 then σ 12 0 + 1 else 0)))) 12 (ups (ups (σ 12) 0 (if σ 12 0 + 1 < 8 then σ 12 0 + 1 else 0)) 1 (if σ 12 1 < 8 then σ 12 1 + 1 else σ 12 1)))  ) (cwV 1 hts gX4_back_X2_copy rfl rfl rfl (by decide +kernel) ⟨Nat.le_of_ble_eq_true rfl, Nat.le_of_ble_eq_true rfl⟩) hK hP hD hS (fun _ h => h) 3 2 rfl rfl rfl rfl hl.1 (Nat.le_of_ble_eq_true rfl) dX4_back_42 ⟨Nat.zero_le _, Nat.zero_le _⟩ (fun u_42 H locs hw_42 hP hD hS hz_42 hk_42 => ?_)
        obtain rfl := hw_42
        have hP : va_P G vwCl (wx cx a (sc (sc (sc σ 0 (cpo (σ 0) (σ 9) 0)) 1 (cpi (σ 1) (σ 0) (107 * (if σ 12 0 + 1 < 8 then σ 12 0 + 1 else 0)))) 12 (ups (ups (σ 12) 0 (if σ 12 0 + 1 < 8 then σ 12 0 + 1 else 0)) 1 (if σ 12 1 < 8 then σ 12 1 + 1 else σ 12 1)))) H := hP
        have hD : va_D (XA a) (wx cx a (sc (sc (sc σ 0 (cpo (σ 0) (σ 9) 0)) 1 (cpi (σ 1) (σ 0) (107 * (if σ 12 0 + 1 < 8 then σ 12 0 + 1 else 0)))) 12 (ups (ups (σ 12) 0 (if σ 12 0 + 1 < 8 then σ 12 0 + 1 else 0)) 1 (if σ 12 1 < 8 then σ 12 1 + 1 else σ 12 1)))) := hD
        refine lv_aload_n hex hbc dX4_back_45 rfl (lv_at hl 0 rfl) ?_
        refine va_get (v := .ref (a 3)) hex hbc hts hin4 hown hK hP 0 rfl rfl 0 (by decide) (hts _ (List.mem_of_getElem? (i := 3) rfl)) (fun _ h => h) rfl dX4_back_46 ?_
        refine va_get (v := .int (iI ((cpo (σ 0) (σ 9) 0) 74))) hex hbc hts hin2 hown hK hP 3 rfl rfl 1 (by decide) (hts _ (List.mem_of_getElem? (i := 5) rfl)) (fun _ h => h) rfl dX4_back_49 ?_
        refine zt_nm (a := ((cpo (σ 0) (σ 9) 0) 74)) (b := (σ 9 (107 * x + 74))) (by show ((cpo (σ 0) (σ 9) 0) 74) = _; unfold cpo; rw [if_pos (by omega)]; exact congrArg _ (by omega)) ?_
        exact g_iret hex hbc hrt hlocks hK hP hD hS ⟨fun h => absurd c4 h, fun _ => ⟨fun h => absurd h c15, fun _ => ⟨rfl, ⟨(by show (cpo (σ 0) (σ 9) 0) = _; congr 1; omega), rfl, (show ups (ups (σ 12) 0 (nxs (σ 12 0))) 1 (szs (σ 12 1)) 0 = nxs (σ 12 0) from pu_0), (show ups (ups (σ 12) 0 (nxs (σ 12 0))) 1 (szs (σ 12 1)) 1 = szs (σ 12 1) from pu_1), rfl, rfl⟩⟩⟩⟩ dX4_back_52
      have cq41_1 : x = 1 := by omega
      refine g_aald (i := x) (k := 1) (v := a 65) hex hbc hK hP 59 3 rfl rfl (by decide) cq41_1 (by decide) rfl dX4_back_41 ?_
      refine g_callv [.ref (a 65)] ⟨hex, hbc, hml, hown, hts⟩ (mX2_copy_b1 l G cx a (sc (sc σ 1 (cpi (σ 1) (σ 0) (107 * (if σ 12 0 + 1 < 8 then σ 12 0 + 1 else 0)))) 12 (ups (ups (σ 12) 0 (if σ 12 0 + 1 < 8 then σ 12 0 + 1 else 0)) 1 (if σ 12 1 < 8 then σ 12 1 + 1 else σ 12 1)))  ) (cwV 1 hts gX4_back_X2_copy rfl rfl rfl (by decide +kernel) ⟨Nat.le_of_ble_eq_true rfl, Nat.le_of_ble_eq_true rfl⟩) hK hP hD hS (fun _ h => h) 3 2 rfl rfl rfl rfl hl.1 (Nat.le_of_ble_eq_true rfl) dX4_back_42 ⟨Nat.zero_le _, Nat.zero_le _⟩ (fun u_42 H locs hw_42 hP hD hS hz_42 hk_42 => ?_)
      obtain rfl := hw_42
      have hP : va_P G vwCl (wx cx a (sc (sc (sc σ 0 (cpo (σ 0) (σ 9) 107)) 1 (cpi (σ 1) (σ 0) (107 * (if σ 12 0 + 1 < 8 then σ 12 0 + 1 else 0)))) 12 (ups (ups (σ 12) 0 (if σ 12 0 + 1 < 8 then σ 12 0 + 1 else 0)) 1 (if σ 12 1 < 8 then σ 12 1 + 1 else σ 12 1)))) H := hP
      have hD : va_D (XA a) (wx cx a (sc (sc (sc σ 0 (cpo (σ 0) (σ 9) 107)) 1 (cpi (σ 1) (σ 0) (107 * (if σ 12 0 + 1 < 8 then σ 12 0 + 1 else 0)))) 12 (ups (ups (σ 12) 0 (if σ 12 0 + 1 < 8 then σ 12 0 + 1 else 0)) 1 (if σ 12 1 < 8 then σ 12 1 + 1 else σ 12 1)))) := hD
      refine lv_aload_n hex hbc dX4_back_45 rfl (lv_at hl 0 rfl) ?_
      refine va_get (v := .ref (a 3)) hex hbc hts hin4 hown hK hP 0 rfl rfl 0 (by decide) (hts _ (List.mem_of_getElem? (i := 3) rfl)) (fun _ h => h) rfl dX4_back_46 ?_
      refine va_get (v := .int (iI ((cpo (σ 0) (σ 9) 107) 74))) hex hbc hts hin2 hown hK hP 3 rfl rfl 1 (by decide) (hts _ (List.mem_of_getElem? (i := 5) rfl)) (fun _ h => h) rfl dX4_back_49 ?_
      refine zt_nm (a := ((cpo (σ 0) (σ 9) 107) 74)) (b := (σ 9 (107 * x + 74))) (by show ((cpo (σ 0) (σ 9) 107) 74) = _; unfold cpo; rw [if_pos (by omega)]; exact congrArg _ (by omega)) ?_
      exact g_iret hex hbc hrt hlocks hK hP hD hS ⟨fun h => absurd c4 h, fun _ => ⟨fun h => absurd h c15, fun _ => ⟨rfl, ⟨(by show (cpo (σ 0) (σ 9) 107) = _; congr 1; omega), rfl, (show ups (ups (σ 12) 0 (nxs (σ 12 0))) 1 (szs (σ 12 1)) 0 = nxs (σ 12 0) from pu_0), (show ups (ups (σ 12) 0 (nxs (σ 12 0))) 1 (szs (σ 12 1)) 1 = szs (σ 12 1) from pu_1), rfl, rfl⟩⟩⟩⟩ dX4_back_52
    · skip
      refine lv_bipush (v := iI (-2)) hex hbc dX4_back_18 (by decide) ?_
      exact g_iret hex hbc hrt hlocks hK hP hD hS ⟨fun h => absurd c4 h, fun _ => ⟨fun _ => ⟨rfl, ⟨rfl, rfl, rfl, rfl, rfl, rfl⟩⟩, fun h => absurd c15 h⟩⟩ dX4_back_20
  · skip
    refine lv_iconst (v := iI (-1)) hex hbc dX4_back_7 rfl ?_
    exact g_iret hex hbc hrt hlocks hK hP hD hS ⟨fun _ => ⟨rfl, ⟨rfl, rfl, rfl, rfl, rfl, rfl⟩⟩, fun h => absurd h c4⟩ dX4_back_8
