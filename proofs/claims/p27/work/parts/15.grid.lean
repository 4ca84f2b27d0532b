/-! the program: its grid (rows laid by wip/gen) -/
theorem iX0_firstStepOf_X0 : ∀ w ∈ wsX00, w ∈ wsX0_firstStepOf := fun _ h => List.mem_cons_of_mem _ (List.mem_append_left _ (List.mem_append_right _ h))
theorem iX0_firstStepOf_X2 : ∀ w ∈ wsX20, w ∈ wsX0_firstStepOf := fun _ h => List.mem_cons_of_mem _ (List.mem_append_right _ h)
set_option maxHeartbeats 4000000 in
set_option maxRecDepth 100000 in
theorem mX0_firstStepOf (l : Launch) (G : va_G) (cx a : Nat → Nat) (σ : Nat → Int → Int)  (x : Int) (hx : 0 ≤ x ∧ x ≤ 16) (hI : Inv (σ 0)) : Met l yX0_firstStepOf wsX0_firstStepOf ({ frames := 0, cells := 0, slots := 0, locals := 0 }) (va_Pc [.ref (a 8), .int (iI x)] (gW G (tx cx) (XA a) (wx cx a) σ)) (va_Qi (fun r u => σ = u ∧ iI (fst_ (σ 0) (σ 21 1) x) = r) (gW G (tx cx) (XA a) (wx cx a)) (XA a)) 0 0 (XA a) := by
  refine Met.ofW (cc := cX0_firstStepOf) (maxL := 2) (ret := some .int) (by decide) rfl ?_
  intro p e s m args below meth c s₁ B hml hv
  obtain ⟨rfl, hP, hK, hD⟩ := hv
  have hex := B.exec
  have hbc := B.bytes
  have hrt := B.returns
  have hts := atoms_spec (ws := wsX0_firstStepOf) B.pre
  have hown : s.vm.findClass RX0 = some m.cls := findClass_of_methodNamed B.named
  have hlocks := B.notSynchronized
  have hS : va_S (XA a) s.heap s.heap [] := va_S.rf
  have hin0 := iX0_firstStepOf_X0
  have hin2 := iX0_firstStepOf_X2
  have hl := lv_entry ([.ref (a 8), .int (iI x)]) (n := 2) (Nat.le_of_ble_eq_true rfl)
  rw [lg_entry_eq]
  generalize (lg_sl ([.ref (a 8), .int (iI x)]) ++ List.replicate (2 - (lg_sl ([.ref (a 8), .int (iI x)])).length) Slot.unset).toArray = ls at hl ⊢
  have hl : lv_has ls 2 [(0, .ref (a 8)), (1, .int (iI x))] := hl
  obtain ⟨hB, hEn, hMk, hAs, hPm⟩ := id hI
  refine lv_iload_n hex hbc dX0_firstStepOf_0 rfl (lv_at hl 1 rfl) ?_
  refine lv_aload_n hex hbc dX0_firstStepOf_1 rfl (lv_at hl 0 rfl) ?_
  refine va_get (v := .ref (a 3)) hex hbc hts hin0 hown hK hP 8 rfl rfl 0 (by decide) (hts _ (List.mem_of_getElem? (i := 1) rfl)) (fun _ h => h) rfl dX0_firstStepOf_2 ?_
  refine va_get (v := .int (iI (σ 0 74))) hex hbc hts hin2 hown hK hP 3 rfl rfl 1 (by decide) (hts _ (List.mem_of_getElem? (i := 2) rfl)) (fun _ h => h) rfl dX0_firstStepOf_5 ?_
  refine zt_icmp_ge (a := x) (b := (σ 0 74)) (tgt := 15) hex hbc (by omega) dX0_firstStepOf_8 (by decide) (fun c8 => ?_) (fun c8 => ?_)
  · skip
    refine lv_aload_n hex hbc dX0_firstStepOf_15 rfl (lv_at hl 0 rfl) ?_
    refine va_get (v := .int (iI (σ 21 1))) hex hbc hts hin0 hown hK hP 8 rfl rfl 2 (by decide) (hts _ (List.mem_of_getElem? (i := 3) rfl)) (fun _ h => h) rfl dX0_firstStepOf_16 ?_
    exact g_iret hex hbc hrt hlocks hK hP hD hS ⟨rfl, congrArg iI (by unfold fst_; first | exact if_pos (by omega) | exact if_neg (by omega))⟩ dX0_firstStepOf_19
  · skip
    refine lv_iload_n hex hbc dX0_firstStepOf_11 rfl (lv_at hl 1 rfl) ?_
    refine lv_goto (tgt := 19) hex hbc dX0_firstStepOf_12 (by decide) ?_
    exact g_iret hex hbc hrt hlocks hK hP hD hS ⟨rfl, congrArg iI (by unfold fst_; first | exact if_pos (by omega) | exact if_neg (by omega))⟩ dX0_firstStepOf_19
theorem iX0_lastStepOf_X0 : ∀ w ∈ wsX00, w ∈ wsX0_lastStepOf := fun _ h => List.mem_cons_of_mem _ (List.mem_append_left _ (List.mem_append_right _ h))
theorem iX0_lastStepOf_X2 : ∀ w ∈ wsX20, w ∈ wsX0_lastStepOf := fun _ h => List.mem_cons_of_mem _ (List.mem_append_right _ h)
set_option maxHeartbeats 4000000 in
set_option maxRecDepth 100000 in
theorem mX0_lastStepOf (l : Launch) (G : va_G) (cx a : Nat → Nat) (σ : Nat → Int → Int)  (x : Int) (hx : 0 ≤ x ∧ x ≤ 16) (hI : Inv (σ 0)) : Met l yX0_lastStepOf wsX0_lastStepOf ({ frames := 0, cells := 0, slots := 0, locals := 0 }) (va_Pc [.ref (a 8), .int (iI x)] (gW G (tx cx) (XA a) (wx cx a) σ)) (va_Qi (fun r u => σ = u ∧ iI (lst_ (σ 0) (σ 21 1) x) = r) (gW G (tx cx) (XA a) (wx cx a)) (XA a)) 0 0 (XA a) := by
  refine Met.ofW (cc := cX0_lastStepOf) (maxL := 2) (ret := some .int) (by decide) rfl ?_
  intro p e s m args below meth c s₁ B hml hv
  obtain ⟨rfl, hP, hK, hD⟩ := hv
  have hex := B.exec
  have hbc := B.bytes
  have hrt := B.returns
  have hts := atoms_spec (ws := wsX0_lastStepOf) B.pre
  have hown : s.vm.findClass RX0 = some m.cls := findClass_of_methodNamed B.named
  have hlocks := B.notSynchronized
  have hS : va_S (XA a) s.heap s.heap [] := va_S.rf
  have hin0 := iX0_lastStepOf_X0
  have hin2 := iX0_lastStepOf_X2
  have hl := lv_entry ([.ref (a 8), .int (iI x)]) (n := 2) (Nat.le_of_ble_eq_true rfl)
  rw [lg_entry_eq]
  generalize (lg_sl ([.ref (a 8), .int (iI x)]) ++ List.replicate (2 - (lg_sl ([.ref (a 8), .int (iI x)])).length) Slot.unset).toArray = ls at hl ⊢
  have hl : lv_has ls 2 [(0, .ref (a 8)), (1, .int (iI x))] := hl
  obtain ⟨hB, hEn, hMk, hAs, hPm⟩ := id hI
  refine lv_iload_n hex hbc dX0_lastStepOf_0 rfl (lv_at hl 1 rfl) ?_
  refine zt_if_ne (a := x) (tgt := 8) hex hbc (by omega) dX0_lastStepOf_1 (by decide) (fun c1 => ?_) (fun c1 => ?_)
  · skip
    refine lv_aload_n hex hbc dX0_lastStepOf_8 rfl (lv_at hl 0 rfl) ?_
    refine va_get (v := .int (iI (σ 21 1))) hex hbc hts hin0 hown hK hP 8 rfl rfl 2 (by decide) (hts _ (List.mem_of_getElem? (i := 1) rfl)) (fun _ h => h) rfl dX0_lastStepOf_9 ?_
    refine lv_aload_n hex hbc dX0_lastStepOf_12 rfl (lv_at hl 0 rfl) ?_
    refine va_get (v := .ref (a 3)) hex hbc hts hin0 hown hK hP 8 rfl rfl 0 (by decide) (hts _ (List.mem_of_getElem? (i := 2) rfl)) (fun _ h => h) rfl dX0_lastStepOf_13 ?_
    refine va_get (v := .int (iI (σ 0 74))) hex hbc hts hin2 hown hK hP 3 rfl rfl 1 (by decide) (hts _ (List.mem_of_getElem? (i := 3) rfl)) (fun _ h => h) rfl dX0_lastStepOf_16 ?_
    refine lv_iload_n hex hbc dX0_lastStepOf_19 rfl (lv_at hl 1 rfl) ?_
    refine zt_isub hex hbc dX0_lastStepOf_20 ?_
    refine zt_isub hex hbc dX0_lastStepOf_21 ?_
    exact g_iret hex hbc hrt hlocks hK hP hD hS ⟨rfl, congrArg iI (by unfold lst_; first | exact if_pos (by omega) | exact if_neg (by omega))⟩ dX0_lastStepOf_22
  · skip
    refine lv_iconst (v := iI 0) hex hbc dX0_lastStepOf_4 rfl ?_
    refine lv_goto (tgt := 22) hex hbc dX0_lastStepOf_5 (by decide) ?_
    exact g_iret hex hbc hrt hlocks hK hP hD hS ⟨rfl, congrArg iI (by unfold lst_; first | exact if_pos (by omega) | exact if_neg (by omega))⟩ dX0_lastStepOf_22
theorem iX0_distance_X0 : ∀ w ∈ wsX00, w ∈ wsX0_distance := fun _ h => List.mem_cons_of_mem _ (List.mem_append_left _ (List.mem_append_right _ h))
theorem iX0_distance_X2 : ∀ w ∈ wsX20, w ∈ wsX0_distance := fun _ h => List.mem_cons_of_mem _ (List.mem_append_right _ h)
set_option maxHeartbeats 4000000 in
set_option maxRecDepth 100000 in
theorem mX0_distance (l : Launch) (G : va_G) (cx a : Nat → Nat) (σ : Nat → Int → Int) (T0 : Int) (G0 : Int) (x1 : Int) (x2 : Int) (h1 : 0 ≤ x1 ∧ x1 < σ 0 74) (h2 : 0 ≤ x2 ∧ x2 ≤ G0) (hTG : (1 ≤ T0 ∧ T0 ≤ 200000) ∧ (1 ≤ G0 ∧ G0 ≤ 32) ∧ σ 0 74 ≤ G0) (hM : Ms σ T0 G0) (hI : Inv (σ 0)) : Met l yX0_distance wsX0_distance ({ frames := 1, cells := 0, slots := 0, locals := 30 }) (va_Pc [.ref (a 8), .int (iI x1), .int (iI x2)] (gW G (tx cx) (XA a) (wx cx a) σ)) (va_Qi (fun r u => σ = u ∧ iI (of_ (σ 0) T0 G0 x1 x2) = r) (gW G (tx cx) (XA a) (wx cx a)) (XA a)) 0 0 (XA a) := by
  refine Met.ofW (cc := cX0_distance) (maxL := 3) (ret := some .int) (by decide) rfl ?_
  intro p e s m args below meth c s₁ B hml hv
  obtain ⟨rfl, hP, hK, hD⟩ := hv
  have hex := B.exec
  have hbc := B.bytes
  have hrt := B.returns
  have hts := atoms_spec (ws := wsX0_distance) B.pre
  have hown : s.vm.findClass RX0 = some m.cls := findClass_of_methodNamed B.named
  have hlocks := B.notSynchronized
  have hS : va_S (XA a) s.heap s.heap [] := va_S.rf
  have hin0 := iX0_distance_X0
  have hin2 := iX0_distance_X2
  have hl := lv_entry ([.ref (a 8), .int (iI x1), .int (iI x2)]) (n := 3) (Nat.le_of_ble_eq_true rfl)
  rw [lg_entry_eq]
  generalize (lg_sl ([.ref (a 8), .int (iI x1), .int (iI x2)]) ++ List.replicate (3 - (lg_sl ([.ref (a 8), .int (iI x1), .int (iI x2)])).length) Slot.unset).toArray = ls at hl ⊢
  have hl : lv_has ls 3 [(0, .ref (a 8)), (1, .int (iI x1)), (2, .int (iI x2))] := hl
  obtain ⟨hB, hEn, hMk, hAs, hPm⟩ := id hI
  obtain ⟨hM1, hM2, hM3, hM4, hM5⟩ := id hM
  have hpo := po_in (T := T0) (G := G0) (i := x2) (by omega) hTG.2.1.1 h2
  have hfr := hI.fr_in h1.1
  have hm1 := mulb (a := po T0 G0 x2) (b := σ 0 0) (A := 200000) (B := 64) (by omega) (by omega) (by omega) (by omega)
  have hm2 := mulb (a := fr (σ 0) x1) (b := T0) (A := 64) (B := 200000) (by omega) (by omega) (by omega) (by omega)
  refine lv_aload_n hex hbc dX0_distance_0 rfl (lv_at hl 0 rfl) ?_
  refine va_get (v := .ref (a 9)) hex hbc hts hin0 hown hK hP 8 rfl rfl 3 (by decide) (hts _ (List.mem_of_getElem? (i := 1) rfl)) (fun _ h => h) rfl dX0_distance_1 ?_
  refine lv_iload_n hex hbc dX0_distance_4 rfl (lv_at hl 2 rfl) ?_
  refine g_iald (f := (σ 14)) (v := (σ 14 x2)) (i := x2) hex hbc hK hP 9 0 rfl rfl (by decide) (by omega) rfl dX0_distance_5 ?_
  refine zt_nm (a := (σ 14 x2)) (b := (po T0 G0 x2)) (hM3 x2 h2.1 h2.2) ?_
  refine lv_aload_n hex hbc dX0_distance_6 rfl (lv_at hl 0 rfl) ?_
  refine va_get (v := .ref (a 3)) hex hbc hts hin0 hown hK hP 8 rfl rfl 0 (by decide) (hts _ (List.mem_of_getElem? (i := 2) rfl)) (fun _ h => h) rfl dX0_distance_7 ?_
  refine va_get (v := .int (iI (σ 0 0))) hex hbc hts hin2 hown hK hP 3 rfl rfl 0 (by decide) (hts _ (List.mem_of_getElem? (i := 3) rfl)) (fun _ h => h) rfl dX0_distance_10 ?_
  refine zt_imul hex hbc dX0_distance_13 ?_
  refine lv_aload_n hex hbc dX0_distance_14 rfl (lv_at hl 0 rfl) ?_
  refine va_get (v := .ref (a 3)) hex hbc hts hin0 hown hK hP 8 rfl rfl 0 (by decide) (hts _ (List.mem_of_getElem? (i := 2) rfl)) (fun _ h => h) rfl dX0_distance_15 ?_
  refine va_get (v := .ref (a 6)) hex hbc hts hin2 hown hK hP 3 rfl rfl 4 (by decide) (hts _ (List.mem_of_getElem? (i := 4) rfl)) (fun _ h => h) rfl dX0_distance_18 ?_
  refine lv_iload_n hex hbc dX0_distance_21 rfl (lv_at hl 1 rfl) ?_
  refine g_iald (f := (fun k => (σ 0 (75 + k)))) (v := (σ 0 (75 + x1))) (i := x1) hex hbc hK hP 6 0 rfl rfl (by decide) (by omega) rfl dX0_distance_22 ?_
  refine zt_nm (a := (σ 0 (75 + x1))) (b := (fr (σ 0) x1)) (fr_lt h1.2).symm ?_
  refine lv_aload_n hex hbc dX0_distance_23 rfl (lv_at hl 0 rfl) ?_
  refine va_get (v := .int (iI (σ 21 0))) hex hbc hts hin0 hown hK hP 8 rfl rfl 1 (by decide) (hts _ (List.mem_of_getElem? (i := 5) rfl)) (fun _ h => h) rfl dX0_distance_24 ?_
  refine zt_nm (a := (σ 21 0)) (b := T0) hM1 ?_
  refine zt_imul hex hbc dX0_distance_27 ?_
  refine zt_isub hex hbc dX0_distance_28 ?_
  refine va_mabs hex hbc (hml.trans hl.1.symm) hown (hts _ (List.mem_of_getElem? (i := 6) rfl)) (hts _ (List.mem_of_getElem? (i := 7) rfl)) (hts _ (List.mem_of_getElem? (i := 8) rfl)) (hts _ (List.mem_of_getElem? (i := 9) rfl)) (Nat.le_of_ble_eq_true rfl) (Nat.le_of_ble_eq_true rfl) (Nat.zero_le _) (Nat.zero_le _) dX0_distance_29 ?_
  rw [iI_abs (a := (((po T0 G0 x2) * (σ 0 0)) - ((fr (σ 0) x1) * T0))) (by omega)]
  exact g_iret hex hbc hrt hlocks hK hP hD hS ⟨rfl, rfl⟩ dX0_distance_32
theorem iX0_bestNext_X0 : ∀ w ∈ wsX00, w ∈ wsX0_bestNext := fun _ h => List.mem_cons_of_mem _ (List.mem_append_left _ (List.mem_append_right _ h))
set_option maxHeartbeats 4000000 in
set_option maxRecDepth 100000 in
theorem mX0_bestNext (l : Launch) (G : va_G) (cx a : Nat → Nat) (σ : Nat → Int → Int) (T0 : Int) (G0 : Int) (x1 : Int) (x2 : Int) (h1 : 0 ≤ x1 ∧ x1 < σ 0 74) (h2 : x1 ≤ x2 ∧ x2 < G0) (hTG : (1 ≤ T0 ∧ T0 ≤ 200000) ∧ (1 ≤ G0 ∧ G0 ≤ 32) ∧ σ 0 74 ≤ G0) (hM : Ms σ T0 G0) (hSr : ∀ j, (max (x2 + 1) (fst_ (σ 0) G0 (x1 + 1))) ≤ j → j ≤ (lst_ (σ 0) G0 (x1 + 1)) → -1 ≤ σ 17 ((x1 + 1) * 33 + j) ∧ σ 17 ((x1 + 1) * 33 + j) ≤ 204800000) (hI : Inv (σ 0)) : Met l yX0_bestNext wsX0_bestNext ({ frames := 1, cells := 0, slots := 0, locals := 30 }) (va_Pc [.ref (a 8), .int (iI x1), .int (iI x2)] (gW G (tx cx) (XA a) (wx cx a) σ)) (va_Qi (fun r u => σ = u ∧ ∃ b, iI b = r ∧ BN (fun j => σ 17 ((x1 + 1) * 33 + j)) (fun j => fits_ (σ 0) x1 (po T0 G0 j - po T0 G0 x2)) (max (x2 + 1) (fst_ (σ 0) G0 (x1 + 1))) (lst_ (σ 0) G0 (x1 + 1)) b) (gW G (tx cx) (XA a) (wx cx a)) (XA a)) 0 0 (XA a) := by
  refine Met.ofW (cc := cX0_bestNext) (maxL := 9) (ret := some .int) (by decide) rfl ?_
  intro p e s m args below meth c s₁ B hml hv
  obtain ⟨rfl, hP, hK, hD⟩ := hv
  have hex := B.exec
  have hbc := B.bytes
  have hrt := B.returns
  have hts := atoms_spec (ws := wsX0_bestNext) B.pre
  have hown : s.vm.findClass RX0 = some m.cls := findClass_of_methodNamed B.named
  have hlocks := B.notSynchronized
  have hS : va_S (XA a) s.heap s.heap [] := va_S.rf
  have hin0 := iX0_bestNext_X0
  have hl := lv_entry ([.ref (a 8), .int (iI x1), .int (iI x2)]) (n := 9) (Nat.le_of_ble_eq_true rfl)
  rw [lg_entry_eq]
  generalize (lg_sl ([.ref (a 8), .int (iI x1), .int (iI x2)]) ++ List.replicate (9 - (lg_sl ([.ref (a 8), .int (iI x1), .int (iI x2)])).length) Slot.unset).toArray = ls at hl ⊢
  have hl : lv_has ls 9 [(0, .ref (a 8)), (1, .int (iI x1)), (2, .int (iI x2))] := hl
  obtain ⟨hB, hEn, hMk, hAs, hPm⟩ := id hI
  obtain ⟨hM1, hM2, hM3, hM4, hM5⟩ := id hM
  have hln := hI.ln_in h1.1 h1.2
  have hm4 := mulb (a := ln (σ 0) x1) (b := σ 0 4) (A := 64000) (B := 100) (by omega) (by omega) (by omega) (by omega)
  have hm5 := mulb (a := ln (σ 0) x1) (b := σ 0 5) (A := 64000) (B := 1000) (by omega) (by omega) (by omega) (by omega)
  have hp2 := po_in (T := T0) (G := G0) (i := x2) (by omega) hTG.2.1.1 (by omega)
  have hfs : x1 + 1 ≤ fst_ (σ 0) G0 (x1 + 1) ∧ fst_ (σ 0) G0 (x1 + 1) ≤ G0 := by unfold fst_; split <;> omega
  have hls : lst_ (σ 0) G0 (x1 + 1) = G0 - (σ 0 74 - (x1 + 1)) := lst_in (by omega)
  refine lv_iload_n hex hbc dX0_bestNext_0 rfl (lv_at hl 1 rfl) ?_
  refine lv_iconst (v := iI 1) hex hbc dX0_bestNext_1 rfl ?_
  refine zt_iadd hex hbc dX0_bestNext_2 ?_
  refine lv_bipush (v := iI 33) hex hbc dX0_bestNext_3 (by decide) ?_
  refine zt_imul hex hbc dX0_bestNext_5 ?_
  refine lv_istore_n (lv' := [(3, .int (iI ((x1 + 1) * 33))), (0, .ref (a 8)), (1, .int (iI x1)), (2, .int (iI x2))]) hex hbc dX0_bestNext_6 rfl hl (by decide) rfl (fun ls hl => ?_)
  refine lv_iconst (v := iI (-1)) hex hbc dX0_bestNext_7 rfl ?_
  refine lv_istore (lv' := [(4, .int (iI (-1))), (3, .int (iI ((x1 + 1) * 33))), (0, .ref (a 8)), (1, .int (iI x1)), (2, .int (iI x2))]) hex hbc dX0_bestNext_8 hl (by decide) rfl (fun ls hl => ?_)
  refine lv_aload_n hex hbc dX0_bestNext_10 rfl (lv_at hl 2 rfl) ?_
  refine lv_iload_n hex hbc dX0_bestNext_11 rfl (lv_at hl 3 rfl) ?_
  refine lv_iconst (v := iI 1) hex hbc dX0_bestNext_12 rfl ?_
  refine zt_iadd hex hbc dX0_bestNext_13 ?_
  refine g_calli [.int (iI (x1 + 1))] ⟨hex, hbc, hml, hown, hts⟩ (mX0_lastStepOf l G cx a σ (x1 + 1) (by omega) hI) (cwV 1 hts gX0_bestNext_X0_lastStepOf rfl rfl rfl (by decide +kernel) ⟨Nat.le_of_ble_eq_true rfl, Nat.le_of_ble_eq_true rfl⟩) hK hP hD hS (fun _ h => h) 8 0 rfl rfl rfl rfl hl.1 (Nat.le_of_ble_eq_true rfl) dX0_bestNext_14 ⟨Nat.zero_le _, Nat.zero_le _⟩ (fun r_14 u_14 H locs hw_14 hP hD hS hz_14 hk_14 => ?_)
  obtain ⟨rfl, rfl⟩ := hw_14
  refine zt_nm (a := (lst_ (σ 0) (σ 21 1) (x1 + 1))) (b := (lst_ (σ 0) G0 (x1 + 1))) (by rw [hM2]) ?_
  refine lv_istore (lv' := [(5, .int (iI (lst_ (σ 0) G0 (x1 + 1)))), (4, .int (iI (-1))), (3, .int (iI ((x1 + 1) * 33))), (0, .ref (a 8)), (1, .int (iI x1)), (2, .int (iI x2))]) hex hbc dX0_bestNext_17 hl (by decide) rfl (fun ls hl => ?_)
  refine lv_iload_n hex hbc dX0_bestNext_19 rfl (lv_at hl 5 rfl) ?_
  refine lv_iconst (v := iI 1) hex hbc dX0_bestNext_20 rfl ?_
  refine zt_iadd hex hbc dX0_bestNext_21 ?_
  refine lv_aload_n hex hbc dX0_bestNext_22 rfl (lv_at hl 3 rfl) ?_
  refine lv_iload_n hex hbc dX0_bestNext_23 rfl (lv_at hl 4 rfl) ?_
  refine lv_iconst (v := iI 1) hex hbc dX0_bestNext_24 rfl ?_
  refine zt_iadd hex hbc dX0_bestNext_25 ?_
  refine g_calli [.int (iI (x1 + 1))] ⟨hex, hbc, hml, hown, hts⟩ (mX0_firstStepOf l G cx a σ (x1 + 1) (by omega) hI) (cwV 1 hts gX0_bestNext_X0_firstStepOf rfl rfl rfl (by decide +kernel) ⟨Nat.le_of_ble_eq_true rfl, Nat.le_of_ble_eq_true rfl⟩) hK hP hD hS (fun _ h => h) 8 0 rfl rfl rfl rfl hl.1 (Nat.le_of_ble_eq_true rfl) dX0_bestNext_26 ⟨Nat.zero_le _, Nat.zero_le _⟩ (fun r_26 u_26 H locs hw_26 hP hD hS hz_26 hk_26 => ?_)
  obtain ⟨rfl, rfl⟩ := hw_26
  refine zt_nm (a := (fst_ (σ 0) (σ 21 1) (x1 + 1))) (b := (fst_ (σ 0) G0 (x1 + 1))) (by rw [hM2]) ?_
  refine va_mmax hex hbc (hml.trans hl.1.symm) hown (hts _ (List.mem_of_getElem? (i := 1) rfl)) (hts _ (List.mem_of_getElem? (i := 2) rfl)) (hts _ (List.mem_of_getElem? (i := 3) rfl)) (hts _ (List.mem_of_getElem? (i := 4) rfl)) (Nat.le_of_ble_eq_true rfl) (Nat.le_of_ble_eq_true rfl) (Nat.zero_le _) (Nat.zero_le _) dX0_bestNext_29 ?_
  rw [iI_max (a := (x2 + 1)) (b := (fst_ (σ 0) G0 (x1 + 1))) (by omega)]
  refine lv_istore (lv' := [(6, .int (iI (max (x2 + 1) (fst_ (σ 0) G0 (x1 + 1))))), (5, .int (iI (lst_ (σ 0) G0 (x1 + 1)))), (4, .int (iI (-1))), (3, .int (iI ((x1 + 1) * 33))), (0, .ref (a 8)), (1, .int (iI x1)), (2, .int (iI x2))]) hex hbc dX0_bestNext_32 hl (by decide) rfl (fun ls hl => ?_)
  have loop_34 : ∀ (N : Nat) (i1 : Int) (b1 : Int), ((max (x2 + 1) (fst_ (σ 0) G0 (x1 + 1))) ≤ i1 ∧ i1 ≤ G0 + 1 ∧ i1 ≤ max (max (x2 + 1) (fst_ (σ 0) G0 (x1 + 1))) ((lst_ (σ 0) G0 (x1 + 1)) + 1) ∧ BN (fun j => σ 17 ((x1 + 1) * 33 + j)) (fun j => fits_ (σ 0) x1 (po T0 G0 j - po T0 G0 x2)) (max (x2 + 1) (fst_ (σ 0) G0 (x1 + 1))) (i1 - 1) b1) → (G0 + 1 - i1) < (N : Int) → ∀ (H : Heap) (locs : List Loc) (ls : Array Slot), va_P G vwCl (wx cx a σ) H → va_D (XA a) (wx cx a σ) → va_S (XA a) s.heap H locs → lv_has ls 9 [(6, .int (iI i1)), (4, .int (iI b1)), (5, .int (iI (lst_ (σ 0) G0 (x1 + 1)))), (3, .int (iI ((x1 + 1) * 33))), (0, .ref (a 8)), (1, .int (iI x1)), (2, .int (iI x2))] → W p l e (headSpec wsX0_bestNext ({ frames := 1, cells := 0, slots := 0, locals := 30 })).room s m ([.ref (a 8), .int (iI x1), .int (iI x2)] : List Value).toArray below meth c H locs 0 0 (MQ below (va_Qi (fun r u => σ = u ∧ ∃ b, iI b = r ∧ BN (fun j => σ 17 ((x1 + 1) * 33 + j)) (fun j => fits_ (σ 0) x1 (po T0 G0 j - po T0 G0 x2)) (max (x2 + 1) (fst_ (σ 0) G0 (x1 + 1))) (lst_ (σ 0) G0 (x1 + 1)) b) (gW G (tx cx) (XA a) (wx cx a)) (XA a)) ([.ref (a 8), .int (iI x1), .int (iI x2)] : List Value).toArray s 0 0 (XA a)) (F0 m 34 ls []) := by
    intro N
    induction N with
    | zero => intro i1 b1 hinv hlt; exfalso; have hz := hinv.2.1; have hz2 := hinv.1; omega
    | succ N ih_34 =>
      intro i1 b1 ⟨hi0, hi1, hi2, hbn⟩ hlt_34 H locs ls hP hD hS hl
      have hrn := BN_rng hbn
      refine lv_iload hex hbc dX0_bestNext_34 (lv_at hl 0 rfl) ?_
      refine lv_iload hex hbc dX0_bestNext_36 (lv_at hl 2 rfl) ?_
      refine zt_icmp_gt (a := i1) (b := (lst_ (σ 0) G0 (x1 + 1))) (tgt := 144) hex hbc (by omega) dX0_bestNext_38 (by decide) (fun c38 => ?_) (fun c38 => ?_)
      · skip
        refine lv_iload hex hbc dX0_bestNext_144 (lv_at hl 1 rfl) ?_
        exact g_iret hex hbc hrt hlocks hK hP hD hS ⟨rfl, b1, rfl, BN_exit hbn c38 hi2⟩ dX0_bestNext_146
      · skip
        have hpi := po_in (T := T0) (G := G0) (i := i1) (by omega) hTG.2.1.1 (by omega)
        have hSi := hSr i1 hi0 c38
        refine lv_aload_n hex hbc dX0_bestNext_41 rfl (lv_at hl 4 rfl) ?_
        refine va_get (v := .ref (a 9)) hex hbc hts hin0 hown hK hP 8 rfl rfl 3 (by decide) (hts _ (List.mem_of_getElem? (i := 5) rfl)) (fun _ h => h) rfl dX0_bestNext_42 ?_
        refine lv_iload hex hbc dX0_bestNext_45 (lv_at hl 0 rfl) ?_
        refine g_iald (f := (σ 14)) (v := (σ 14 i1)) (i := i1) hex hbc hK hP 9 0 rfl rfl (by decide) (by omega) rfl dX0_bestNext_47 ?_
        refine zt_nm (a := (σ 14 i1)) (b := (po T0 G0 i1)) (hM3 i1 (by omega) (by omega)) ?_
        refine lv_aload_n hex hbc dX0_bestNext_48 rfl (lv_at hl 4 rfl) ?_
        refine va_get (v := .ref (a 9)) hex hbc hts hin0 hown hK hP 8 rfl rfl 3 (by decide) (hts _ (List.mem_of_getElem? (i := 5) rfl)) (fun _ h => h) rfl dX0_bestNext_49 ?_
        refine lv_iload_n hex hbc dX0_bestNext_52 rfl (lv_at hl 6 rfl) ?_
        refine g_iald (f := (σ 14)) (v := (σ 14 x2)) (i := x2) hex hbc hK hP 9 0 rfl rfl (by decide) (by omega) rfl dX0_bestNext_53 ?_
        refine zt_nm (a := (σ 14 x2)) (b := (po T0 G0 x2)) (hM3 x2 (by omega) (by omega)) ?_
        refine zt_isub hex hbc dX0_bestNext_54 ?_
        refine lv_istore (lv' := [(7, .int (iI ((po T0 G0 i1) - (po T0 G0 x2)))), (6, .int (iI i1)), (4, .int (iI b1)), (5, .int (iI (lst_ (σ 0) G0 (x1 + 1)))), (3, .int (iI ((x1 + 1) * 33))), (0, .ref (a 8)), (1, .int (iI x1)), (2, .int (iI x2))]) hex hbc dX0_bestNext_55 hl (by decide) rfl (fun ls hl => ?_)
        refine lv_iload hex hbc dX0_bestNext_57 (lv_at hl 0 rfl) ?_
        refine lv_aload_n hex hbc dX0_bestNext_59 rfl (lv_at hl 5 rfl) ?_
        refine va_get (v := .ref (a 11)) hex hbc hts hin0 hown hK hP 8 rfl rfl 5 (by decide) (hts _ (List.mem_of_getElem? (i := 6) rfl)) (fun _ h => h) rfl dX0_bestNext_60 ?_
        refine lv_iload_n hex hbc dX0_bestNext_63 rfl (lv_at hl 6 rfl) ?_
        refine g_iald (f := (σ 16)) (v := (σ 16 x1)) (i := x1) hex hbc hK hP 11 0 rfl rfl (by decide) (by omega) rfl dX0_bestNext_64 ?_
        refine zt_nm (a := (σ 16 x1)) (b := (ln (σ 0) x1 * σ 0 5 / 100)) (hM5 x1 h1.1 h1.2) ?_
        refine zt_icmp_le (a := ((po T0 G0 i1) - (po T0 G0 x2))) (b := (ln (σ 0) x1 * σ 0 5 / 100)) (tgt := 71) hex hbc (by omega) dX0_bestNext_65 (by decide) (fun c65 => ?_) (fun c65 => ?_)
        · skip
          refine lv_iload hex hbc dX0_bestNext_71 (lv_at hl 0 rfl) ?_
          refine lv_aload_n hex hbc dX0_bestNext_73 rfl (lv_at hl 5 rfl) ?_
          refine va_get (v := .ref (a 10)) hex hbc hts hin0 hown hK hP 8 rfl rfl 4 (by decide) (hts _ (List.mem_of_getElem? (i := 7) rfl)) (fun _ h => h) rfl dX0_bestNext_74 ?_
          refine lv_iload_n hex hbc dX0_bestNext_77 rfl (lv_at hl 6 rfl) ?_
          refine g_iald (f := (σ 15)) (v := (σ 15 x1)) (i := x1) hex hbc hK hP 10 0 rfl rfl (by decide) (by omega) rfl dX0_bestNext_78 ?_
          refine zt_nm (a := (σ 15 x1)) (b := (ln (σ 0) x1 * σ 0 4 / 100)) (hM4 x1 h1.1 h1.2) ?_
          refine zt_icmp_lt (a := ((po T0 G0 i1) - (po T0 G0 x2))) (b := (ln (σ 0) x1 * σ 0 4 / 100)) (tgt := 99) hex hbc (by omega) dX0_bestNext_79 (by decide) (fun c79 => ?_) (fun c79 => ?_)
          · skip
            refine lv_iconst (v := iI 0) hex hbc dX0_bestNext_99 rfl ?_
            refine lv_istore (lv' := [(8, .int (iI 0)), (7, .int (iI ((po T0 G0 i1) - (po T0 G0 x2)))), (6, .int (iI i1)), (4, .int (iI b1)), (5, .int (iI (lst_ (σ 0) G0 (x1 + 1)))), (3, .int (iI ((x1 + 1) * 33))), (0, .ref (a 8)), (1, .int (iI x1)), (2, .int (iI x2))]) hex hbc dX0_bestNext_100 hl (by decide) rfl (fun ls hl => ?_)
            refine lv_iload hex hbc dX0_bestNext_102 (lv_at hl 0 rfl) ?_
            refine zt_if_eq (a := 0) (tgt := 138) hex hbc (by decide) dX0_bestNext_104 (by decide) (fun _ => ?_) (fun h => absurd h (by decide))
            refine lv_iinc (v := iI (i1 + 1)) (lv' := [(6, .int (iI (i1 + 1))), (8, .int (iI 0)), (7, .int (iI ((po T0 G0 i1) - (po T0 G0 x2)))), (4, .int (iI b1)), (5, .int (iI (lst_ (σ 0) G0 (x1 + 1)))), (3, .int (iI ((x1 + 1) * 33))), (0, .ref (a 8)), (1, .int (iI x1)), (2, .int (iI x2))]) hex hbc dX0_bestNext_138 hl (k := 2) rfl (iI_add _ _) (by decide) rfl (fun ls hl => ?_)
            refine lv_goto (tgt := 34) hex hbc dX0_bestNext_141 (by decide) ?_
            exact ih_34 (i1 + 1) b1 ⟨by omega, by omega, by omega, by first | exact BN_skip hbn (fun hF => absurd hF (by unfold fits_; omega)) | exact BN_skip hbn (fun _ => c92) | exact BN_take hbn hi0 (by show fits_ _ _ _; unfold fits_; omega) c92 (Or.inl c110) (by omega) | exact BN_take hbn hi0 (by show fits_ _ _ _; unfold fits_; omega) c92 (Or.inr c131) (by omega) | exact BN_keep hbn c110 c131⟩ (by omega) _ _ _ hP hD hS (lv_sub hl [0, 3, 4, 5, 6, 7, 8] rfl)
          · skip
            refine lv_aload_n hex hbc dX0_bestNext_82 rfl (lv_at hl 5 rfl) ?_
            refine va_get (v := .ref (a 12)) hex hbc hts hin0 hown hK hP 8 rfl rfl 6 (by decide) (hts _ (List.mem_of_getElem? (i := 8) rfl)) (fun _ h => h) rfl dX0_bestNext_83 ?_
            refine lv_iload_n hex hbc dX0_bestNext_86 rfl (lv_at hl 4 rfl) ?_
            refine lv_iload hex hbc dX0_bestNext_87 (lv_at hl 1 rfl) ?_
            refine zt_iadd hex hbc dX0_bestNext_89 ?_
            refine g_iald (f := (σ 17)) (v := (σ 17 (((x1 + 1) * 33) + i1))) (i := (((x1 + 1) * 33) + i1)) hex hbc hK hP 12 0 rfl rfl (by decide) (by omega) rfl dX0_bestNext_90 ?_
            refine lv_iconst (v := iI (-1)) hex hbc dX0_bestNext_91 rfl ?_
            refine zt_icmp_eq (a := (σ 17 (((x1 + 1) * 33) + i1))) (b := (-1)) (tgt := 99) hex hbc (by omega) dX0_bestNext_92 (by decide) (fun c92 => ?_) (fun c92 => ?_)
            · skip
              refine lv_iconst (v := iI 0) hex hbc dX0_bestNext_99 rfl ?_
              refine lv_istore (lv' := [(8, .int (iI 0)), (7, .int (iI ((po T0 G0 i1) - (po T0 G0 x2)))), (6, .int (iI i1)), (4, .int (iI b1)), (5, .int (iI (lst_ (σ 0) G0 (x1 + 1)))), (3, .int (iI ((x1 + 1) * 33))), (0, .ref (a 8)), (1, .int (iI x1)), (2, .int (iI x2))]) hex hbc dX0_bestNext_100 hl (by decide) rfl (fun ls hl => ?_)
              refine lv_iload hex hbc dX0_bestNext_102 (lv_at hl 0 rfl) ?_
              refine zt_if_eq (a := 0) (tgt := 138) hex hbc (by decide) dX0_bestNext_104 (by decide) (fun _ => ?_) (fun h => absurd h (by decide))
              refine lv_iinc (v := iI (i1 + 1)) (lv' := [(6, .int (iI (i1 + 1))), (8, .int (iI 0)), (7, .int (iI ((po T0 G0 i1) - (po T0 G0 x2)))), (4, .int (iI b1)), (5, .int (iI (lst_ (σ 0) G0 (x1 + 1)))), (3, .int (iI ((x1 + 1) * 33))), (0, .ref (a 8)), (1, .int (iI x1)), (2, .int (iI x2))]) hex hbc dX0_bestNext_138 hl (k := 2) rfl (iI_add _ _) (by decide) rfl (fun ls hl => ?_)
              refine lv_goto (tgt := 34) hex hbc dX0_bestNext_141 (by decide) ?_
              exact ih_34 (i1 + 1) b1 ⟨by omega, by omega, by omega, by first | exact BN_skip hbn (fun hF => absurd hF (by unfold fits_; omega)) | exact BN_skip hbn (fun _ => c92) | exact BN_take hbn hi0 (by show fits_ _ _ _; unfold fits_; omega) c92 (Or.inl c110) (by omega) | exact BN_take hbn hi0 (by show fits_ _ _ _; unfold fits_; omega) c92 (Or.inr c131) (by omega) | exact BN_keep hbn c110 c131⟩ (by omega) _ _ _ hP hD hS (lv_sub hl [0, 3, 4, 5, 6, 7, 8] rfl)
            · skip
              refine lv_iconst (v := iI 1) hex hbc dX0_bestNext_95 rfl ?_
              refine lv_goto (tgt := 100) hex hbc dX0_bestNext_96 (by decide) ?_
              refine lv_istore (lv' := [(8, .int (iI 1)), (7, .int (iI ((po T0 G0 i1) - (po T0 G0 x2)))), (6, .int (iI i1)), (4, .int (iI b1)), (5, .int (iI (lst_ (σ 0) G0 (x1 + 1)))), (3, .int (iI ((x1 + 1) * 33))), (0, .ref (a 8)), (1, .int (iI x1)), (2, .int (iI x2))]) hex hbc dX0_bestNext_100 hl (by decide) rfl (fun ls hl => ?_)
              refine lv_iload hex hbc dX0_bestNext_102 (lv_at hl 0 rfl) ?_
              refine zt_if_eq (a := 1) (tgt := 138) hex hbc (by decide) dX0_bestNext_104 (by decide) (fun h => absurd h (by decide)) (fun _ => ?_)
              refine lv_iload hex hbc dX0_bestNext_107 (lv_at hl 3 rfl) ?_
              refine lv_iconst (v := iI (-1)) hex hbc dX0_bestNext_109 rfl ?_
              refine zt_icmp_eq (a := b1) (b := (-1)) (tgt := 134) hex hbc (by omega) dX0_bestNext_110 (by decide) (fun c110 => ?_) (fun c110 => ?_)
              · skip
                refine lv_iload hex hbc dX0_bestNext_134 (lv_at hl 2 rfl) ?_
                refine lv_istore (lv' := [(4, .int (iI i1)), (8, .int (iI 1)), (7, .int (iI ((po T0 G0 i1) - (po T0 G0 x2)))), (6, .int (iI i1)), (5, .int (iI (lst_ (σ 0) G0 (x1 + 1)))), (3, .int (iI ((x1 + 1) * 33))), (0, .ref (a 8)), (1, .int (iI x1)), (2, .int (iI x2))]) hex hbc dX0_bestNext_136 hl (by decide) rfl (fun ls hl => ?_)
                refine lv_iinc (v := iI (i1 + 1)) (lv' := [(6, .int (iI (i1 + 1))), (4, .int (iI i1)), (8, .int (iI 1)), (7, .int (iI ((po T0 G0 i1) - (po T0 G0 x2)))), (5, .int (iI (lst_ (σ 0) G0 (x1 + 1)))), (3, .int (iI ((x1 + 1) * 33))), (0, .ref (a 8)), (1, .int (iI x1)), (2, .int (iI x2))]) hex hbc dX0_bestNext_138 hl (k := 3) rfl (iI_add _ _) (by decide) rfl (fun ls hl => ?_)
                refine lv_goto (tgt := 34) hex hbc dX0_bestNext_141 (by decide) ?_
                exact ih_34 (i1 + 1) i1 ⟨by omega, by omega, by omega, by first | exact BN_skip hbn (fun hF => absurd hF (by unfold fits_; omega)) | exact BN_skip hbn (fun _ => c92) | exact BN_take hbn hi0 (by show fits_ _ _ _; unfold fits_; omega) c92 (Or.inl c110) (by omega) | exact BN_take hbn hi0 (by show fits_ _ _ _; unfold fits_; omega) c92 (Or.inr c131) (by omega) | exact BN_keep hbn c110 c131⟩ (by omega) _ _ _ hP hD hS (lv_sub hl [0, 1, 4, 5, 6, 7, 8] rfl)
              · skip
                have hSb := hSr b1 (by omega) (by omega)
                refine lv_aload_n hex hbc dX0_bestNext_113 rfl (lv_at hl 6 rfl) ?_
                refine va_get (v := .ref (a 12)) hex hbc hts hin0 hown hK hP 8 rfl rfl 6 (by decide) (hts _ (List.mem_of_getElem? (i := 8) rfl)) (fun _ h => h) rfl dX0_bestNext_114 ?_
                refine lv_iload_n hex hbc dX0_bestNext_117 rfl (lv_at hl 5 rfl) ?_
                refine lv_iload hex hbc dX0_bestNext_118 (lv_at hl 2 rfl) ?_
                refine zt_iadd hex hbc dX0_bestNext_120 ?_
                refine g_iald (f := (σ 17)) (v := (σ 17 (((x1 + 1) * 33) + i1))) (i := (((x1 + 1) * 33) + i1)) hex hbc hK hP 12 0 rfl rfl (by decide) (by omega) rfl dX0_bestNext_121 ?_
                refine lv_aload_n hex hbc dX0_bestNext_122 rfl (lv_at hl 6 rfl) ?_
                refine va_get (v := .ref (a 12)) hex hbc hts hin0 hown hK hP 8 rfl rfl 6 (by decide) (hts _ (List.mem_of_getElem? (i := 8) rfl)) (fun _ h => h) rfl dX0_bestNext_123 ?_
                refine lv_iload_n hex hbc dX0_bestNext_126 rfl (lv_at hl 5 rfl) ?_
                refine lv_iload hex hbc dX0_bestNext_127 (lv_at hl 3 rfl) ?_
                refine zt_iadd hex hbc dX0_bestNext_129 ?_
                refine g_iald (f := (σ 17)) (v := (σ 17 (((x1 + 1) * 33) + b1))) (i := (((x1 + 1) * 33) + b1)) hex hbc hK hP 12 0 rfl rfl (by decide) (by omega) rfl dX0_bestNext_130 ?_
                refine zt_icmp_ge (a := (σ 17 (((x1 + 1) * 33) + i1))) (b := (σ 17 (((x1 + 1) * 33) + b1))) (tgt := 138) hex hbc (by omega) dX0_bestNext_131 (by decide) (fun c131 => ?_) (fun c131 => ?_)
                · skip
                  refine lv_iinc (v := iI (i1 + 1)) (lv' := [(6, .int (iI (i1 + 1))), (8, .int (iI 1)), (7, .int (iI ((po T0 G0 i1) - (po T0 G0 x2)))), (4, .int (iI b1)), (5, .int (iI (lst_ (σ 0) G0 (x1 + 1)))), (3, .int (iI ((x1 + 1) * 33))), (0, .ref (a 8)), (1, .int (iI x1)), (2, .int (iI x2))]) hex hbc dX0_bestNext_138 hl (k := 2) rfl (iI_add _ _) (by decide) rfl (fun ls hl => ?_)
                  refine lv_goto (tgt := 34) hex hbc dX0_bestNext_141 (by decide) ?_
                  exact ih_34 (i1 + 1) b1 ⟨by omega, by omega, by omega, by first | exact BN_skip hbn (fun hF => absurd hF (by unfold fits_; omega)) | exact BN_skip hbn (fun _ => c92) | exact BN_take hbn hi0 (by show fits_ _ _ _; unfold fits_; omega) c92 (Or.inl c110) (by omega) | exact BN_take hbn hi0 (by show fits_ _ _ _; unfold fits_; omega) c92 (Or.inr c131) (by omega) | exact BN_keep hbn c110 c131⟩ (by omega) _ _ _ hP hD hS (lv_sub hl [0, 3, 4, 5, 6, 7, 8] rfl)
                · skip
                  refine lv_iload hex hbc dX0_bestNext_134 (lv_at hl 2 rfl) ?_
                  refine lv_istore (lv' := [(4, .int (iI i1)), (8, .int (iI 1)), (7, .int (iI ((po T0 G0 i1) - (po T0 G0 x2)))), (6, .int (iI i1)), (5, .int (iI (lst_ (σ 0) G0 (x1 + 1)))), (3, .int (iI ((x1 + 1) * 33))), (0, .ref (a 8)), (1, .int (iI x1)), (2, .int (iI x2))]) hex hbc dX0_bestNext_136 hl (by decide) rfl (fun ls hl => ?_)
                  refine lv_iinc (v := iI (i1 + 1)) (lv' := [(6, .int (iI (i1 + 1))), (4, .int (iI i1)), (8, .int (iI 1)), (7, .int (iI ((po T0 G0 i1) - (po T0 G0 x2)))), (5, .int (iI (lst_ (σ 0) G0 (x1 + 1)))), (3, .int (iI ((x1 + 1) * 33))), (0, .ref (a 8)), (1, .int (iI x1)), (2, .int (iI x2))]) hex hbc dX0_bestNext_138 hl (k := 3) rfl (iI_add _ _) (by decide) rfl (fun ls hl => ?_)
                  refine lv_goto (tgt := 34) hex hbc dX0_bestNext_141 (by decide) ?_
                  exact ih_34 (i1 + 1) i1 ⟨by omega, by omega, by omega, by first | exact BN_skip hbn (fun hF => absurd hF (by unfold fits_; omega)) | exact BN_skip hbn (fun _ => c92) | exact BN_take hbn hi0 (by show fits_ _ _ _; unfold fits_; omega) c92 (Or.inl c110) (by omega) | exact BN_take hbn hi0 (by show fits_ _ _ _; unfold fits_; omega) c92 (Or.inr c131) (by omega) | exact BN_keep hbn c110 c131⟩ (by omega) _ _ _ hP hD hS (lv_sub hl [0, 1, 4, 5, 6, 7, 8] rfl)
        · skip
          have hcut : ∀ j, i1 ≤ j → ¬ fits_ (σ 0) x1 (po T0 G0 j - po T0 G0 x2) := fun j j0 hF => by have hpm := po_mono (T := T0) (G := G0) (i := i1) (j := j) (by omega) hTG.2.1.1 j0; unfold fits_ at hF; omega
          refine lv_iload hex hbc dX0_bestNext_68 (lv_at hl 2 rfl) ?_
          exact g_iret hex hbc hrt hlocks hK hP hD hS ⟨rfl, b1, rfl, BN_cut hbn c38 hcut⟩ dX0_bestNext_70
  exact loop_34 _ (max (x2 + 1) (fst_ (σ 0) G0 (x1 + 1))) (-1) ⟨Int.le_refl _, by omega, by omega, Or.inl ⟨rfl, fun j j0 j1 => by omega⟩⟩ (mz_lt _) _ _ _ hP hD hS (lv_sub hl [0, 2, 1, 3, 4, 5, 6] rfl)
