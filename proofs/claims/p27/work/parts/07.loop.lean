/-! the program: small questions to a loop (rows laid by wip/gen) -/
theorem iX2_isFrame_X2 : ∀ w ∈ wsX20, w ∈ wsX2_isFrame := fun _ h => List.mem_cons_of_mem _ (List.mem_append_right _ h)
set_option maxHeartbeats 4000000 in
set_option maxRecDepth 100000 in
theorem mX2_isFrame (l : Launch) (G : va_G) (cx a : Nat → Nat) (σ : Nat → Int → Int)  (x : Int) (hx : -2147483648 ≤ x ∧ x < 2147483648) (hI : Inv (σ 0)) : Met l yX2_isFrame wsX2_isFrame ({ frames := 0, cells := 0, slots := 0, locals := 0 }) (va_Pc [.ref (a 3), .int (iI x)] (gW G (tx cx) (XA a) (wx cx a) σ)) (va_Qi (fun r u => σ = u ∧ ∃ v, iI v = r ∧ (((0 ≤ x ∧ x < σ 0 0) ∧ v = 1) ∨ (¬ (0 ≤ x ∧ x < σ 0 0) ∧ v = 0))) (gW G (tx cx) (XA a) (wx cx a)) (XA a)) 0 0 (XA a) := by
  refine Met.ofW (cc := cX2_isFrame) (maxL := 2) (ret := some .boolean) (by decide) rfl ?_
  intro p e s m args below meth c s₁ B hml hv
  obtain ⟨rfl, hP, hK, hD⟩ := hv
  have hex := B.exec
  have hbc := B.bytes
  have hrt := B.returns
  have hts := atoms_spec (ws := wsX2_isFrame) B.pre
  have hown : s.vm.findClass RX2 = some m.cls := findClass_of_methodNamed B.named
  have hlocks := B.notSynchronized
  have hS : va_S (XA a) s.heap s.heap [] := va_S.rf
  have hin2 := iX2_isFrame_X2
  have hl := lv_entry ([.ref (a 3), .int (iI x)]) (n := 2) (Nat.le_of_ble_eq_true rfl)
  rw [lg_entry_eq]
  generalize (lg_sl ([.ref (a 3), .int (iI x)]) ++ List.replicate (2 - (lg_sl ([.ref (a 3), .int (iI x)])).length) Slot.unset).toArray = ls at hl ⊢
  have hl : lv_has ls 2 [(0, .ref (a 3)), (1, .int (iI x))] := hl
  obtain ⟨hB, hEn, hMk, hAs, hPm⟩ := id hI
  refine lv_iload_n hex hbc dX2_isFrame_0 rfl (lv_at hl 1 rfl) ?_
  refine zt_if_lt (a := x) (tgt := 16) hex hbc (by omega) dX2_isFrame_1 (by decide) (fun c1 => ?_) (fun c1 => ?_)
  · skip
    refine lv_iconst (v := iI 0) hex hbc dX2_isFrame_16 rfl ?_
    exact g_zret hex hbc hrt hlocks rfl hK hP hD hS ⟨rfl, _, rfl, by omega⟩ dX2_isFrame_17
  · skip
    refine lv_iload_n hex hbc dX2_isFrame_4 rfl (lv_at hl 1 rfl) ?_
    refine lv_aload_n hex hbc dX2_isFrame_5 rfl (lv_at hl 0 rfl) ?_
    refine va_get (v := .int (iI (σ 0 0))) hex hbc hts hin2 hown hK hP 3 rfl rfl 0 (by decide) (hts _ (List.mem_of_getElem? (i := 1) rfl)) (fun _ h => h) rfl dX2_isFrame_6 ?_
    refine zt_icmp_ge (a := x) (b := (σ 0 0)) (tgt := 16) hex hbc (by omega) dX2_isFrame_9 (by decide) (fun c9 => ?_) (fun c9 => ?_)
    · skip
      refine lv_iconst (v := iI 0) hex hbc dX2_isFrame_16 rfl ?_
      exact g_zret hex hbc hrt hlocks rfl hK hP hD hS ⟨rfl, _, rfl, by omega⟩ dX2_isFrame_17
    · skip
      refine lv_iconst (v := iI 1) hex hbc dX2_isFrame_12 rfl ?_
      refine lv_goto (tgt := 17) hex hbc dX2_isFrame_13 (by decide) ?_
      exact g_zret hex hbc hrt hlocks rfl hK hP hD hS ⟨rfl, _, rfl, by omega⟩ dX2_isFrame_17
theorem iX2_isSlice_X2 : ∀ w ∈ wsX20, w ∈ wsX2_isSlice := fun _ h => List.mem_cons_of_mem _ (List.mem_append_right _ h)
set_option maxHeartbeats 4000000 in
set_option maxRecDepth 100000 in
theorem mX2_isSlice (l : Launch) (G : va_G) (cx a : Nat → Nat) (σ : Nat → Int → Int)  (x : Int) (hx : -2147483648 ≤ x ∧ x < 2147483648) (hI : Inv (σ 0)) : Met l yX2_isSlice wsX2_isSlice ({ frames := 0, cells := 0, slots := 0, locals := 0 }) (va_Pc [.ref (a 3), .int (iI x)] (gW G (tx cx) (XA a) (wx cx a) σ)) (va_Qi (fun r u => σ = u ∧ ∃ v, iI v = r ∧ (((0 ≤ x ∧ x < σ 0 74) ∧ v = 1) ∨ (¬ (0 ≤ x ∧ x < σ 0 74) ∧ v = 0))) (gW G (tx cx) (XA a) (wx cx a)) (XA a)) 0 0 (XA a) := by
  refine Met.ofW (cc := cX2_isSlice) (maxL := 2) (ret := some .boolean) (by decide) rfl ?_
  intro p e s m args below meth c s₁ B hml hv
  obtain ⟨rfl, hP, hK, hD⟩ := hv
  have hex := B.exec
  have hbc := B.bytes
  have hrt := B.returns
  have hts := atoms_spec (ws := wsX2_isSlice) B.pre
  have hown : s.vm.findClass RX2 = some m.cls := findClass_of_methodNamed B.named
  have hlocks := B.notSynchronized
  have hS : va_S (XA a) s.heap s.heap [] := va_S.rf
  have hin2 := iX2_isSlice_X2
  have hl := lv_entry ([.ref (a 3), .int (iI x)]) (n := 2) (Nat.le_of_ble_eq_true rfl)
  rw [lg_entry_eq]
  generalize (lg_sl ([.ref (a 3), .int (iI x)]) ++ List.replicate (2 - (lg_sl ([.ref (a 3), .int (iI x)])).length) Slot.unset).toArray = ls at hl ⊢
  have hl : lv_has ls 2 [(0, .ref (a 3)), (1, .int (iI x))] := hl
  obtain ⟨hB, hEn, hMk, hAs, hPm⟩ := id hI
  refine lv_iload_n hex hbc dX2_isSlice_0 rfl (lv_at hl 1 rfl) ?_
  refine zt_if_lt (a := x) (tgt := 16) hex hbc (by omega) dX2_isSlice_1 (by decide) (fun c1 => ?_) (fun c1 => ?_)
  · skip
    refine lv_iconst (v := iI 0) hex hbc dX2_isSlice_16 rfl ?_
    exact g_zret hex hbc hrt hlocks rfl hK hP hD hS ⟨rfl, _, rfl, by omega⟩ dX2_isSlice_17
  · skip
    refine lv_iload_n hex hbc dX2_isSlice_4 rfl (lv_at hl 1 rfl) ?_
    refine lv_aload_n hex hbc dX2_isSlice_5 rfl (lv_at hl 0 rfl) ?_
    refine va_get (v := .int (iI (σ 0 74))) hex hbc hts hin2 hown hK hP 3 rfl rfl 1 (by decide) (hts _ (List.mem_of_getElem? (i := 1) rfl)) (fun _ h => h) rfl dX2_isSlice_6 ?_
    refine zt_icmp_ge (a := x) (b := (σ 0 74)) (tgt := 16) hex hbc (by omega) dX2_isSlice_9 (by decide) (fun c9 => ?_) (fun c9 => ?_)
    · skip
      refine lv_iconst (v := iI 0) hex hbc dX2_isSlice_16 rfl ?_
      exact g_zret hex hbc hrt hlocks rfl hK hP hD hS ⟨rfl, _, rfl, by omega⟩ dX2_isSlice_17
    · skip
      refine lv_iconst (v := iI 1) hex hbc dX2_isSlice_12 rfl ?_
      refine lv_goto (tgt := 17) hex hbc dX2_isSlice_13 (by decide) ?_
      exact g_zret hex hbc hrt hlocks rfl hK hP hD hS ⟨rfl, _, rfl, by omega⟩ dX2_isSlice_17
theorem iX2_isFree_X2 : ∀ w ∈ wsX20, w ∈ wsX2_isFree := fun _ h => List.mem_cons_of_mem _ (List.mem_append_right _ h)
set_option maxHeartbeats 4000000 in
set_option maxRecDepth 100000 in
theorem mX2_isFree (l : Launch) (G : va_G) (cx a : Nat → Nat) (σ : Nat → Int → Int)   (hI : Inv (σ 0)) : Met l yX2_isFree wsX2_isFree ({ frames := 0, cells := 0, slots := 0, locals := 0 }) (va_Pc [.ref (a 3)] (gW G (tx cx) (XA a) (wx cx a) σ)) (va_Qi (fun r u => σ = u ∧ ∃ v, iI v = r ∧ (((σ 0 8 = 0) ∧ v = 1) ∨ (¬ (σ 0 8 = 0) ∧ v = 0))) (gW G (tx cx) (XA a) (wx cx a)) (XA a)) 0 0 (XA a) := by
  refine Met.ofW (cc := cX2_isFree) (maxL := 1) (ret := some .boolean) (by decide) rfl ?_
  intro p e s m args below meth c s₁ B hml hv
  obtain ⟨rfl, hP, hK, hD⟩ := hv
  have hex := B.exec
  have hbc := B.bytes
  have hrt := B.returns
  have hts := atoms_spec (ws := wsX2_isFree) B.pre
  have hown : s.vm.findClass RX2 = some m.cls := findClass_of_methodNamed B.named
  have hlocks := B.notSynchronized
  have hS : va_S (XA a) s.heap s.heap [] := va_S.rf
  have hin2 := iX2_isFree_X2
  have hl := lv_entry ([.ref (a 3)]) (n := 1) (Nat.le_of_ble_eq_true rfl)
  rw [lg_entry_eq]
  generalize (lg_sl ([.ref (a 3)]) ++ List.replicate (1 - (lg_sl ([.ref (a 3)])).length) Slot.unset).toArray = ls at hl ⊢
  have hl : lv_has ls 1 [(0, .ref (a 3))] := hl
  obtain ⟨hB, hEn, hMk, hAs, hPm⟩ := id hI
  refine lv_aload_n hex hbc dX2_isFree_0 rfl (lv_at hl 0 rfl) ?_
  refine va_get (v := .ref (a 5)) hex hbc hts hin2 hown hK hP 3 rfl rfl 3 (by decide) (hts _ (List.mem_of_getElem? (i := 1) rfl)) (fun _ h => h) rfl dX2_isFree_1 ?_
  refine lv_bipush (v := iI 7) hex hbc dX2_isFree_4 (by decide) ?_
  refine g_iald (f := (fun k => (σ 0 (1 + k)))) (v := (σ 0 8)) (i := 7) hex hbc hK hP 5 0 rfl rfl (by decide) (by omega) rfl dX2_isFree_6 ?_
  refine zt_if_ne (a := (σ 0 8)) (tgt := 14) hex hbc (by omega) dX2_isFree_7 (by decide) (fun c7 => ?_) (fun c7 => ?_)
  · skip
    refine lv_iconst (v := iI 0) hex hbc dX2_isFree_14 rfl ?_
    exact g_zret hex hbc hrt hlocks rfl hK hP hD hS ⟨rfl, _, rfl, by omega⟩ dX2_isFree_15
  · skip
    refine lv_iconst (v := iI 1) hex hbc dX2_isFree_10 rfl ?_
    refine lv_goto (tgt := 15) hex hbc dX2_isFree_11 (by decide) ?_
    exact g_zret hex hbc hrt hlocks rfl hK hP hD hS ⟨rfl, _, rfl, by omega⟩ dX2_isFree_15
theorem iX2_endFrame_X2 : ∀ w ∈ wsX20, w ∈ wsX2_endFrame := fun _ h => List.mem_cons_of_mem _ (List.mem_append_right _ h)
set_option maxHeartbeats 4000000 in
set_option maxRecDepth 100000 in
theorem mX2_endFrame (l : Launch) (G : va_G) (cx a : Nat → Nat) (σ : Nat → Int → Int)  (k : Int) (hk : 0 ≤ k ∧ k < σ 0 74) (hI : Inv (σ 0)) : Met l yX2_endFrame wsX2_endFrame ({ frames := 0, cells := 0, slots := 0, locals := 0 }) (va_Pc [.ref (a 3), .int (iI k)] (gW G (tx cx) (XA a) (wx cx a) σ)) (va_Qi (fun r u => σ = u ∧ iI (fr (σ 0) (k + 1)) = r) (gW G (tx cx) (XA a) (wx cx a)) (XA a)) 0 0 (XA a) := by
  refine Met.ofW (cc := cX2_endFrame) (maxL := 2) (ret := some .int) (by decide) rfl ?_
  intro p e s m args below meth c s₁ B hml hv
  obtain ⟨rfl, hP, hK, hD⟩ := hv
  have hex := B.exec
  have hbc := B.bytes
  have hrt := B.returns
  have hts := atoms_spec (ws := wsX2_endFrame) B.pre
  have hown : s.vm.findClass RX2 = some m.cls := findClass_of_methodNamed B.named
  have hlocks := B.notSynchronized
  have hS : va_S (XA a) s.heap s.heap [] := va_S.rf
  have hin2 := iX2_endFrame_X2
  have hl := lv_entry ([.ref (a 3), .int (iI k)]) (n := 2) (Nat.le_of_ble_eq_true rfl)
  rw [lg_entry_eq]
  generalize (lg_sl ([.ref (a 3), .int (iI k)]) ++ List.replicate (2 - (lg_sl ([.ref (a 3), .int (iI k)])).length) Slot.unset).toArray = ls at hl ⊢
  have hl : lv_has ls 2 [(0, .ref (a 3)), (1, .int (iI k))] := hl
  obtain ⟨hB, hEn, hMk, hAs, hPm⟩ := id hI
  refine lv_iload_n hex hbc dX2_endFrame_0 rfl (lv_at hl 1 rfl) ?_
  refine lv_iconst (v := iI 1) hex hbc dX2_endFrame_1 rfl ?_
  refine zt_iadd hex hbc dX2_endFrame_2 ?_
  refine lv_aload_n hex hbc dX2_endFrame_3 rfl (lv_at hl 0 rfl) ?_
  refine va_get (v := .int (iI (σ 0 74))) hex hbc hts hin2 hown hK hP 3 rfl rfl 1 (by decide) (hts _ (List.mem_of_getElem? (i := 1) rfl)) (fun _ h => h) rfl dX2_endFrame_4 ?_
  refine zt_icmp_ge (a := (k + 1)) (b := (σ 0 74)) (tgt := 21) hex hbc (by omega) dX2_endFrame_7 (by decide) (fun c7 => ?_) (fun c7 => ?_)
  · skip
    refine lv_aload_n hex hbc dX2_endFrame_21 rfl (lv_at hl 0 rfl) ?_
    refine va_get (v := .int (iI (σ 0 0))) hex hbc hts hin2 hown hK hP 3 rfl rfl 0 (by decide) (hts _ (List.mem_of_getElem? (i := 3) rfl)) (fun _ h => h) rfl dX2_endFrame_22 ?_
    exact g_iret hex hbc hrt hlocks hK hP hD hS ⟨rfl, congrArg iI (by first | exact fr_lt (by omega) | exact fr_ge (by omega) | exact (fr_lt (by omega)).trans (congrArg _ (by omega)))⟩ dX2_endFrame_25
  · skip
    refine lv_aload_n hex hbc dX2_endFrame_10 rfl (lv_at hl 0 rfl) ?_
    refine va_get (v := .ref (a 6)) hex hbc hts hin2 hown hK hP 3 rfl rfl 4 (by decide) (hts _ (List.mem_of_getElem? (i := 2) rfl)) (fun _ h => h) rfl dX2_endFrame_11 ?_
    refine lv_iload_n hex hbc dX2_endFrame_14 rfl (lv_at hl 1 rfl) ?_
    refine lv_iconst (v := iI 1) hex hbc dX2_endFrame_15 rfl ?_
    refine zt_iadd hex hbc dX2_endFrame_16 ?_
    refine g_iald (f := (fun k => (σ 0 (75 + k)))) (v := (σ 0 (75 + (k + 1)))) (i := (k + 1)) hex hbc hK hP 6 0 rfl rfl (by decide) (by omega) rfl dX2_endFrame_17 ?_
    refine lv_goto (tgt := 25) hex hbc dX2_endFrame_18 (by decide) ?_
    exact g_iret hex hbc hrt hlocks hK hP hD hS ⟨rfl, congrArg iI (by first | exact fr_lt (by omega) | exact fr_ge (by omega) | exact (fr_lt (by omega)).trans (congrArg _ (by omega)))⟩ dX2_endFrame_25
theorem iX2_lengthOf_X2 : ∀ w ∈ wsX20, w ∈ wsX2_lengthOf := fun _ h => List.mem_cons_of_mem _ (List.mem_append_right _ h)
set_option maxHeartbeats 4000000 in
set_option maxRecDepth 100000 in
theorem mX2_lengthOf (l : Launch) (G : va_G) (cx a : Nat → Nat) (σ : Nat → Int → Int)  (k : Int) (hk : 0 ≤ k ∧ k < σ 0 74) (hI : Inv (σ 0)) : Met l yX2_lengthOf wsX2_lengthOf ({ frames := 1, cells := 0, slots := 0, locals := 21 }) (va_Pc [.ref (a 3), .int (iI k)] (gW G (tx cx) (XA a) (wx cx a) σ)) (va_Qi (fun r u => σ = u ∧ iI (ln (σ 0) k) = r) (gW G (tx cx) (XA a) (wx cx a)) (XA a)) 0 0 (XA a) := by
  refine Met.ofW (cc := cX2_lengthOf) (maxL := 2) (ret := some .int) (by decide) rfl ?_
  intro p e s m args below meth c s₁ B hml hv
  obtain ⟨rfl, hP, hK, hD⟩ := hv
  have hex := B.exec
  have hbc := B.bytes
  have hrt := B.returns
  have hts := atoms_spec (ws := wsX2_lengthOf) B.pre
  have hown : s.vm.findClass RX2 = some m.cls := findClass_of_methodNamed B.named
  have hlocks := B.notSynchronized
  have hS : va_S (XA a) s.heap s.heap [] := va_S.rf
  have hin2 := iX2_lengthOf_X2
  have hl := lv_entry ([.ref (a 3), .int (iI k)]) (n := 2) (Nat.le_of_ble_eq_true rfl)
  rw [lg_entry_eq]
  generalize (lg_sl ([.ref (a 3), .int (iI k)]) ++ List.replicate (2 - (lg_sl ([.ref (a 3), .int (iI k)])).length) Slot.unset).toArray = ls at hl ⊢
  have hl : lv_has ls 2 [(0, .ref (a 3)), (1, .int (iI k))] := hl
  obtain ⟨hB, hEn, hMk, hAs, hPm⟩ := id hI
  refine lv_aload_n hex hbc dX2_lengthOf_0 rfl (lv_at hl 0 rfl) ?_
  refine lv_iload_n hex hbc dX2_lengthOf_1 rfl (lv_at hl 1 rfl) ?_
  refine g_calli [.int (iI k)] ⟨hex, hbc, hml, hown, hts⟩ (mX2_endFrame l G cx a σ k (by omega) hI) (cwV 1 hts gX2_lengthOf_X2_endFrame rfl rfl rfl (by decide +kernel) ⟨Nat.le_of_ble_eq_true rfl, Nat.le_of_ble_eq_true rfl⟩) hK hP hD hS (fun _ h => h) 3 2 rfl rfl rfl rfl hl.1 (Nat.le_of_ble_eq_true rfl) dX2_lengthOf_2 ⟨Nat.zero_le _, Nat.zero_le _⟩ (fun r_2 u_2 H locs hw_2 hP hD hS hz_2 hk_2 => ?_)
  obtain ⟨rfl, rfl⟩ := hw_2
  refine lv_aload_n hex hbc dX2_lengthOf_5 rfl (lv_at hl 0 rfl) ?_
  refine va_get (v := .ref (a 6)) hex hbc hts hin2 hown hK hP 3 rfl rfl 4 (by decide) (hts _ (List.mem_of_getElem? (i := 1) rfl)) (fun _ h => h) rfl dX2_lengthOf_6 ?_
  refine lv_iload_n hex hbc dX2_lengthOf_9 rfl (lv_at hl 1 rfl) ?_
  refine g_iald (f := (fun k => (σ 0 (75 + k)))) (v := (σ 0 (75 + k))) (i := k) hex hbc hK hP 6 0 rfl rfl (by decide) (by omega) rfl dX2_lengthOf_10 ?_
  refine zt_isub hex hbc dX2_lengthOf_11 ?_
  refine lv_aload_n hex hbc dX2_lengthOf_12 rfl (lv_at hl 0 rfl) ?_
  refine va_get (v := .ref (a 5)) hex hbc hts hin2 hown hK hP 3 rfl rfl 3 (by decide) (hts _ (List.mem_of_getElem? (i := 2) rfl)) (fun _ h => h) rfl dX2_lengthOf_13 ?_
  refine lv_iconst (v := iI 0) hex hbc dX2_lengthOf_16 rfl ?_
  refine g_iald (f := (fun k => (σ 0 (1 + k)))) (v := (σ 0 1)) (i := 0) hex hbc hK hP 5 0 rfl rfl (by decide) (by omega) rfl dX2_lengthOf_17 ?_
  refine zt_imul hex hbc dX2_lengthOf_18 ?_
  exact g_iret hex hbc hrt hlocks hK hP hD hS ⟨rfl, congrArg iI (by unfold ln; rw [fr_lt (k := k) (by omega)])⟩ dX2_lengthOf_19
theorem iX2_leastBudget_X2 : ∀ w ∈ wsX20, w ∈ wsX2_leastBudget := fun _ h => List.mem_cons_of_mem _ (List.mem_append_right _ h)
set_option maxHeartbeats 4000000 in
set_option maxRecDepth 100000 in
theorem mX2_leastBudget (l : Launch) (G : va_G) (cx a : Nat → Nat) (σ : Nat → Int → Int)  (n : Int) (hn : 0 ≤ n ∧ n ≤ 64000) (hI : Inv (σ 0)) : Met l yX2_leastBudget wsX2_leastBudget ({ frames := 0, cells := 0, slots := 0, locals := 0 }) (va_Pc [.ref (a 3), .int (iI n)] (gW G (tx cx) (XA a) (wx cx a) σ)) (va_Qi (fun r u => σ = u ∧ iI (n * σ 0 4 / 100) = r) (gW G (tx cx) (XA a) (wx cx a)) (XA a)) 0 0 (XA a) := by
  refine Met.ofW (cc := cX2_leastBudget) (maxL := 2) (ret := some .int) (by decide) rfl ?_
  intro p e s m args below meth c s₁ B hml hv
  obtain ⟨rfl, hP, hK, hD⟩ := hv
  have hex := B.exec
  have hbc := B.bytes
  have hrt := B.returns
  have hts := atoms_spec (ws := wsX2_leastBudget) B.pre
  have hown : s.vm.findClass RX2 = some m.cls := findClass_of_methodNamed B.named
  have hlocks := B.notSynchronized
  have hS : va_S (XA a) s.heap s.heap [] := va_S.rf
  have hin2 := iX2_leastBudget_X2
  have hl := lv_entry ([.ref (a 3), .int (iI n)]) (n := 2) (Nat.le_of_ble_eq_true rfl)
  rw [lg_entry_eq]
  generalize (lg_sl ([.ref (a 3), .int (iI n)]) ++ List.replicate (2 - (lg_sl ([.ref (a 3), .int (iI n)])).length) Slot.unset).toArray = ls at hl ⊢
  have hl : lv_has ls 2 [(0, .ref (a 3)), (1, .int (iI n))] := hl
  obtain ⟨hB, hEn, hMk, hAs, hPm⟩ := id hI
  have hm := mulb (a := n) (b := σ 0 4) (A := 64000) (B := 100) (by omega) (by omega) (by omega) (by omega)
  refine lv_iload_n hex hbc dX2_leastBudget_0 rfl (lv_at hl 1 rfl) ?_
  refine lv_aload_n hex hbc dX2_leastBudget_1 rfl (lv_at hl 0 rfl) ?_
  refine va_get (v := .ref (a 5)) hex hbc hts hin2 hown hK hP 3 rfl rfl 3 (by decide) (hts _ (List.mem_of_getElem? (i := 1) rfl)) (fun _ h => h) rfl dX2_leastBudget_2 ?_
  refine lv_iconst (v := iI 3) hex hbc dX2_leastBudget_5 rfl ?_
  refine g_iald (f := (fun k => (σ 0 (1 + k)))) (v := (σ 0 4)) (i := 3) hex hbc hK hP 5 0 rfl rfl (by decide) (by omega) rfl dX2_leastBudget_6 ?_
  refine zt_imul hex hbc dX2_leastBudget_7 ?_
  refine lv_bipush (v := iI 100) hex hbc dX2_leastBudget_8 (by decide) ?_
  refine zt_idiv hex hbc (by omega) dX2_leastBudget_10 ?_
  exact g_iret hex hbc hrt hlocks hK hP hD hS ⟨rfl, rfl⟩ dX2_leastBudget_11
theorem iX2_mostBudget_X2 : ∀ w ∈ wsX20, w ∈ wsX2_mostBudget := fun _ h => List.mem_cons_of_mem _ (List.mem_append_right _ h)
set_option maxHeartbeats 4000000 in
set_option maxRecDepth 100000 in
theorem mX2_mostBudget (l : Launch) (G : va_G) (cx a : Nat → Nat) (σ : Nat → Int → Int)  (n : Int) (hn : 0 ≤ n ∧ n ≤ 64000) (hI : Inv (σ 0)) : Met l yX2_mostBudget wsX2_mostBudget ({ frames := 0, cells := 0, slots := 0, locals := 0 }) (va_Pc [.ref (a 3), .int (iI n)] (gW G (tx cx) (XA a) (wx cx a) σ)) (va_Qi (fun r u => σ = u ∧ iI (n * σ 0 5 / 100) = r) (gW G (tx cx) (XA a) (wx cx a)) (XA a)) 0 0 (XA a) := by
  refine Met.ofW (cc := cX2_mostBudget) (maxL := 2) (ret := some .int) (by decide) rfl ?_
  intro p e s m args below meth c s₁ B hml hv
  obtain ⟨rfl, hP, hK, hD⟩ := hv
  have hex := B.exec
  have hbc := B.bytes
  have hrt := B.returns
  have hts := atoms_spec (ws := wsX2_mostBudget) B.pre
  have hown : s.vm.findClass RX2 = some m.cls := findClass_of_methodNamed B.named
  have hlocks := B.notSynchronized
  have hS : va_S (XA a) s.heap s.heap [] := va_S.rf
  have hin2 := iX2_mostBudget_X2
  have hl := lv_entry ([.ref (a 3), .int (iI n)]) (n := 2) (Nat.le_of_ble_eq_true rfl)
  rw [lg_entry_eq]
  generalize (lg_sl ([.ref (a 3), .int (iI n)]) ++ List.replicate (2 - (lg_sl ([.ref (a 3), .int (iI n)])).length) Slot.unset).toArray = ls at hl ⊢
  have hl : lv_has ls 2 [(0, .ref (a 3)), (1, .int (iI n))] := hl
  obtain ⟨hB, hEn, hMk, hAs, hPm⟩ := id hI
  have hm := mulb (a := n) (b := σ 0 5) (A := 64000) (B := 1000) (by omega) (by omega) (by omega) (by omega)
  refine lv_iload_n hex hbc dX2_mostBudget_0 rfl (lv_at hl 1 rfl) ?_
  refine lv_aload_n hex hbc dX2_mostBudget_1 rfl (lv_at hl 0 rfl) ?_
  refine va_get (v := .ref (a 5)) hex hbc hts hin2 hown hK hP 3 rfl rfl 3 (by decide) (hts _ (List.mem_of_getElem? (i := 1) rfl)) (fun _ h => h) rfl dX2_mostBudget_2 ?_
  refine lv_iconst (v := iI 4) hex hbc dX2_mostBudget_5 rfl ?_
  refine g_iald (f := (fun k => (σ 0 (1 + k)))) (v := (σ 0 5)) (i := 4) hex hbc hK hP 5 0 rfl rfl (by decide) (by omega) rfl dX2_mostBudget_6 ?_
  refine zt_imul hex hbc dX2_mostBudget_7 ?_
  refine lv_bipush (v := iI 100) hex hbc dX2_mostBudget_8 (by decide) ?_
  refine zt_idiv hex hbc (by omega) dX2_mostBudget_10 ?_
  exact g_iret hex hbc hrt hlocks hK hP hD hS ⟨rfl, rfl⟩ dX2_mostBudget_11
