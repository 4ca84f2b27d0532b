/-! the reference: its small questions (rows laid by wip/gen) -/
set_option maxHeartbeats 4000000 in
set_option maxRecDepth 100000 in
theorem mX5_isIn (l : Launch) (x1 : Int) (x2 : Int) (x3 : Int) (h1 : -2147483648 ≤ x1 ∧ x1 < 2147483648) (h2 : -2147483648 ≤ x2 ∧ x2 < 2147483648) (h3 : -2147483648 ≤ x3 ∧ x3 < 2147483648) : Met l yX5_isIn wsX5_isIn ({ frames := 0, cells := 0, slots := 0, locals := 0 }) (va_Pc [.int (iI x1), .int (iI x2), .int (iI x3)] (fun _ => True)) (va_Qi (fun r (_ : Unit) => ∃ z, iI z = r ∧ (((x2 ≤ x1 ∧ x1 ≤ x3) ∧ z = 1) ∨ (¬ (x2 ≤ x1 ∧ x1 ≤ x3) ∧ z = 0))) (fun _ _ => True) (fun _ => False)) 0 0 (fun _ => False) := by
  refine Met.ofW (cc := cX5_isIn) (maxL := 3) (ret := some .boolean) (by decide) rfl ?_
  intro p e s m args below meth c s₁ B hml hv
  obtain ⟨rfl, -⟩ := hv
  have hex := B.exec
  have hbc := B.bytes
  have hrt := B.returns
  have hts := atoms_spec (ws := wsX5_isIn) B.pre
  have hown : s.vm.findClass RX5 = some m.cls := findClass_of_methodNamed B.named
  have hlocks := B.notSynchronized
  have hS : va_S (fun _ => False) s.heap s.heap [] := va_S.rf
  have hl := lv_entry ([.int (iI x1), .int (iI x2), .int (iI x3)]) (n := 3) (Nat.le_of_ble_eq_true rfl)
  rw [lg_entry_eq]
  generalize (lg_sl ([.int (iI x1), .int (iI x2), .int (iI x3)]) ++ List.replicate (3 - (lg_sl ([.int (iI x1), .int (iI x2), .int (iI x3)])).length) Slot.unset).toArray = ls at hl ⊢
  have hl : lv_has ls 3 [(0, .int (iI x1)), (1, .int (iI x2)), (2, .int (iI x3))] := hl
  refine lv_iload_n hex hbc dX5_isIn_0 rfl (lv_at hl 0 rfl) ?_
  refine lv_iload_n hex hbc dX5_isIn_1 rfl (lv_at hl 1 rfl) ?_
  refine zt_icmp_lt (a := x1) (b := x2) (tgt := 14) hex hbc (by omega) dX5_isIn_2 (by decide) (fun c2 => ?_) (fun c2 => ?_)
  · skip
    refine lv_iconst (v := iI 0) hex hbc dX5_isIn_14 rfl ?_
    exact W.zret hex hbc hrt rfl (fun t ht hW => ⟨⟨_, (), rfl, ⟨_, rfl, by omega⟩, trivial⟩, hS.F ht⟩) (fun q hq => hS.2.2 q hq) dX5_isIn_15 hlocks
  · skip
    refine lv_iload_n hex hbc dX5_isIn_5 rfl (lv_at hl 0 rfl) ?_
    refine lv_iload_n hex hbc dX5_isIn_6 rfl (lv_at hl 2 rfl) ?_
    refine zt_icmp_gt (a := x1) (b := x3) (tgt := 14) hex hbc (by omega) dX5_isIn_7 (by decide) (fun c7 => ?_) (fun c7 => ?_)
    · skip
      refine lv_iconst (v := iI 0) hex hbc dX5_isIn_14 rfl ?_
      exact W.zret hex hbc hrt rfl (fun t ht hW => ⟨⟨_, (), rfl, ⟨_, rfl, by omega⟩, trivial⟩, hS.F ht⟩) (fun q hq => hS.2.2 q hq) dX5_isIn_15 hlocks
    · skip
      refine lv_iconst (v := iI 1) hex hbc dX5_isIn_10 rfl ?_
      refine lv_goto (tgt := 15) hex hbc dX5_isIn_11 (by decide) ?_
      exact W.zret hex hbc hrt rfl (fun t ht hW => ⟨⟨_, (), rfl, ⟨_, rfl, by omega⟩, trivial⟩, hS.F ht⟩) (fun q hq => hS.2.2 q hq) dX5_isIn_15 hlocks
theorem iX5_isFrame_X5 : ∀ w ∈ wsX50, w ∈ wsX5_isFrame := fun _ h => List.mem_cons_of_mem _ (List.mem_append_right _ h)
set_option maxHeartbeats 4000000 in
set_option maxRecDepth 100000 in
theorem mX5_isFrame (l : Launch) (G : va_G) (cx a : Nat → Nat) (σ : Nat → Int → Int)  (x : Int) (hx : -2147483648 ≤ x ∧ x < 2147483648) (hI : Inv (σ 0)) : Met l yX5_isFrame wsX5_isFrame ({ frames := 1, cells := 0, slots := 0, locals := 22 }) (va_Pc [.ref (a 0), .int (iI x)] (gW G (tm cx) (MA a) (wm cx a) σ)) (va_Qi (fun r u => σ = u ∧ ∃ v, iI v = r ∧ (((0 ≤ x ∧ x < σ 0 0) ∧ v = 1) ∨ (¬ (0 ≤ x ∧ x < σ 0 0) ∧ v = 0))) (gW G (tm cx) (MA a) (wm cx a)) (MA a)) 0 0 (MA a) := by
  refine Met.ofW (cc := cX5_isFrame) (maxL := 2) (ret := some .boolean) (by decide) rfl ?_
  intro p e s m args below meth c s₁ B hml hv
  obtain ⟨rfl, hP, hK, hD⟩ := hv
  have hex := B.exec
  have hbc := B.bytes
  have hrt := B.returns
  have hts := atoms_spec (ws := wsX5_isFrame) B.pre
  have hown : s.vm.findClass RX5 = some m.cls := findClass_of_methodNamed B.named
  have hlocks := B.notSynchronized
  have hS : va_S (MA a) s.heap s.heap [] := va_S.rf
  have hin5 := iX5_isFrame_X5
  have hl := lv_entry ([.ref (a 0), .int (iI x)]) (n := 2) (Nat.le_of_ble_eq_true rfl)
  rw [lg_entry_eq]
  generalize (lg_sl ([.ref (a 0), .int (iI x)]) ++ List.replicate (2 - (lg_sl ([.ref (a 0), .int (iI x)])).length) Slot.unset).toArray = ls at hl ⊢
  have hl : lv_has ls 2 [(0, .ref (a 0)), (1, .int (iI x))] := hl
  obtain ⟨hB, hEn, hMk, hAs, hPm⟩ := id hI
  refine lv_iload_n hex hbc dX5_isFrame_0 rfl (lv_at hl 1 rfl) ?_
  refine lv_iconst (v := iI 0) hex hbc dX5_isFrame_1 rfl ?_
  refine lv_aload_n hex hbc dX5_isFrame_2 rfl (lv_at hl 0 rfl) ?_
  refine va_get (v := .ref (a 1)) hex hbc hts hin5 hown hK hP 0 rfl rfl 0 (by decide) (hts _ (List.mem_of_getElem? (i := 1) rfl)) (fun _ h => h) rfl dX5_isFrame_3 ?_
  refine lv_iconst (v := iI 0) hex hbc dX5_isFrame_6 rfl ?_
  refine g_iald (f := (σ 0)) (v := (σ 0 0)) (i := 0) hex hbc hK hP 1 0 rfl rfl (by decide) (by omega) rfl dX5_isFrame_7 ?_
  refine lv_iconst (v := iI 1) hex hbc dX5_isFrame_8 rfl ?_
  refine zt_isub hex hbc dX5_isFrame_9 ?_
  refine g_callS [.int (iI x), .int (iI 0), .int (iI ((σ 0 0) - 1))] ⟨hex, hbc, hml, hown, hts⟩ (mX5_isIn l x 0 ((σ 0 0) - 1) (by omega) (by omega) (by omega)) (va_cwS 3 hts gX5_isFrame_X5_isIn rfl rfl rfl (by decide +kernel) ⟨Nat.le_of_ble_eq_true rfl, Nat.le_of_ble_eq_true rfl⟩) hP hS rfl rfl hl.1 (Nat.le_of_ble_eq_true rfl) dX5_isFrame_10 ⟨Nat.zero_le _, Nat.zero_le _⟩ (fun r_10 H locs hw_10 hP hS => ?_)
  obtain ⟨vb10, rfl, hv10⟩ := hw_10
  exact g_zret hex hbc hrt hlocks (nar_b hv10) hK hP hD hS ⟨rfl, _, rfl, by omega⟩ dX5_isFrame_13
theorem iX5_isSlice_X5 : ∀ w ∈ wsX50, w ∈ wsX5_isSlice := fun _ h => List.mem_cons_of_mem _ (List.mem_append_right _ h)
set_option maxHeartbeats 4000000 in
set_option maxRecDepth 100000 in
theorem mX5_isSlice (l : Launch) (G : va_G) (cx a : Nat → Nat) (σ : Nat → Int → Int)  (x : Int) (hx : -2147483648 ≤ x ∧ x < 2147483648) (hI : Inv (σ 0)) : Met l yX5_isSlice wsX5_isSlice ({ frames := 1, cells := 0, slots := 0, locals := 22 }) (va_Pc [.ref (a 0), .int (iI x)] (gW G (tm cx) (MA a) (wm cx a) σ)) (va_Qi (fun r u => σ = u ∧ ∃ v, iI v = r ∧ (((0 ≤ x ∧ x < σ 0 74) ∧ v = 1) ∨ (¬ (0 ≤ x ∧ x < σ 0 74) ∧ v = 0))) (gW G (tm cx) (MA a) (wm cx a)) (MA a)) 0 0 (MA a) := by
  refine Met.ofW (cc := cX5_isSlice) (maxL := 2) (ret := some .boolean) (by decide) rfl ?_
  intro p e s m args below meth c s₁ B hml hv
  obtain ⟨rfl, hP, hK, hD⟩ := hv
  have hex := B.exec
  have hbc := B.bytes
  have hrt := B.returns
  have hts := atoms_spec (ws := wsX5_isSlice) B.pre
  have hown : s.vm.findClass RX5 = some m.cls := findClass_of_methodNamed B.named
  have hlocks := B.notSynchronized
  have hS : va_S (MA a) s.heap s.heap [] := va_S.rf
  have hin5 := iX5_isSlice_X5
  have hl := lv_entry ([.ref (a 0), .int (iI x)]) (n := 2) (Nat.le_of_ble_eq_true rfl)
  rw [lg_entry_eq]
  generalize (lg_sl ([.ref (a 0), .int (iI x)]) ++ List.replicate (2 - (lg_sl ([.ref (a 0), .int (iI x)])).length) Slot.unset).toArray = ls at hl ⊢
  have hl : lv_has ls 2 [(0, .ref (a 0)), (1, .int (iI x))] := hl
  obtain ⟨hB, hEn, hMk, hAs, hPm⟩ := id hI
  refine lv_iload_n hex hbc dX5_isSlice_0 rfl (lv_at hl 1 rfl) ?_
  refine lv_iconst (v := iI 0) hex hbc dX5_isSlice_1 rfl ?_
  refine lv_aload_n hex hbc dX5_isSlice_2 rfl (lv_at hl 0 rfl) ?_
  refine va_get (v := .ref (a 1)) hex hbc hts hin5 hown hK hP 0 rfl rfl 0 (by decide) (hts _ (List.mem_of_getElem? (i := 1) rfl)) (fun _ h => h) rfl dX5_isSlice_3 ?_
  refine lv_bipush (v := iI 74) hex hbc dX5_isSlice_6 (by decide) ?_
  refine g_iald (f := (σ 0)) (v := (σ 0 74)) (i := 74) hex hbc hK hP 1 0 rfl rfl (by decide) (by omega) rfl dX5_isSlice_8 ?_
  refine lv_iconst (v := iI 1) hex hbc dX5_isSlice_9 rfl ?_
  refine zt_isub hex hbc dX5_isSlice_10 ?_
  refine g_callS [.int (iI x), .int (iI 0), .int (iI ((σ 0 74) - 1))] ⟨hex, hbc, hml, hown, hts⟩ (mX5_isIn l x 0 ((σ 0 74) - 1) (by omega) (by omega) (by omega)) (va_cwS 3 hts gX5_isSlice_X5_isIn rfl rfl rfl (by decide +kernel) ⟨Nat.le_of_ble_eq_true rfl, Nat.le_of_ble_eq_true rfl⟩) hP hS rfl rfl hl.1 (Nat.le_of_ble_eq_true rfl) dX5_isSlice_11 ⟨Nat.zero_le _, Nat.zero_le _⟩ (fun r_11 H locs hw_11 hP hS => ?_)
  obtain ⟨vb11, rfl, hv11⟩ := hw_11
  exact g_zret hex hbc hrt hlocks (nar_b hv11) hK hP hD hS ⟨rfl, _, rfl, by omega⟩ dX5_isSlice_14
theorem iX5_isFurther_X5 : ∀ w ∈ wsX50, w ∈ wsX5_isFurther := fun _ h => List.mem_cons_of_mem _ (List.mem_append_right _ h)
set_option maxHeartbeats 4000000 in
set_option maxRecDepth 100000 in
theorem mX5_isFurther (l : Launch) (G : va_G) (cx a : Nat → Nat) (σ : Nat → Int → Int)  (x : Int) (hx : -2147483648 ≤ x ∧ x < 2147483648) (hI : Inv (σ 0)) : Met l yX5_isFurther wsX5_isFurther ({ frames := 1, cells := 0, slots := 0, locals := 22 }) (va_Pc [.ref (a 0), .int (iI x)] (gW G (tm cx) (MA a) (wm cx a) σ)) (va_Qi (fun r u => σ = u ∧ ∃ v, iI v = r ∧ (((1 ≤ x ∧ x < σ 0 74) ∧ v = 1) ∨ (¬ (1 ≤ x ∧ x < σ 0 74) ∧ v = 0))) (gW G (tm cx) (MA a) (wm cx a)) (MA a)) 0 0 (MA a) := by
  refine Met.ofW (cc := cX5_isFurther) (maxL := 2) (ret := some .boolean) (by decide) rfl ?_
  intro p e s m args below meth c s₁ B hml hv
  obtain ⟨rfl, hP, hK, hD⟩ := hv
  have hex := B.exec
  have hbc := B.bytes
  have hrt := B.returns
  have hts := atoms_spec (ws := wsX5_isFurther) B.pre
  have hown : s.vm.findClass RX5 = some m.cls := findClass_of_methodNamed B.named
  have hlocks := B.notSynchronized
  have hS : va_S (MA a) s.heap s.heap [] := va_S.rf
  have hin5 := iX5_isFurther_X5
  have hl := lv_entry ([.ref (a 0), .int (iI x)]) (n := 2) (Nat.le_of_ble_eq_true rfl)
  rw [lg_entry_eq]
  generalize (lg_sl ([.ref (a 0), .int (iI x)]) ++ List.replicate (2 - (lg_sl ([.ref (a 0), .int (iI x)])).length) Slot.unset).toArray = ls at hl ⊢
  have hl : lv_has ls 2 [(0, .ref (a 0)), (1, .int (iI x))] := hl
  obtain ⟨hB, hEn, hMk, hAs, hPm⟩ := id hI
  refine lv_iload_n hex hbc dX5_isFurther_0 rfl (lv_at hl 1 rfl) ?_
  refine lv_iconst (v := iI 1) hex hbc dX5_isFurther_1 rfl ?_
  refine lv_aload_n hex hbc dX5_isFurther_2 rfl (lv_at hl 0 rfl) ?_
  refine va_get (v := .ref (a 1)) hex hbc hts hin5 hown hK hP 0 rfl rfl 0 (by decide) (hts _ (List.mem_of_getElem? (i := 1) rfl)) (fun _ h => h) rfl dX5_isFurther_3 ?_
  refine lv_bipush (v := iI 74) hex hbc dX5_isFurther_6 (by decide) ?_
  refine g_iald (f := (σ 0)) (v := (σ 0 74)) (i := 74) hex hbc hK hP 1 0 rfl rfl (by decide) (by omega) rfl dX5_isFurther_8 ?_
  refine lv_iconst (v := iI 1) hex hbc dX5_isFurther_9 rfl ?_
  refine zt_isub hex hbc dX5_isFurther_10 ?_
  refine g_callS [.int (iI x), .int (iI 1), .int (iI ((σ 0 74) - 1))] ⟨hex, hbc, hml, hown, hts⟩ (mX5_isIn l x 1 ((σ 0 74) - 1) (by omega) (by omega) (by omega)) (va_cwS 3 hts gX5_isFurther_X5_isIn rfl rfl rfl (by decide +kernel) ⟨Nat.le_of_ble_eq_true rfl, Nat.le_of_ble_eq_true rfl⟩) hP hS rfl rfl hl.1 (Nat.le_of_ble_eq_true rfl) dX5_isFurther_11 ⟨Nat.zero_le _, Nat.zero_le _⟩ (fun r_11 H locs hw_11 hP hS => ?_)
  obtain ⟨vb11, rfl, hv11⟩ := hw_11
  exact g_zret hex hbc hrt hlocks (nar_b hv11) hK hP hD hS ⟨rfl, _, rfl, by omega⟩ dX5_isFurther_14
theorem iX5_frameOf_X5 : ∀ w ∈ wsX50, w ∈ wsX5_frameOf := fun _ h => List.mem_cons_of_mem _ (List.mem_append_right _ h)
set_option maxHeartbeats 4000000 in
set_option maxRecDepth 100000 in
theorem mX5_frameOf (l : Launch) (G : va_G) (cx a : Nat → Nat) (σ : Nat → Int → Int)  (x : Int) (hx : 0 ≤ x ∧ x ≤ 16) (hI : Inv (σ 0)) : Met l yX5_frameOf wsX5_frameOf ({ frames := 0, cells := 0, slots := 0, locals := 0 }) (va_Pc [.ref (a 0), .int (iI x)] (gW G (tm cx) (MA a) (wm cx a) σ)) (va_Qi (fun r u => σ = u ∧ iI (fr (σ 0) x) = r) (gW G (tm cx) (MA a) (wm cx a)) (MA a)) 0 0 (MA a) := by
  refine Met.ofW (cc := cX5_frameOf) (maxL := 2) (ret := some .int) (by decide) rfl ?_
  intro p e s m args below meth c s₁ B hml hv
  obtain ⟨rfl, hP, hK, hD⟩ := hv
  have hex := B.exec
  have hbc := B.bytes
  have hrt := B.returns
  have hts := atoms_spec (ws := wsX5_frameOf) B.pre
  have hown : s.vm.findClass RX5 = some m.cls := findClass_of_methodNamed B.named
  have hlocks := B.notSynchronized
  have hS : va_S (MA a) s.heap s.heap [] := va_S.rf
  have hin5 := iX5_frameOf_X5
  have hl := lv_entry ([.ref (a 0), .int (iI x)]) (n := 2) (Nat.le_of_ble_eq_true rfl)
  rw [lg_entry_eq]
  generalize (lg_sl ([.ref (a 0), .int (iI x)]) ++ List.replicate (2 - (lg_sl ([.ref (a 0), .int (iI x)])).length) Slot.unset).toArray = ls at hl ⊢
  have hl : lv_has ls 2 [(0, .ref (a 0)), (1, .int (iI x))] := hl
  obtain ⟨hB, hEn, hMk, hAs, hPm⟩ := id hI
  refine lv_iload_n hex hbc dX5_frameOf_0 rfl (lv_at hl 1 rfl) ?_
  refine lv_aload_n hex hbc dX5_frameOf_1 rfl (lv_at hl 0 rfl) ?_
  refine va_get (v := .ref (a 1)) hex hbc hts hin5 hown hK hP 0 rfl rfl 0 (by decide) (hts _ (List.mem_of_getElem? (i := 1) rfl)) (fun _ h => h) rfl dX5_frameOf_2 ?_
  refine lv_bipush (v := iI 74) hex hbc dX5_frameOf_5 (by decide) ?_
  refine g_iald (f := (σ 0)) (v := (σ 0 74)) (i := 74) hex hbc hK hP 1 0 rfl rfl (by decide) (by omega) rfl dX5_frameOf_7 ?_
  refine zt_icmp_ge (a := x) (b := (σ 0 74)) (tgt := 23) hex hbc (by omega) dX5_frameOf_8 (by decide) (fun c8 => ?_) (fun c8 => ?_)
  · skip
    refine lv_aload_n hex hbc dX5_frameOf_23 rfl (lv_at hl 0 rfl) ?_
    refine va_get (v := .ref (a 1)) hex hbc hts hin5 hown hK hP 0 rfl rfl 0 (by decide) (hts _ (List.mem_of_getElem? (i := 1) rfl)) (fun _ h => h) rfl dX5_frameOf_24 ?_
    refine lv_iconst (v := iI 0) hex hbc dX5_frameOf_27 rfl ?_
    refine g_iald (f := (σ 0)) (v := (σ 0 0)) (i := 0) hex hbc hK hP 1 0 rfl rfl (by decide) (by omega) rfl dX5_frameOf_28 ?_
    exact g_iret hex hbc hrt hlocks hK hP hD hS ⟨rfl, congrArg iI (by first | exact fr_lt (by omega) | exact fr_ge (by omega))⟩ dX5_frameOf_29
  · skip
    refine lv_aload_n hex hbc dX5_frameOf_11 rfl (lv_at hl 0 rfl) ?_
    refine va_get (v := .ref (a 1)) hex hbc hts hin5 hown hK hP 0 rfl rfl 0 (by decide) (hts _ (List.mem_of_getElem? (i := 1) rfl)) (fun _ h => h) rfl dX5_frameOf_12 ?_
    refine lv_bipush (v := iI 75) hex hbc dX5_frameOf_15 (by decide) ?_
    refine lv_iload_n hex hbc dX5_frameOf_17 rfl (lv_at hl 1 rfl) ?_
    refine zt_iadd hex hbc dX5_frameOf_18 ?_
    refine g_iald (f := (σ 0)) (v := (σ 0 (75 + x))) (i := (75 + x)) hex hbc hK hP 1 0 rfl rfl (by decide) (by omega) rfl dX5_frameOf_19 ?_
    refine lv_goto (tgt := 29) hex hbc dX5_frameOf_20 (by decide) ?_
    exact g_iret hex hbc hrt hlocks hK hP hD hS ⟨rfl, congrArg iI (by first | exact fr_lt (by omega) | exact fr_ge (by omega))⟩ dX5_frameOf_29
theorem iX5_lengthOf_X5 : ∀ w ∈ wsX50, w ∈ wsX5_lengthOf := fun _ h => List.mem_cons_of_mem _ (List.mem_append_right _ h)
set_option maxHeartbeats 4000000 in
set_option maxRecDepth 100000 in
theorem mX5_lengthOf (l : Launch) (G : va_G) (cx a : Nat → Nat) (σ : Nat → Int → Int)  (x : Int) (hx : 0 ≤ x ∧ x < σ 0 74) (hI : Inv (σ 0)) : Met l yX5_lengthOf wsX5_lengthOf ({ frames := 1, cells := 0, slots := 0, locals := 21 }) (va_Pc [.ref (a 0), .int (iI x)] (gW G (tm cx) (MA a) (wm cx a) σ)) (va_Qi (fun r u => σ = u ∧ iI (ln (σ 0) x) = r) (gW G (tm cx) (MA a) (wm cx a)) (MA a)) 0 0 (MA a) := by
  refine Met.ofW (cc := cX5_lengthOf) (maxL := 2) (ret := some .int) (by decide) rfl ?_
  intro p e s m args below meth c s₁ B hml hv
  obtain ⟨rfl, hP, hK, hD⟩ := hv
  have hex := B.exec
  have hbc := B.bytes
  have hrt := B.returns
  have hts := atoms_spec (ws := wsX5_lengthOf) B.pre
  have hown : s.vm.findClass RX5 = some m.cls := findClass_of_methodNamed B.named
  have hlocks := B.notSynchronized
  have hS : va_S (MA a) s.heap s.heap [] := va_S.rf
  have hin5 := iX5_lengthOf_X5
  have hl := lv_entry ([.ref (a 0), .int (iI x)]) (n := 2) (Nat.le_of_ble_eq_true rfl)
  rw [lg_entry_eq]
  generalize (lg_sl ([.ref (a 0), .int (iI x)]) ++ List.replicate (2 - (lg_sl ([.ref (a 0), .int (iI x)])).length) Slot.unset).toArray = ls at hl ⊢
  have hl : lv_has ls 2 [(0, .ref (a 0)), (1, .int (iI x))] := hl
  obtain ⟨hB, hEn, hMk, hAs, hPm⟩ := id hI
  refine lv_aload_n hex hbc dX5_lengthOf_0 rfl (lv_at hl 0 rfl) ?_
  refine lv_iload_n hex hbc dX5_lengthOf_1 rfl (lv_at hl 1 rfl) ?_
  refine lv_iconst (v := iI 1) hex hbc dX5_lengthOf_2 rfl ?_
  refine zt_iadd hex hbc dX5_lengthOf_3 ?_
  refine g_calli [.int (iI (x + 1))] ⟨hex, hbc, hml, hown, hts⟩ (mX5_frameOf l G cx a σ (x + 1) (by omega) hI) (cwV 1 hts gX5_lengthOf_X5_frameOf rfl rfl rfl (by decide +kernel) ⟨Nat.le_of_ble_eq_true rfl, Nat.le_of_ble_eq_true rfl⟩) hK hP hD hS (fun _ h => h) 0 5 rfl rfl rfl rfl hl.1 (Nat.le_of_ble_eq_true rfl) dX5_lengthOf_4 ⟨Nat.zero_le _, Nat.zero_le _⟩ (fun r_4 u_4 H locs hw_4 hP hD hS hz_4 hk_4 => ?_)
  obtain ⟨rfl, rfl⟩ := hw_4
  refine lv_aload_n hex hbc dX5_lengthOf_7 rfl (lv_at hl 0 rfl) ?_
  refine lv_iload_n hex hbc dX5_lengthOf_8 rfl (lv_at hl 1 rfl) ?_
  refine g_calli [.int (iI x)] ⟨hex, hbc, hml, hown, hts⟩ (mX5_frameOf l G cx a σ x (by omega) hI) (cwV 1 hts gX5_lengthOf_X5_frameOf rfl rfl rfl (by decide +kernel) ⟨Nat.le_of_ble_eq_true rfl, Nat.le_of_ble_eq_true rfl⟩) hK hP hD hS (fun _ h => h) 0 5 rfl rfl rfl rfl hl.1 (Nat.le_of_ble_eq_true rfl) dX5_lengthOf_9 ⟨Nat.zero_le _, Nat.zero_le _⟩ (fun r_9 u_9 H locs hw_9 hP hD hS hz_9 hk_9 => ?_)
  obtain ⟨rfl, rfl⟩ := hw_9
  refine zt_isub hex hbc dX5_lengthOf_12 ?_
  refine lv_aload_n hex hbc dX5_lengthOf_13 rfl (lv_at hl 0 rfl) ?_
  refine va_get (v := .ref (a 1)) hex hbc hts hin5 hown hK hP 0 rfl rfl 0 (by decide) (hts _ (List.mem_of_getElem? (i := 1) rfl)) (fun _ h => h) rfl dX5_lengthOf_14 ?_
  refine lv_iconst (v := iI 1) hex hbc dX5_lengthOf_17 rfl ?_
  refine g_iald (f := (σ 0)) (v := (σ 0 1)) (i := 1) hex hbc hK hP 1 0 rfl rfl (by decide) (by omega) rfl dX5_lengthOf_18 ?_
  refine zt_imul hex hbc dX5_lengthOf_19 ?_
  exact g_iret hex hbc hrt hlocks hK hP hD hS ⟨rfl, rfl⟩ dX5_lengthOf_20
theorem iX5_whole_X5 : ∀ w ∈ wsX50, w ∈ wsX5_whole := fun _ h => List.mem_cons_of_mem _ (List.mem_append_right _ h)
set_option maxHeartbeats 4000000 in
set_option maxRecDepth 100000 in
theorem mX5_whole (l : Launch) (G : va_G) (cx a : Nat → Nat) (σ : Nat → Int → Int)   (hI : Inv (σ 0)) : Met l yX5_whole wsX5_whole ({ frames := 0, cells := 0, slots := 0, locals := 0 }) (va_Pc [.ref (a 0)] (gW G (tm cx) (MA a) (wm cx a) σ)) (va_Qi (fun r u => σ = u ∧ iI (σ 0 0 * σ 0 1) = r) (gW G (tm cx) (MA a) (wm cx a)) (MA a)) 0 0 (MA a) := by
  refine Met.ofW (cc := cX5_whole) (maxL := 1) (ret := some .int) (by decide) rfl ?_
  intro p e s m args below meth c s₁ B hml hv
  obtain ⟨rfl, hP, hK, hD⟩ := hv
  have hex := B.exec
  have hbc := B.bytes
  have hrt := B.returns
  have hts := atoms_spec (ws := wsX5_whole) B.pre
  have hown : s.vm.findClass RX5 = some m.cls := findClass_of_methodNamed B.named
  have hlocks := B.notSynchronized
  have hS : va_S (MA a) s.heap s.heap [] := va_S.rf
  have hin5 := iX5_whole_X5
  have hl := lv_entry ([.ref (a 0)]) (n := 1) (Nat.le_of_ble_eq_true rfl)
  rw [lg_entry_eq]
  generalize (lg_sl ([.ref (a 0)]) ++ List.replicate (1 - (lg_sl ([.ref (a 0)])).length) Slot.unset).toArray = ls at hl ⊢
  have hl : lv_has ls 1 [(0, .ref (a 0))] := hl
  obtain ⟨hB, hEn, hMk, hAs, hPm⟩ := id hI
  refine lv_aload_n hex hbc dX5_whole_0 rfl (lv_at hl 0 rfl) ?_
  refine va_get (v := .ref (a 1)) hex hbc hts hin5 hown hK hP 0 rfl rfl 0 (by decide) (hts _ (List.mem_of_getElem? (i := 1) rfl)) (fun _ h => h) rfl dX5_whole_1 ?_
  refine lv_iconst (v := iI 0) hex hbc dX5_whole_4 rfl ?_
  refine g_iald (f := (σ 0)) (v := (σ 0 0)) (i := 0) hex hbc hK hP 1 0 rfl rfl (by decide) (by omega) rfl dX5_whole_5 ?_
  refine lv_aload_n hex hbc dX5_whole_6 rfl (lv_at hl 0 rfl) ?_
  refine va_get (v := .ref (a 1)) hex hbc hts hin5 hown hK hP 0 rfl rfl 0 (by decide) (hts _ (List.mem_of_getElem? (i := 1) rfl)) (fun _ h => h) rfl dX5_whole_7 ?_
  refine lv_iconst (v := iI 1) hex hbc dX5_whole_10 rfl ?_
  refine g_iald (f := (σ 0)) (v := (σ 0 1)) (i := 1) hex hbc hK hP 1 0 rfl rfl (by decide) (by omega) rfl dX5_whole_11 ?_
  refine zt_imul hex hbc dX5_whole_12 ?_
  exact g_iret hex hbc hrt hlocks hK hP hD hS ⟨rfl, rfl⟩ dX5_whole_13
theorem iX5_remainder_X5 : ∀ w ∈ wsX50, w ∈ wsX5_remainder := fun _ h => List.mem_cons_of_mem _ (List.mem_append_right _ h)
set_option maxHeartbeats 4000000 in
set_option maxRecDepth 100000 in
theorem mX5_remainder (l : Launch) (G : va_G) (cx a : Nat → Nat) (σ : Nat → Int → Int)  (x : Int) (hx : 0 ≤ x ∧ x < σ 0 74) (hI : Inv (σ 0)) : Met l yX5_remainder wsX5_remainder ({ frames := 2, cells := 0, slots := 0, locals := 42 }) (va_Pc [.ref (a 0), .int (iI x)] (gW G (tm cx) (MA a) (wm cx a) σ)) (va_Ql (fun r u => σ = u ∧ lI (ln (σ 0) x * σ 0 6 % (σ 0 0 * σ 0 1)) = r) (gW G (tm cx) (MA a) (wm cx a)) (MA a)) 0 0 (MA a) := by
  refine Met.ofW (cc := cX5_remainder) (maxL := 2) (ret := some .long) (by decide) rfl ?_
  intro p e s m args below meth c s₁ B hml hv
  obtain ⟨rfl, hP, hK, hD⟩ := hv
  have hex := B.exec
  have hbc := B.bytes
  have hrt := B.returns
  have hts := atoms_spec (ws := wsX5_remainder) B.pre
  have hown : s.vm.findClass RX5 = some m.cls := findClass_of_methodNamed B.named
  have hlocks := B.notSynchronized
  have hS : va_S (MA a) s.heap s.heap [] := va_S.rf
  have hin5 := iX5_remainder_X5
  have hl := lv_entry ([.ref (a 0), .int (iI x)]) (n := 2) (Nat.le_of_ble_eq_true rfl)
  rw [lg_entry_eq]
  generalize (lg_sl ([.ref (a 0), .int (iI x)]) ++ List.replicate (2 - (lg_sl ([.ref (a 0), .int (iI x)])).length) Slot.unset).toArray = ls at hl ⊢
  have hl : lv_has ls 2 [(0, .ref (a 0)), (1, .int (iI x))] := hl
  obtain ⟨hB, hEn, hMk, hAs, hPm⟩ := id hI
  have hln := hI.ln_in hx.1 hx.2
  have hwh : 1 ≤ σ 0 0 * σ 0 1 ∧ σ 0 0 * σ 0 1 ≤ 64000 := hI.wh_in
  have hm := mulb (a := ln (σ 0) x) (b := σ 0 6) (A := 64000) (B := 200000) (by omega) (by omega) (by omega) (by omega)
  refine lv_aload_n hex hbc dX5_remainder_0 rfl (lv_at hl 0 rfl) ?_
  refine lv_iload_n hex hbc dX5_remainder_1 rfl (lv_at hl 1 rfl) ?_
  refine g_calli [.int (iI x)] ⟨hex, hbc, hml, hown, hts⟩ (mX5_lengthOf l G cx a σ x (by omega) hI) (cwV 1 hts gX5_remainder_X5_lengthOf rfl rfl rfl (by decide +kernel) ⟨Nat.le_of_ble_eq_true rfl, Nat.le_of_ble_eq_true rfl⟩) hK hP hD hS (fun _ h => h) 0 5 rfl rfl rfl rfl hl.1 (Nat.le_of_ble_eq_true rfl) dX5_remainder_2 ⟨Nat.zero_le _, Nat.zero_le _⟩ (fun r_2 u_2 H locs hw_2 hP hD hS hz_2 hk_2 => ?_)
  obtain ⟨rfl, rfl⟩ := hw_2
  refine zt_i2l hex hbc (by omega) dX5_remainder_5 ?_
  refine lv_aload_n hex hbc dX5_remainder_6 rfl (lv_at hl 0 rfl) ?_
  refine va_get (v := .ref (a 1)) hex hbc hts hin5 hown hK hP 0 rfl rfl 0 (by decide) (hts _ (List.mem_of_getElem? (i := 1) rfl)) (fun _ h => h) rfl dX5_remainder_7 ?_
  refine lv_bipush (v := iI 6) hex hbc dX5_remainder_10 (by decide) ?_
  refine g_iald (f := (σ 0)) (v := (σ 0 6)) (i := 6) hex hbc hK hP 1 0 rfl rfl (by decide) (by omega) rfl dX5_remainder_12 ?_
  refine zt_i2l hex hbc (by omega) dX5_remainder_13 ?_
  refine zt_lmul hex hbc dX5_remainder_14 ?_
  refine lv_aload_n hex hbc dX5_remainder_15 rfl (lv_at hl 0 rfl) ?_
  refine g_calli [] ⟨hex, hbc, hml, hown, hts⟩ (mX5_whole l G cx a σ  hI) (cwV 0 hts gX5_remainder_X5_whole rfl rfl rfl (by decide +kernel) ⟨Nat.le_of_ble_eq_true rfl, Nat.le_of_ble_eq_true rfl⟩) hK hP hD hS (fun _ h => h) 0 5 rfl rfl rfl rfl hl.1 (Nat.le_of_ble_eq_true rfl) dX5_remainder_16 ⟨Nat.zero_le _, Nat.zero_le _⟩ (fun r_16 u_16 H locs hw_16 hP hD hS hz_16 hk_16 => ?_)
  obtain ⟨rfl, rfl⟩ := hw_16
  refine zt_i2l hex hbc (by omega) dX5_remainder_19 ?_
  refine zt_lrem hex hbc (by omega) dX5_remainder_20 ?_
  exact g_lret hex hbc hrt hlocks hK hP hD hS ⟨rfl, rfl⟩ dX5_remainder_21
set_option maxHeartbeats 4000000 in
set_option maxRecDepth 100000 in
theorem mX5_sampleAt (l : Launch) (x1 : Int) (x2 : Int) (x3 : Int) (h1 : 0 ≤ x1 ∧ x1 ≤ 32) (h2 : 0 ≤ x2 ∧ x2 ≤ 200000) (h3 : 1 ≤ x3 ∧ x3 ≤ 32) : Met l yX5_sampleAt wsX5_sampleAt ({ frames := 0, cells := 0, slots := 0, locals := 0 }) (va_Pc [.int (iI x1), .int (iI x2), .int (iI x3)] (fun _ => True)) (va_Qi (fun r (_ : Unit) => iI (po x2 x3 x1) = r) (fun _ _ => True) (fun _ => False)) 0 0 (fun _ => False) := by
  refine Met.ofW (cc := cX5_sampleAt) (maxL := 3) (ret := some .int) (by decide) rfl ?_
  intro p e s m args below meth c s₁ B hml hv
  obtain ⟨rfl, -⟩ := hv
  have hex := B.exec
  have hbc := B.bytes
  have hrt := B.returns
  have hts := atoms_spec (ws := wsX5_sampleAt) B.pre
  have hown : s.vm.findClass RX5 = some m.cls := findClass_of_methodNamed B.named
  have hlocks := B.notSynchronized
  have hS : va_S (fun _ => False) s.heap s.heap [] := va_S.rf
  have hl := lv_entry ([.int (iI x1), .int (iI x2), .int (iI x3)]) (n := 3) (Nat.le_of_ble_eq_true rfl)
  rw [lg_entry_eq]
  generalize (lg_sl ([.int (iI x1), .int (iI x2), .int (iI x3)]) ++ List.replicate (3 - (lg_sl ([.int (iI x1), .int (iI x2), .int (iI x3)])).length) Slot.unset).toArray = ls at hl ⊢
  have hl : lv_has ls 3 [(0, .int (iI x1)), (1, .int (iI x2)), (2, .int (iI x3))] := hl
  have hm := mulb (a := x1) (b := x2) (A := 32) (B := 200000) (by omega) (by omega) (by omega) (by omega)
  refine lv_iload_n hex hbc dX5_sampleAt_0 rfl (lv_at hl 0 rfl) ?_
  refine zt_i2l hex hbc (by omega) dX5_sampleAt_1 ?_
  refine lv_iload_n hex hbc dX5_sampleAt_2 rfl (lv_at hl 1 rfl) ?_
  refine zt_i2l hex hbc (by omega) dX5_sampleAt_3 ?_
  refine zt_lmul hex hbc dX5_sampleAt_4 ?_
  refine lv_iload_n hex hbc dX5_sampleAt_5 rfl (lv_at hl 2 rfl) ?_
  refine zt_i2l hex hbc (by omega) dX5_sampleAt_6 ?_
  refine zt_ldiv hex hbc (by omega) dX5_sampleAt_7 ?_
  refine zt_l2i hex hbc dX5_sampleAt_8 ?_
  exact W.iret hex hbc hrt (fun t ht hW => ⟨⟨_, (), rfl, rfl, trivial⟩, hS.F ht⟩) (fun q hq => hS.2.2 q hq) dX5_sampleAt_9 hlocks
theorem iX5_fits_X5 : ∀ w ∈ wsX50, w ∈ wsX5_fits := fun _ h => List.mem_cons_of_mem _ (List.mem_append_right _ h)
set_option maxHeartbeats 4000000 in
set_option maxRecDepth 100000 in
theorem mX5_fits (l : Launch) (G : va_G) (cx a : Nat → Nat) (σ : Nat → Int → Int)  (x1 : Int) (x2 : Int) (h1 : 0 ≤ x1 ∧ x1 < σ 0 74) (h2 : -2147483648 ≤ x2 ∧ x2 < 2147483648) (hI : Inv (σ 0)) : Met l yX5_fits wsX5_fits ({ frames := 2, cells := 0, slots := 0, locals := 42 }) (va_Pc [.ref (a 0), .int (iI x1), .int (iI x2)] (gW G (tm cx) (MA a) (wm cx a) σ)) (va_Qi (fun r u => σ = u ∧ ∃ v, iI v = r ∧ (((fits_ (σ 0) x1 x2) ∧ v = 1) ∨ (¬ (fits_ (σ 0) x1 x2) ∧ v = 0))) (gW G (tm cx) (MA a) (wm cx a)) (MA a)) 0 0 (MA a) := by
  refine Met.ofW (cc := cX5_fits) (maxL := 3) (ret := some .boolean) (by decide) rfl ?_
  intro p e s m args below meth c s₁ B hml hv
  obtain ⟨rfl, hP, hK, hD⟩ := hv
  have hex := B.exec
  have hbc := B.bytes
  have hrt := B.returns
  have hts := atoms_spec (ws := wsX5_fits) B.pre
  have hown : s.vm.findClass RX5 = some m.cls := findClass_of_methodNamed B.named
  have hlocks := B.notSynchronized
  have hS : va_S (MA a) s.heap s.heap [] := va_S.rf
  have hin5 := iX5_fits_X5
  have hl := lv_entry ([.ref (a 0), .int (iI x1), .int (iI x2)]) (n := 3) (Nat.le_of_ble_eq_true rfl)
  rw [lg_entry_eq]
  generalize (lg_sl ([.ref (a 0), .int (iI x1), .int (iI x2)]) ++ List.replicate (3 - (lg_sl ([.ref (a 0), .int (iI x1), .int (iI x2)])).length) Slot.unset).toArray = ls at hl ⊢
  have hl : lv_has ls 3 [(0, .ref (a 0)), (1, .int (iI x1)), (2, .int (iI x2))] := hl
  obtain ⟨hB, hEn, hMk, hAs, hPm⟩ := id hI
  have hln := hI.ln_in h1.1 h1.2
  have hm4 := mulb (a := ln (σ 0) x1) (b := σ 0 4) (A := 64000) (B := 100) (by omega) (by omega) (by omega) (by omega)
  have hm5 := mulb (a := ln (σ 0) x1) (b := σ 0 5) (A := 64000) (B := 1000) (by omega) (by omega) (by omega) (by omega)
  refine lv_iload_n hex hbc dX5_fits_0 rfl (lv_at hl 2 rfl) ?_
  refine zt_i2l hex hbc (by omega) dX5_fits_1 ?_
  refine lv_aload_n hex hbc dX5_fits_2 rfl (lv_at hl 0 rfl) ?_
  refine lv_iload_n hex hbc dX5_fits_3 rfl (lv_at hl 1 rfl) ?_
  refine g_calli [.int (iI x1)] ⟨hex, hbc, hml, hown, hts⟩ (mX5_lengthOf l G cx a σ x1 (by omega) hI) (cwV 1 hts gX5_fits_X5_lengthOf rfl rfl rfl (by decide +kernel) ⟨Nat.le_of_ble_eq_true rfl, Nat.le_of_ble_eq_true rfl⟩) hK hP hD hS (fun _ h => h) 0 5 rfl rfl rfl rfl hl.1 (Nat.le_of_ble_eq_true rfl) dX5_fits_4 ⟨Nat.zero_le _, Nat.zero_le _⟩ (fun r_4 u_4 H locs hw_4 hP hD hS hz_4 hk_4 => ?_)
  obtain ⟨rfl, rfl⟩ := hw_4
  refine zt_i2l hex hbc (by omega) dX5_fits_7 ?_
  refine lv_aload_n hex hbc dX5_fits_8 rfl (lv_at hl 0 rfl) ?_
  refine va_get (v := .ref (a 1)) hex hbc hts hin5 hown hK hP 0 rfl rfl 0 (by decide) (hts _ (List.mem_of_getElem? (i := 1) rfl)) (fun _ h => h) rfl dX5_fits_9 ?_
  refine lv_iconst (v := iI 4) hex hbc dX5_fits_12 rfl ?_
  refine g_iald (f := (σ 0)) (v := (σ 0 4)) (i := 4) hex hbc hK hP 1 0 rfl rfl (by decide) (by omega) rfl dX5_fits_13 ?_
  refine zt_i2l hex hbc (by omega) dX5_fits_14 ?_
  refine zt_lmul hex hbc dX5_fits_15 ?_
  refine lv_ldc2 (v := lI 100) hex hbc hown (hts _ (List.mem_of_getElem? (i := 2) rfl)) dX5_fits_16 ?_
  refine zt_ldiv hex hbc (by omega) dX5_fits_19 ?_
  refine zt_lcmp (a := x2) (b := (((ln (σ 0) x1) * (σ 0 4)) / 100)) hex hbc (by omega) dX5_fits_20 (fun dc20 hdc20 => ?_)
  refine zt_if_lt (a := dc20) (tgt := 52) hex hbc (by omega) dX5_fits_21 (by decide) (fun c21 => ?_) (fun c21 => ?_)
  · skip
    refine lv_iconst (v := iI 0) hex hbc dX5_fits_52 rfl ?_
    exact g_zret hex hbc hrt hlocks rfl hK hP hD hS ⟨rfl, _, rfl, by unfold fits_; omega⟩ dX5_fits_53
  · skip
    refine lv_iload_n hex hbc dX5_fits_24 rfl (lv_at hl 2 rfl) ?_
    refine zt_i2l hex hbc (by omega) dX5_fits_25 ?_
    refine lv_aload_n hex hbc dX5_fits_26 rfl (lv_at hl 0 rfl) ?_
    refine lv_iload_n hex hbc dX5_fits_27 rfl (lv_at hl 1 rfl) ?_
    refine g_calli [.int (iI x1)] ⟨hex, hbc, hml, hown, hts⟩ (mX5_lengthOf l G cx a σ x1 (by omega) hI) (cwV 1 hts gX5_fits_X5_lengthOf rfl rfl rfl (by decide +kernel) ⟨Nat.le_of_ble_eq_true rfl, Nat.le_of_ble_eq_true rfl⟩) hK hP hD hS (fun _ h => h) 0 5 rfl rfl rfl rfl hl.1 (Nat.le_of_ble_eq_true rfl) dX5_fits_28 ⟨Nat.zero_le _, Nat.zero_le _⟩ (fun r_28 u_28 H locs hw_28 hP hD hS hz_28 hk_28 => ?_)
    obtain ⟨rfl, rfl⟩ := hw_28
    refine zt_i2l hex hbc (by omega) dX5_fits_31 ?_
    refine lv_aload_n hex hbc dX5_fits_32 rfl (lv_at hl 0 rfl) ?_
    refine va_get (v := .ref (a 1)) hex hbc hts hin5 hown hK hP 0 rfl rfl 0 (by decide) (hts _ (List.mem_of_getElem? (i := 1) rfl)) (fun _ h => h) rfl dX5_fits_33 ?_
    refine lv_iconst (v := iI 5) hex hbc dX5_fits_36 rfl ?_
    refine g_iald (f := (σ 0)) (v := (σ 0 5)) (i := 5) hex hbc hK hP 1 0 rfl rfl (by decide) (by omega) rfl dX5_fits_37 ?_
    refine zt_i2l hex hbc (by omega) dX5_fits_38 ?_
    refine zt_lmul hex hbc dX5_fits_39 ?_
    refine lv_ldc2 (v := lI 100) hex hbc hown (hts _ (List.mem_of_getElem? (i := 2) rfl)) dX5_fits_40 ?_
    refine zt_ldiv hex hbc (by omega) dX5_fits_43 ?_
    refine zt_lcmp (a := x2) (b := (((ln (σ 0) x1) * (σ 0 5)) / 100)) hex hbc (by omega) dX5_fits_44 (fun dc44 hdc44 => ?_)
    refine zt_if_gt (a := dc44) (tgt := 52) hex hbc (by omega) dX5_fits_45 (by decide) (fun c45 => ?_) (fun c45 => ?_)
    · skip
      refine lv_iconst (v := iI 0) hex hbc dX5_fits_52 rfl ?_
      exact g_zret hex hbc hrt hlocks rfl hK hP hD hS ⟨rfl, _, rfl, by unfold fits_; omega⟩ dX5_fits_53
    · skip
      refine lv_iconst (v := iI 1) hex hbc dX5_fits_48 rfl ?_
      refine lv_goto (tgt := 53) hex hbc dX5_fits_49 (by decide) ?_
      exact g_zret hex hbc hrt hlocks rfl hK hP hD hS ⟨rfl, _, rfl, by unfold fits_; omega⟩ dX5_fits_53
theorem iX5_off_X5 : ∀ w ∈ wsX50, w ∈ wsX5_off := fun _ h => List.mem_cons_of_mem _ (List.mem_append_right _ h)
set_option maxHeartbeats 4000000 in
set_option maxRecDepth 100000 in
theorem mX5_off (l : Launch) (G : va_G) (cx a : Nat → Nat) (σ : Nat → Int → Int)  (x1 : Int) (x2 : Int) (x3 : Int) (x4 : Int) (h1 : 0 ≤ x1 ∧ x1 < σ 0 74) (h2 : 0 ≤ x2 ∧ x2 ≤ x4) (h3 : 0 ≤ x3 ∧ x3 ≤ 200000) (h4 : 1 ≤ x4 ∧ x4 ≤ 32) (hI : Inv (σ 0)) : Met l yX5_off wsX5_off ({ frames := 1, cells := 0, slots := 0, locals := 22 }) (va_Pc [.ref (a 0), .int (iI x1), .int (iI x2), .int (iI x3), .int (iI x4)] (gW G (tm cx) (MA a) (wm cx a) σ)) (va_Ql (fun r u => σ = u ∧ lI (of_ (σ 0) x3 x4 x1 x2) = r) (gW G (tm cx) (MA a) (wm cx a)) (MA a)) 0 0 (MA a) := by
  refine Met.ofW (cc := cX5_off) (maxL := 7) (ret := some .long) (by decide) rfl ?_
  intro p e s m args below meth c s₁ B hml hv
  obtain ⟨rfl, hP, hK, hD⟩ := hv
  have hex := B.exec
  have hbc := B.bytes
  have hrt := B.returns
  have hts := atoms_spec (ws := wsX5_off) B.pre
  have hown : s.vm.findClass RX5 = some m.cls := findClass_of_methodNamed B.named
  have hlocks := B.notSynchronized
  have hS : va_S (MA a) s.heap s.heap [] := va_S.rf
  have hin5 := iX5_off_X5
  have hl := lv_entry ([.ref (a 0), .int (iI x1), .int (iI x2), .int (iI x3), .int (iI x4)]) (n := 7) (Nat.le_of_ble_eq_true rfl)
  rw [lg_entry_eq]
  generalize (lg_sl ([.ref (a 0), .int (iI x1), .int (iI x2), .int (iI x3), .int (iI x4)]) ++ List.replicate (7 - (lg_sl ([.ref (a 0), .int (iI x1), .int (iI x2), .int (iI x3), .int (iI x4)])).length) Slot.unset).toArray = ls at hl ⊢
  have hl : lv_has ls 7 [(0, .ref (a 0)), (1, .int (iI x1)), (2, .int (iI x2)), (3, .int (iI x3)), (4, .int (iI x4))] := hl
  obtain ⟨hB, hEn, hMk, hAs, hPm⟩ := id hI
  have hpo := po_in (T := x3) (G := x4) (i := x2) h3 h4.1 h2
  have hfr := hI.fr_in h1.1
  have hm1 := mulb (a := po x3 x4 x2) (b := σ 0 0) (A := 200000) (B := 64) (by omega) (by omega) (by omega) (by omega)
  have hm2 := mulb (a := fr (σ 0) x1) (b := x3) (A := 64) (B := 200000) (by omega) (by omega) (by omega) (by omega)
  refine lv_iload_n hex hbc dX5_off_0 rfl (lv_at hl 2 rfl) ?_
  refine lv_iload_n hex hbc dX5_off_1 rfl (lv_at hl 3 rfl) ?_
  refine lv_iload hex hbc dX5_off_2 (lv_at hl 4 rfl) ?_
  refine g_callS [.int (iI x2), .int (iI x3), .int (iI x4)] ⟨hex, hbc, hml, hown, hts⟩ (mX5_sampleAt l x2 x3 x4 (by omega) (by omega) (by omega)) (va_cwS 3 hts gX5_off_X5_sampleAt rfl rfl rfl (by decide +kernel) ⟨Nat.le_of_ble_eq_true rfl, Nat.le_of_ble_eq_true rfl⟩) hP hS rfl rfl hl.1 (Nat.le_of_ble_eq_true rfl) dX5_off_4 ⟨Nat.zero_le _, Nat.zero_le _⟩ (fun r_4 H locs hw_4 hP hS => ?_)
  obtain rfl := hw_4
  refine zt_i2l hex hbc (by omega) dX5_off_7 ?_
  refine lv_aload_n hex hbc dX5_off_8 rfl (lv_at hl 0 rfl) ?_
  refine va_get (v := .ref (a 1)) hex hbc hts hin5 hown hK hP 0 rfl rfl 0 (by decide) (hts _ (List.mem_of_getElem? (i := 1) rfl)) (fun _ h => h) rfl dX5_off_9 ?_
  refine lv_iconst (v := iI 0) hex hbc dX5_off_12 rfl ?_
  refine g_iald (f := (σ 0)) (v := (σ 0 0)) (i := 0) hex hbc hK hP 1 0 rfl rfl (by decide) (by omega) rfl dX5_off_13 ?_
  refine zt_i2l hex hbc (by omega) dX5_off_14 ?_
  refine zt_lmul hex hbc dX5_off_15 ?_
  refine lv_aload_n hex hbc dX5_off_16 rfl (lv_at hl 0 rfl) ?_
  refine lv_iload_n hex hbc dX5_off_17 rfl (lv_at hl 1 rfl) ?_
  refine g_calli [.int (iI x1)] ⟨hex, hbc, hml, hown, hts⟩ (mX5_frameOf l G cx a σ x1 (by omega) hI) (cwV 1 hts gX5_off_X5_frameOf rfl rfl rfl (by decide +kernel) ⟨Nat.le_of_ble_eq_true rfl, Nat.le_of_ble_eq_true rfl⟩) hK hP hD hS (fun _ h => h) 0 5 rfl rfl rfl rfl hl.1 (Nat.le_of_ble_eq_true rfl) dX5_off_18 ⟨Nat.zero_le _, Nat.zero_le _⟩ (fun r_18 u_18 H locs hw_18 hP hD hS hz_18 hk_18 => ?_)
  obtain ⟨rfl, rfl⟩ := hw_18
  refine zt_i2l hex hbc (by omega) dX5_off_21 ?_
  refine lv_iload_n hex hbc dX5_off_22 rfl (lv_at hl 3 rfl) ?_
  refine zt_i2l hex hbc (by omega) dX5_off_23 ?_
  refine zt_lmul hex hbc dX5_off_24 ?_
  refine zt_lsub hex hbc dX5_off_25 ?_
  refine lv_lstore (lv' := [(5, .long (lI (((po x3 x4 x2) * (σ 0 0)) - ((fr (σ 0) x1) * x3)))), (0, .ref (a 0)), (1, .int (iI x1)), (2, .int (iI x2)), (3, .int (iI x3)), (4, .int (iI x4))]) hex hbc dX5_off_26 hl (by decide) rfl (fun ls hl => ?_)
  refine lv_lload hex hbc dX5_off_28 (lv_at hl 0 rfl) ?_
  refine lv_lconst (v := lI 0) hex hbc dX5_off_30 rfl ?_
  refine zt_lcmp (a := (((po x3 x4 x2) * (σ 0 0)) - ((fr (σ 0) x1) * x3))) (b := 0) hex hbc (by omega) dX5_off_31 (fun dc31 hdc31 => ?_)
  refine zt_if_ge (a := dc31) (tgt := 41) hex hbc (by omega) dX5_off_32 (by decide) (fun c32 => ?_) (fun c32 => ?_)
  · skip
    refine lv_lload hex hbc dX5_off_41 (lv_at hl 0 rfl) ?_
    exact g_lret hex hbc hrt hlocks hK hP hD hS ⟨rfl, congrArg lI (by unfold of_ abI; split <;> omega)⟩ dX5_off_43
  · skip
    refine lv_lload hex hbc dX5_off_35 (lv_at hl 0 rfl) ?_
    refine zt_lneg hex hbc dX5_off_37 ?_
    refine lv_goto (tgt := 43) hex hbc dX5_off_38 (by decide) ?_
    exact g_lret hex hbc hrt hlocks hK hP hD hS ⟨rfl, congrArg lI (by unfold of_ abI; split <;> omega)⟩ dX5_off_43
