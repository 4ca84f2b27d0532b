/-! the constructor of the program (rows laid by wip/gen/ctor3.py) -/
theorem iX4_init_X0 : ∀ w ∈ wsX00, w ∈ wsX4_init := fun _ h => List.mem_cons_of_mem _ (List.mem_append_left _ (List.mem_append_left _ (List.mem_append_right _ h)))
theorem iX4_init_X1 : ∀ w ∈ wsX10, w ∈ wsX4_init := fun _ h => List.mem_cons_of_mem _ (List.mem_append_right _ h)
theorem iX4_init_X2 : ∀ w ∈ wsX20, w ∈ wsX4_init := fun _ h => List.mem_cons_of_mem _ (List.mem_append_left _ (List.mem_append_left _ (List.mem_append_left _ (List.mem_append_left _ (List.mem_append_right _ h)))))
theorem iX4_init_X3 : ∀ w ∈ wsX30, w ∈ wsX4_init := fun _ h => List.mem_cons_of_mem _ (List.mem_append_left _ (List.mem_append_right _ h))
theorem iX4_init_X4 : ∀ w ∈ wsX40, w ∈ wsX4_init := fun _ h => List.mem_cons_of_mem _ (List.mem_append_left _ (List.mem_append_left _ (List.mem_append_left _ (List.mem_append_right _ h))))
set_option maxHeartbeats 4000000 in
set_option maxRecDepth 100000 in
theorem mX4_init (l : Launch) (G : va_G) (cx : Nat → Nat) (rw : Nat) (sz : Nat) (h : Nat) : Met l yX4_init wsX4_init ({ frames := 3, cells := 69, slots := 1939, locals := 56 }) (va_Pc [.ref h] (fun U => U.heap.size = sz ∧ va_P G vwCl [(h, .inr (4, [.null, .null, .null, .null, .null, .null, .null]))] U.heap ∧ va_K G vwCl (tx cx) U ∧ (fun U => FV cx rw (NA h sz) U ∧ va_AO "LoopSlicer$Loop" U ∧ va_Nw (.methodLinkNest RX1 17 yX2_init "LoopSlicer") U ∧ va_Nw (.methodLinkNest RX4 9 yX2_init "LoopSlicer") U) U)) (va_Qv (fun (_ : Nat → Nat) => True) (fun u t => va_P G vwCl ((fun (u : Nat → Nat) => wx cx (a0 h u) s0X) u) t.heap ∧ va_D (NA h sz) ((fun (u : Nat → Nat) => wx cx (a0 h u) s0X) u)) (NA h sz)) 69 1939 (NA h sz) := by
  refine Met.ofW (cc := cX4_init) (maxL := 2) (ret := none) (by decide) rfl ?_
  intro p e s m args below meth c s₁ B hml hv
  obtain ⟨rfl, hsz, hP, hK, hF, hAO, hN1, hNe⟩ := hv
  have hex := B.exec
  have hbc := B.bytes
  have hrt := B.returns
  have hts := atoms_spec (ws := wsX4_init) B.pre
  have hown : s.vm.findClass RX4 = some m.cls := findClass_of_methodNamed B.named
  have hlocks := B.notSynchronized
  have hini : meth.name = "<init>" := (name_of_methodNamed B.named B.method).1
  subst hsz
  have hD : va_D (NA h s.heap.size) [(h, .inr (4, [.null, .null, .null, .null, .null, .null, .null]))] := NA_one
  have hA : ∀ q : Nat, s.heap.size ≤ q → NA h s.heap.size q := fun q z => Or.inr z
  have hS : va_S (NA h s.heap.size) s.heap s.heap [] := va_S.rf
  have hin0 := iX4_init_X0
  have hin1 := iX4_init_X1
  have hin2 := iX4_init_X2
  have hin3 := iX4_init_X3
  have hin4 := iX4_init_X4
  have hl := lv_entry ([.ref h]) (n := 2) (Nat.le_of_ble_eq_true rfl)
  rw [lg_entry_eq]
  generalize (lg_sl ([.ref h]) ++ List.replicate (2 - (lg_sl ([.ref h])).length) Slot.unset).toArray = ls at hl ⊢
  have hl : lv_has ls 2 [(0, .ref h)] := hl
  refine lv_aload_n hex hbc dX4_init_0 rfl (lv_at hl 0 rfl) ?_
  refine W.objInit hex hbc hown (hts _ (List.mem_of_getElem? (i := 1) rfl)) (hts _ (List.mem_of_getElem? (i := 2) rfl)) (hts _ (List.mem_of_getElem? (i := 3) rfl)) rfl (by rw [hml]; exact hl.1) rfl dX4_init_1 (Nat.le_of_ble_eq_true rfl) (Nat.le_of_ble_eq_true rfl) ?_
  refine W.eq (g2 := F0 m 4 ls []) rfl ?_
  refine lv_aload_n hex hbc dX4_init_4 rfl (lv_at hl 0 rfl) ?_
  refine va_new (ci := 2) (fs := [.int 0, .int 0, .null, .null, .null, .null]) hex hbc hts hin2 tyX2 tyX2_ok hown (hts _ (List.mem_of_getElem? (i := 4) rfl)) (hts (.instantiable RX2 6) (List.mem_of_getElem? (i := 5) rfl)) (hts (.initialized RX2) (List.mem_of_getElem? (i := 6) rfl)) hK hP hD hS hA rfl (fun j hj => by rcases (show j = 0 ∨ j = 1 ∨ j = 2 ∨ j = 3 ∨ j = 4 ∨ j = 5 by omega) with rfl | rfl | rfl | rfl | rfl | rfl <;> rfl) (Nat.le_of_ble_eq_true rfl) (Nat.le_of_ble_eq_true rfl) dX4_init_5 (fun q1 H hP hD hS => ?_)
  refine W.widen (k := 1) (n := 6) (Nat.le_of_ble_eq_true rfl) (Nat.le_of_ble_eq_true rfl) ?_
  refine lv_dup hex hbc dX4_init_8 rfl ?_
  refine g_initN (mc := 4) (ms := 105) (rm := { frames := 1, cells := 4, slots := 105, locals := 15 }) (ws := [(h, .inr (4, [.null, .null, .null, .null, .null, .null, .null]))]) (rest := [.ref q1, .ref h]) (wo := fun (u : Nat × Nat × Nat × Nat) => gl cx q1 u.1 u.2.1 u.2.2.1 u.2.2.2) (Ex := FV cx rw (NA q1 H.size)) [] q1 ⟨hex, hbc, hml, hown, hts⟩ (mX2_init l G cx rw H.size q1 ) ⟨va_cnB 0 hts gX4_init_X2_init_n9 rfl rfl rfl hNe (hts (.initialized RX2) (List.mem_of_getElem? (i := 6) rfl)) (by decide +kernel) ⟨Nat.le_of_ble_eq_true rfl, Nat.le_of_ble_eq_true rfl⟩, rfl, (hts (.instanceMethod yX2_init) (List.mem_of_getElem? (i := 25) rfl))⟩ hK hP hD hS hA (fun U hU hW hB => hF.to hS hU hW hB) (fun _ U _ _ h => h.blind) rfl rfl hl.1 (Nat.le_of_ble_eq_true rfl) dX4_init_9 ⟨Nat.le_of_ble_eq_true rfl, Nat.le_of_ble_eq_true rfl⟩ (fun u H locs hP hD hS => ?_)
  obtain ⟨q2, q3, q4, q5⟩ := u
  have hP : va_P G vwCl ([(h, .inr (4, [.null, .null, .null, .null, .null, .null, .null]))] ++ gl cx q1 q2 q3 q4 q5) H := hP
  have hD : va_D (NA h s.heap.size) ([(h, .inr (4, [.null, .null, .null, .null, .null, .null, .null]))] ++ gl cx q1 q2 q3 q4 q5) := hD
  refine W.widen (k := 5) (n := 111) (Nat.le_of_ble_eq_true rfl) (Nat.le_of_ble_eq_true rfl) ?_
  refine va_putF hex hbc hts hin4 tyX4 tyX4_ok nmX4 hown hK hP hD hS 0 rfl rfl 0 (by decide) (hts _ (List.mem_of_getElem? (i := 7) rfl)) (fun _ h => h) rfl hini rfl (tyX4_ok 0 (by decide)) rfl rfl (Nat.le_of_ble_eq_true rfl) dX4_init_12 (fun H locs hP hD hS => ?_)
  have hP : va_P G vwCl ([(h, .inr (4, [.ref q1, .null, .null, .null, .null, .null, .null]))] ++ gl cx q1 q2 q3 q4 q5) H := hP
  have hD : va_D (NA h s.heap.size) ([(h, .inr (4, [.ref q1, .null, .null, .null, .null, .null, .null]))] ++ gl cx q1 q2 q3 q4 q5) := hD
  refine lv_aload_n hex hbc dX4_init_15 rfl (lv_at hl 0 rfl) ?_
  refine va_new (ci := 0) (fs := [.null, .int 0, .int 0, .null, .null, .null, .null, .null]) hex hbc hts hin0 tyX0 tyX0_ok hown (hts _ (List.mem_of_getElem? (i := 8) rfl)) (hts (.instantiable RX0 8) (List.mem_of_getElem? (i := 9) rfl)) (hts (.initialized RX0) (List.mem_of_getElem? (i := 10) rfl)) hK hP hD hS hA rfl (fun j hj => by rcases (show j = 0 ∨ j = 1 ∨ j = 2 ∨ j = 3 ∨ j = 4 ∨ j = 5 ∨ j = 6 ∨ j = 7 by omega) with rfl | rfl | rfl | rfl | rfl | rfl | rfl | rfl <;> rfl) (Nat.le_of_ble_eq_true rfl) (Nat.le_of_ble_eq_true rfl) dX4_init_16 (fun q6 H hP hD hS => ?_)
  refine W.widen (k := 6) (n := 119) (Nat.le_of_ble_eq_true rfl) (Nat.le_of_ble_eq_true rfl) ?_
  refine lv_dup hex hbc dX4_init_19 rfl ?_
  refine lv_aload_n hex hbc dX4_init_20 rfl (lv_at hl 0 rfl) ?_
  refine va_get (v := .ref q1) hex hbc hts hin4 hown hK hP 0 rfl rfl 0 (by decide) (hts _ (List.mem_of_getElem? (i := 7) rfl)) (fun _ h => h) rfl dX4_init_21 ?_
  refine g_init (mc := 5) (ms := 643) (rm := { frames := 1, cells := 5, slots := 643, locals := 12 }) (ws := [(h, .inr (4, [.ref q1, .null, .null, .null, .null, .null, .null]))] ++ gl cx q1 q2 q3 q4 q5) (rest := [.ref q6, .ref h]) (wo := fun (u : Nat × Nat × Nat × Nat × Nat) => gg cx q6 q1 u.1 u.2.1 u.2.2.1 u.2.2.2.1 u.2.2.2.2) (Ex := fun _ => True) [.ref q1] q6 ⟨hex, hbc, hml, hown, hts⟩ (mX0_init l G cx H.size q6 q1) (cwI 1 hts gX4_init_X0_init rfl rfl rfl (hts (.initialized RX0) (List.mem_of_getElem? (i := 10) rfl)) (hts (.methodLink RX4 18 yX0_init) (List.mem_of_getElem? (i := 40) rfl)) (hts (.instanceMethod yX0_init) (List.mem_of_getElem? (i := 41) rfl)) rfl (by decide +kernel) ⟨Nat.le_of_ble_eq_true rfl, Nat.le_of_ble_eq_true rfl⟩) hK hP hD hS hA (fun U hU hW hB => trivial) (fun _ U _ _ h => trivial) rfl rfl hl.1 (Nat.le_of_ble_eq_true rfl) dX4_init_24 ⟨Nat.le_of_ble_eq_true rfl, Nat.le_of_ble_eq_true rfl⟩ (fun u H locs hP hD hS => ?_)
  obtain ⟨q7, q8, q9, q10, q11⟩ := u
  have hP : va_P G vwCl (([(h, .inr (4, [.ref q1, .null, .null, .null, .null, .null, .null]))] ++ gl cx q1 q2 q3 q4 q5) ++ gg cx q6 q1 q7 q8 q9 q10 q11) H := hP
  have hD : va_D (NA h s.heap.size) (([(h, .inr (4, [.ref q1, .null, .null, .null, .null, .null, .null]))] ++ gl cx q1 q2 q3 q4 q5) ++ gg cx q6 q1 q7 q8 q9 q10 q11) := hD
  refine W.widen (k := 11) (n := 762) (Nat.le_of_ble_eq_true rfl) (Nat.le_of_ble_eq_true rfl) ?_
  refine va_putF hex hbc hts hin4 tyX4 tyX4_ok nmX4 hown hK hP hD hS 0 rfl rfl 1 (by decide) (hts _ (List.mem_of_getElem? (i := 11) rfl)) (fun _ h => h) rfl hini rfl (tyX4_ok 1 (by decide)) rfl rfl (Nat.le_of_ble_eq_true rfl) dX4_init_27 (fun H locs hP hD hS => ?_)
  have hP : va_P G vwCl (([(h, .inr (4, [.ref q1, .ref q6, .null, .null, .null, .null, .null]))] ++ gl cx q1 q2 q3 q4 q5) ++ gg cx q6 q1 q7 q8 q9 q10 q11) H := hP
  have hD : va_D (NA h s.heap.size) (([(h, .inr (4, [.ref q1, .ref q6, .null, .null, .null, .null, .null]))] ++ gl cx q1 q2 q3 q4 q5) ++ gg cx q6 q1 q7 q8 q9 q10 q11) := hD
  refine lv_aload_n hex hbc dX4_init_30 rfl (lv_at hl 0 rfl) ?_
  refine va_new (ci := 3) (fs := [.null, .null, .null, .null]) hex hbc hts hin3 tyX3 tyX3_ok hown (hts _ (List.mem_of_getElem? (i := 12) rfl)) (hts (.instantiable RX3 4) (List.mem_of_getElem? (i := 13) rfl)) (hts (.initialized RX3) (List.mem_of_getElem? (i := 14) rfl)) hK hP hD hS hA rfl (fun j hj => by rcases (show j = 0 ∨ j = 1 ∨ j = 2 ∨ j = 3 by omega) with rfl | rfl | rfl | rfl <;> rfl) (Nat.le_of_ble_eq_true rfl) (Nat.le_of_ble_eq_true rfl) dX4_init_31 (fun q12 H hP hD hS => ?_)
  refine W.widen (k := 12) (n := 766) (Nat.le_of_ble_eq_true rfl) (Nat.le_of_ble_eq_true rfl) ?_
  refine lv_dup hex hbc dX4_init_34 rfl ?_
  refine lv_aload_n hex hbc dX4_init_35 rfl (lv_at hl 0 rfl) ?_
  refine va_get (v := .ref q1) hex hbc hts hin4 hown hK hP 0 rfl rfl 0 (by decide) (hts _ (List.mem_of_getElem? (i := 7) rfl)) (fun _ h => h) rfl dX4_init_36 ?_
  refine lv_aload_n hex hbc dX4_init_39 rfl (lv_at hl 0 rfl) ?_
  refine va_get (v := .ref q6) hex hbc hts hin4 hown hK hP 0 rfl rfl 1 (by decide) (hts _ (List.mem_of_getElem? (i := 11) rfl)) (fun _ h => h) rfl dX4_init_40 ?_
  refine g_init (mc := 2) (ms := 32) (rm := { frames := 1, cells := 2, slots := 32, locals := 12 }) (ws := ([(h, .inr (4, [.ref q1, .ref q6, .null, .null, .null, .null, .null]))] ++ gl cx q1 q2 q3 q4 q5) ++ gg cx q6 q1 q7 q8 q9 q10 q11) (rest := [.ref q12, .ref h]) (wo := fun (u : Nat × Nat) => gs cx q12 q1 q6 u.1 u.2) (Ex := fun _ => True) [.ref q1, .ref q6] q12 ⟨hex, hbc, hml, hown, hts⟩ (mX3_init l G cx H.size q12 q1 q6) (cwI 2 hts gX4_init_X3_init rfl rfl rfl (hts (.initialized RX3) (List.mem_of_getElem? (i := 14) rfl)) (hts (.methodLink RX4 27 yX3_init) (List.mem_of_getElem? (i := 50) rfl)) (hts (.instanceMethod yX3_init) (List.mem_of_getElem? (i := 51) rfl)) rfl (by decide +kernel) ⟨Nat.le_of_ble_eq_true rfl, Nat.le_of_ble_eq_true rfl⟩) hK hP hD hS hA (fun U hU hW hB => trivial) (fun _ U _ _ h => trivial) rfl rfl hl.1 (Nat.le_of_ble_eq_true rfl) dX4_init_43 ⟨Nat.le_of_ble_eq_true rfl, Nat.le_of_ble_eq_true rfl⟩ (fun u H locs hP hD hS => ?_)
  obtain ⟨q13, q14⟩ := u
  have hP : va_P G vwCl ((([(h, .inr (4, [.ref q1, .ref q6, .null, .null, .null, .null, .null]))] ++ gl cx q1 q2 q3 q4 q5) ++ gg cx q6 q1 q7 q8 q9 q10 q11) ++ gs cx q12 q1 q6 q13 q14) H := hP
  have hD : va_D (NA h s.heap.size) ((([(h, .inr (4, [.ref q1, .ref q6, .null, .null, .null, .null, .null]))] ++ gl cx q1 q2 q3 q4 q5) ++ gg cx q6 q1 q7 q8 q9 q10 q11) ++ gs cx q12 q1 q6 q13 q14) := hD
  refine W.widen (k := 14) (n := 798) (Nat.le_of_ble_eq_true rfl) (Nat.le_of_ble_eq_true rfl) ?_
  refine va_putF hex hbc hts hin4 tyX4 tyX4_ok nmX4 hown hK hP hD hS 0 rfl rfl 2 (by decide) (hts _ (List.mem_of_getElem? (i := 15) rfl)) (fun _ h => h) rfl hini rfl (tyX4_ok 2 (by decide)) rfl rfl (Nat.le_of_ble_eq_true rfl) dX4_init_46 (fun H locs hP hD hS => ?_)
  have hP : va_P G vwCl ((([(h, .inr (4, [.ref q1, .ref q6, .ref q12, .null, .null, .null, .null]))] ++ gl cx q1 q2 q3 q4 q5) ++ gg cx q6 q1 q7 q8 q9 q10 q11) ++ gs cx q12 q1 q6 q13 q14) H := hP
  have hD : va_D (NA h s.heap.size) ((([(h, .inr (4, [.ref q1, .ref q6, .ref q12, .null, .null, .null, .null]))] ++ gl cx q1 q2 q3 q4 q5) ++ gg cx q6 q1 q7 q8 q9 q10 q11) ++ gs cx q12 q1 q6 q13 q14) := hD
  refine lv_aload_n hex hbc dX4_init_49 rfl (lv_at hl 0 rfl) ?_
  refine va_new (ci := 1) (fs := [.null, .int 0, .int 0]) hex hbc hts hin1 tyX1 tyX1_ok hown (hts _ (List.mem_of_getElem? (i := 16) rfl)) (hts (.instantiable RX1 3) (List.mem_of_getElem? (i := 17) rfl)) (hts (.initialized RX1) (List.mem_of_getElem? (i := 18) rfl)) hK hP hD hS hA rfl (fun j hj => by rcases (show j = 0 ∨ j = 1 ∨ j = 2 by omega) with rfl | rfl | rfl <;> rfl) (Nat.le_of_ble_eq_true rfl) (Nat.le_of_ble_eq_true rfl) dX4_init_50 (fun q15 H hP hD hS => ?_)
  refine W.widen (k := 15) (n := 801) (Nat.le_of_ble_eq_true rfl) (Nat.le_of_ble_eq_true rfl) ?_
  refine lv_dup hex hbc dX4_init_53 rfl ?_
  refine g_init (mc := 41) (ms := 896) (rm := { frames := 2, cells := 41, slots := 896, locals := 35 }) (ws := (([(h, .inr (4, [.ref q1, .ref q6, .ref q12, .null, .null, .null, .null]))] ++ gl cx q1 q2 q3 q4 q5) ++ gg cx q6 q1 q7 q8 q9 q10 q11) ++ gs cx q12 q1 q6 q13 q14) (rest := [.ref q15, .ref h]) (wo := fun (u : Nat → Nat) => hw cx q15 u) (Ex := fun U => FV cx rw (NA q15 H.size) U ∧ va_AO "LoopSlicer$Loop" U ∧ va_Nw (.methodLinkNest RX1 17 yX2_init "LoopSlicer") U) [] q15 ⟨hex, hbc, hml, hown, hts⟩ (mX1_init l G cx rw H.size q15 ) (cwI 0 hts gX4_init_X1_init rfl rfl rfl (hts (.initialized RX1) (List.mem_of_getElem? (i := 18) rfl)) (hts (.methodLink RX4 36 yX1_init) (List.mem_of_getElem? (i := 59) rfl)) (hts (.instanceMethod yX1_init) (List.mem_of_getElem? (i := 60) rfl)) rfl (by decide +kernel) ⟨Nat.le_of_ble_eq_true rfl, Nat.le_of_ble_eq_true rfl⟩) hK hP hD hS hA (fun U hU hW hB => ⟨hF.to hS hU hW hB, va_AO.moved hW.alike hAO, va_Nw.warmM hW hN1⟩) (fun _ U _ _ h => ⟨h.1.blind, h.2.1, va_Nw.same (u := U) rfl rfl h.2.2⟩) rfl rfl hl.1 (Nat.le_of_ble_eq_true rfl) dX4_init_54 ⟨Nat.le_of_ble_eq_true rfl, Nat.le_of_ble_eq_true rfl⟩ (fun u H locs hP hD hS => ?_)
  obtain ⟨bH, rfl⟩ : ∃ z : Nat → Nat, z = u := ⟨_, rfl⟩
  have hP : va_P G vwCl (((([(h, .inr (4, [.ref q1, .ref q6, .ref q12, .null, .null, .null, .null]))] ++ gl cx q1 q2 q3 q4 q5) ++ gg cx q6 q1 q7 q8 q9 q10 q11) ++ gs cx q12 q1 q6 q13 q14) ++ hw cx q15 bH) H := hP
  have hD : va_D (NA h s.heap.size) (((([(h, .inr (4, [.ref q1, .ref q6, .ref q12, .null, .null, .null, .null]))] ++ gl cx q1 q2 q3 q4 q5) ++ gg cx q6 q1 q7 q8 q9 q10 q11) ++ gs cx q12 q1 q6 q13 q14) ++ hw cx q15 bH) := hD
  refine W.widen (k := 56) (n := 1697) (Nat.le_of_ble_eq_true rfl) (Nat.le_of_ble_eq_true rfl) ?_
  refine va_putF hex hbc hts hin4 tyX4 tyX4_ok nmX4 hown hK hP hD hS 0 rfl rfl 3 (by decide) (hts _ (List.mem_of_getElem? (i := 19) rfl)) (fun _ h => h) rfl hini rfl (tyX4_ok 3 (by decide)) rfl rfl (Nat.le_of_ble_eq_true rfl) dX4_init_57 (fun H locs hP hD hS => ?_)
  have hP : va_P G vwCl (((([(h, .inr (4, [.ref q1, .ref q6, .ref q12, .ref q15, .null, .null, .null]))] ++ gl cx q1 q2 q3 q4 q5) ++ gg cx q6 q1 q7 q8 q9 q10 q11) ++ gs cx q12 q1 q6 q13 q14) ++ hw cx q15 bH) H := hP
  have hD : va_D (NA h s.heap.size) (((([(h, .inr (4, [.ref q1, .ref q6, .ref q12, .ref q15, .null, .null, .null]))] ++ gl cx q1 q2 q3 q4 q5) ++ gg cx q6 q1 q7 q8 q9 q10 q11) ++ gs cx q12 q1 q6 q13 q14) ++ hw cx q15 bH) := hD
  refine lv_aload_n hex hbc dX4_init_60 rfl (lv_at hl 0 rfl) ?_
  refine lv_iconst (v := iI 2) hex hbc dX4_init_61 rfl ?_
  refine g_newr 3 hex hbc hown (hts _ (List.mem_of_getElem? (i := 4) rfl)) hAO hK rfl hP hD hS hA 2 ⟨by omega, rfl⟩ (Nat.le_of_ble_eq_true rfl) (Nat.le_of_ble_eq_true rfl) (Nat.le_of_ble_eq_true rfl) dX4_init_62 (fun q16 H hP hD hS => ?_)
  refine W.widen (k := 57) (n := 1699) (Nat.le_of_ble_eq_true rfl) (Nat.le_of_ble_eq_true rfl) ?_
  refine va_putF hex hbc hts hin4 tyX4 tyX4_ok nmX4 hown hK hP hD hS 0 rfl rfl 4 (by decide) (hts _ (List.mem_of_getElem? (i := 20) rfl)) (fun _ h => h) rfl hini rfl (tyX4_ok 4 (by decide)) rfl rfl (Nat.le_of_ble_eq_true rfl) dX4_init_65 (fun H locs hP hD hS => ?_)
  have hP : va_P G vwCl ((((([(h, .inr (4, [.ref q1, .ref q6, .ref q12, .ref q15, .ref q16, .null, .null]))] ++ gl cx q1 q2 q3 q4 q5) ++ gg cx q6 q1 q7 q8 q9 q10 q11) ++ gs cx q12 q1 q6 q13 q14) ++ hw cx q15 bH) ++ [(q16, .inl (cx 3, 2, .inr (.inr (.inr (.inr (rl []))))))]) H := hP
  have hD : va_D (NA h s.heap.size) ((((([(h, .inr (4, [.ref q1, .ref q6, .ref q12, .ref q15, .ref q16, .null, .null]))] ++ gl cx q1 q2 q3 q4 q5) ++ gg cx q6 q1 q7 q8 q9 q10 q11) ++ gs cx q12 q1 q6 q13 q14) ++ hw cx q15 bH) ++ [(q16, .inl (cx 3, 2, .inr (.inr (.inr (.inr (rl []))))))]) := hD
  refine lv_aload_n hex hbc dX4_init_68 rfl (lv_at hl 0 rfl) ?_
  refine lv_iconst (v := iI 2) hex hbc dX4_init_69 rfl ?_
  refine g_newa (atype := .boolean) (ty := .boolean) 2 hex hbc (hts _ (List.mem_of_getElem? (i := 21) rfl)) rfl hK rfl hP hD hS hA 2 (2, .inl (aI zI)) (zc_z _) ⟨by omega, rfl⟩ (Nat.le_of_ble_eq_true rfl) (Nat.le_of_ble_eq_true rfl) (Nat.le_of_ble_eq_true rfl) dX4_init_70 (fun q17 H hP hD hS => ?_)
  refine W.widen (k := 58) (n := 1701) (Nat.le_of_ble_eq_true rfl) (Nat.le_of_ble_eq_true rfl) ?_
  refine va_putF hex hbc hts hin4 tyX4 tyX4_ok nmX4 hown hK hP hD hS 0 rfl rfl 5 (by decide) (hts _ (List.mem_of_getElem? (i := 22) rfl)) (fun _ h => h) rfl hini rfl (tyX4_ok 5 (by decide)) rfl rfl (Nat.le_of_ble_eq_true rfl) dX4_init_72 (fun H locs hP hD hS => ?_)
  have hP : va_P G vwCl (((((([(h, .inr (4, [.ref q1, .ref q6, .ref q12, .ref q15, .ref q16, .ref q17, .null]))] ++ gl cx q1 q2 q3 q4 q5) ++ gg cx q6 q1 q7 q8 q9 q10 q11) ++ gs cx q12 q1 q6 q13 q14) ++ hw cx q15 bH) ++ [(q16, .inl (cx 3, 2, .inr (.inr (.inr (.inr (rl []))))))]) ++ [(q17, .inl (cx 2, 2, .inl (aI zI)))]) H := hP
  have hD : va_D (NA h s.heap.size) (((((([(h, .inr (4, [.ref q1, .ref q6, .ref q12, .ref q15, .ref q16, .ref q17, .null]))] ++ gl cx q1 q2 q3 q4 q5) ++ gg cx q6 q1 q7 q8 q9 q10 q11) ++ gs cx q12 q1 q6 q13 q14) ++ hw cx q15 bH) ++ [(q16, .inl (cx 3, 2, .inr (.inr (.inr (.inr (rl []))))))]) ++ [(q17, .inl (cx 2, 2, .inl (aI zI)))]) := hD
  refine lv_aload_n hex hbc dX4_init_75 rfl (lv_at hl 0 rfl) ?_
  refine lv_bipush (v := iI 16) hex hbc dX4_init_76 (by decide) ?_
  refine g_newa (atype := .int) (ty := .int) 0 hex hbc (hts _ (List.mem_of_getElem? (i := 23) rfl)) rfl hK rfl hP hD hS hA 16 (16, .inl (aI zI)) (zc_i _) ⟨by omega, rfl⟩ (Nat.le_of_ble_eq_true rfl) (Nat.le_of_ble_eq_true rfl) (Nat.le_of_ble_eq_true rfl) dX4_init_78 (fun q18 H hP hD hS => ?_)
  refine W.widen (k := 59) (n := 1717) (Nat.le_of_ble_eq_true rfl) (Nat.le_of_ble_eq_true rfl) ?_
  refine va_putF hex hbc hts hin4 tyX4 tyX4_ok nmX4 hown hK hP hD hS 0 rfl rfl 6 (by decide) (hts _ (List.mem_of_getElem? (i := 24) rfl)) (fun _ h => h) rfl hini rfl (tyX4_ok 6 (by decide)) rfl rfl (Nat.le_of_ble_eq_true rfl) dX4_init_80 (fun H locs hP hD hS => ?_)
  have hP : va_P G vwCl ((((((([(h, .inr (4, [.ref q1, .ref q6, .ref q12, .ref q15, .ref q16, .ref q17, .ref q18]))] ++ gl cx q1 q2 q3 q4 q5) ++ gg cx q6 q1 q7 q8 q9 q10 q11) ++ gs cx q12 q1 q6 q13 q14) ++ hw cx q15 bH) ++ [(q16, .inl (cx 3, 2, .inr (.inr (.inr (.inr (rl []))))))]) ++ [(q17, .inl (cx 2, 2, .inl (aI zI)))]) ++ [(q18, .inl (cx 0, 16, .inl (aI zI)))]) H := hP
  have hD : va_D (NA h s.heap.size) ((((((([(h, .inr (4, [.ref q1, .ref q6, .ref q12, .ref q15, .ref q16, .ref q17, .ref q18]))] ++ gl cx q1 q2 q3 q4 q5) ++ gg cx q6 q1 q7 q8 q9 q10 q11) ++ gs cx q12 q1 q6 q13 q14) ++ hw cx q15 bH) ++ [(q16, .inl (cx 3, 2, .inr (.inr (.inr (.inr (rl []))))))]) ++ [(q17, .inl (cx 2, 2, .inl (aI zI)))]) ++ [(q18, .inl (cx 0, 16, .inl (aI zI)))]) := hD
  refine lv_iconst (v := iI 0) hex hbc dX4_init_83 rfl ?_
  refine lv_istore_n (lv' := [(1, .int (iI 0)), (0, .ref h)]) hex hbc dX4_init_84 rfl hl (by decide) rfl (fun ls hl => ?_)
  refine lv_iload_n hex hbc dX4_init_85 rfl (lv_at hl 0 rfl) ?_
  refine lv_iconst (v := iI 2) hex hbc dX4_init_86 rfl ?_
  refine zt_icmp_ge (a := 0) (b := 2) (tgt := 109) hex hbc (by omega) dX4_init_87 (by decide) (fun h => absurd h (by omega)) (fun _ => ?_)
  refine lv_aload_n hex hbc dX4_init_90 rfl (lv_at hl 1 rfl) ?_
  refine va_get (v := .ref q16) hex hbc hts hin4 hown hK hP 0 rfl rfl 4 (by decide) (hts _ (List.mem_of_getElem? (i := 20) rfl)) (fun _ h => h) rfl dX4_init_91 ?_
  refine lv_iload_n hex hbc dX4_init_94 rfl (lv_at hl 0 rfl) ?_
  refine va_new (ci := 2) (fs := [.int 0, .int 0, .null, .null, .null, .null]) hex hbc hts hin2 tyX2 tyX2_ok hown (hts _ (List.mem_of_getElem? (i := 4) rfl)) (hts (.instantiable RX2 6) (List.mem_of_getElem? (i := 5) rfl)) (hts (.initialized RX2) (List.mem_of_getElem? (i := 6) rfl)) hK hP hD hS hA rfl (fun j hj => by rcases (show j = 0 ∨ j = 1 ∨ j = 2 ∨ j = 3 ∨ j = 4 ∨ j = 5 by omega) with rfl | rfl | rfl | rfl | rfl | rfl <;> rfl) (Nat.le_of_ble_eq_true rfl) (Nat.le_of_ble_eq_true rfl) dX4_init_95 (fun q19 H hP hD hS => ?_)
  refine W.widen (k := 60) (n := 1723) (Nat.le_of_ble_eq_true rfl) (Nat.le_of_ble_eq_true rfl) ?_
  refine lv_dup hex hbc dX4_init_98 rfl ?_
  refine g_initN (mc := 4) (ms := 105) (rm := { frames := 1, cells := 4, slots := 105, locals := 15 }) (ws := (((((([(h, .inr (4, [.ref q1, .ref q6, .ref q12, .ref q15, .ref q16, .ref q17, .ref q18]))] ++ gl cx q1 q2 q3 q4 q5) ++ gg cx q6 q1 q7 q8 q9 q10 q11) ++ gs cx q12 q1 q6 q13 q14) ++ hw cx q15 bH) ++ [(q16, .inl (cx 3, 2, .inr (.inr (.inr (.inr (rl []))))))]) ++ [(q17, .inl (cx 2, 2, .inl (aI zI)))]) ++ [(q18, .inl (cx 0, 16, .inl (aI zI)))]) (rest := [.ref q19, .int (iI 0), .ref q16]) (wo := fun (u : Nat × Nat × Nat × Nat) => gl cx q19 u.1 u.2.1 u.2.2.1 u.2.2.2) (Ex := FV cx rw (NA q19 H.size)) [] q19 ⟨hex, hbc, hml, hown, hts⟩ (mX2_init l G cx rw H.size q19 ) ⟨va_cnB 0 hts gX4_init_X2_init_n9 rfl rfl rfl hNe (hts (.initialized RX2) (List.mem_of_getElem? (i := 6) rfl)) (by decide +kernel) ⟨Nat.le_of_ble_eq_true rfl, Nat.le_of_ble_eq_true rfl⟩, rfl, (hts (.instanceMethod yX2_init) (List.mem_of_getElem? (i := 25) rfl))⟩ hK hP hD hS hA (fun U hU hW hB => hF.to hS hU hW hB) (fun _ U _ _ h => h.blind) rfl rfl hl.1 (Nat.le_of_ble_eq_true rfl) dX4_init_99 ⟨Nat.le_of_ble_eq_true rfl, Nat.le_of_ble_eq_true rfl⟩ (fun u H locs hP hD hS => ?_)
  obtain ⟨q20, q21, q22, q23⟩ := u
  have hP : va_P G vwCl (((((((([(h, .inr (4, [.ref q1, .ref q6, .ref q12, .ref q15, .ref q16, .ref q17, .ref q18]))] ++ gl cx q1 q2 q3 q4 q5) ++ gg cx q6 q1 q7 q8 q9 q10 q11) ++ gs cx q12 q1 q6 q13 q14) ++ hw cx q15 bH) ++ [(q16, .inl (cx 3, 2, .inr (.inr (.inr (.inr (rl []))))))]) ++ [(q17, .inl (cx 2, 2, .inl (aI zI)))]) ++ [(q18, .inl (cx 0, 16, .inl (aI zI)))]) ++ gl cx q19 q20 q21 q22 q23) H := hP
  have hD : va_D (NA h s.heap.size) (((((((([(h, .inr (4, [.ref q1, .ref q6, .ref q12, .ref q15, .ref q16, .ref q17, .ref q18]))] ++ gl cx q1 q2 q3 q4 q5) ++ gg cx q6 q1 q7 q8 q9 q10 q11) ++ gs cx q12 q1 q6 q13 q14) ++ hw cx q15 bH) ++ [(q16, .inl (cx 3, 2, .inr (.inr (.inr (.inr (rl []))))))]) ++ [(q17, .inl (cx 2, 2, .inl (aI zI)))]) ++ [(q18, .inl (cx 0, 16, .inl (aI zI)))]) ++ gl cx q19 q20 q21 q22 q23) := hD
  refine W.widen (k := 64) (n := 1828) (Nat.le_of_ble_eq_true rfl) (Nat.le_of_ble_eq_true rfl) ?_
  refine g_astr hex hbc hK hP hD hS 57 3 60 2 (L := []) rfl rfl rfl rfl rfl ⟨Nat.le_of_ble_eq_true rfl, by omega⟩ dX4_init_102 (fun H locs hP hD hS => ?_)
  have hP : va_P G vwCl (((((((([(h, .inr (4, [.ref q1, .ref q6, .ref q12, .ref q15, .ref q16, .ref q17, .ref q18]))] ++ gl cx q1 q2 q3 q4 q5) ++ gg cx q6 q1 q7 q8 q9 q10 q11) ++ gs cx q12 q1 q6 q13 q14) ++ hw cx q15 bH) ++ [(q16, .inl (cx 3, 2, .inr (.inr (.inr (.inr (rl [q19]))))))]) ++ [(q17, .inl (cx 2, 2, .inl (aI zI)))]) ++ [(q18, .inl (cx 0, 16, .inl (aI zI)))]) ++ gl cx q19 q20 q21 q22 q23) H := hP
  have hD : va_D (NA h s.heap.size) (((((((([(h, .inr (4, [.ref q1, .ref q6, .ref q12, .ref q15, .ref q16, .ref q17, .ref q18]))] ++ gl cx q1 q2 q3 q4 q5) ++ gg cx q6 q1 q7 q8 q9 q10 q11) ++ gs cx q12 q1 q6 q13 q14) ++ hw cx q15 bH) ++ [(q16, .inl (cx 3, 2, .inr (.inr (.inr (.inr (rl [q19]))))))]) ++ [(q17, .inl (cx 2, 2, .inl (aI zI)))]) ++ [(q18, .inl (cx 0, 16, .inl (aI zI)))]) ++ gl cx q19 q20 q21 q22 q23) := hD
  refine lv_iinc (v := iI 1) (lv' := [(1, .int (iI 1)), (0, .ref h)]) hex hbc dX4_init_103 hl (k := 0) rfl rfl (by decide) rfl (fun ls hl => ?_)
  refine lv_goto (tgt := 85) hex hbc dX4_init_106 (by decide) ?_
  refine lv_iload_n hex hbc dX4_init_85 rfl (lv_at hl 0 rfl) ?_
  refine lv_iconst (v := iI 2) hex hbc dX4_init_86 rfl ?_
  refine zt_icmp_ge (a := 1) (b := 2) (tgt := 109) hex hbc (by omega) dX4_init_87 (by decide) (fun h => absurd h (by omega)) (fun _ => ?_)
  refine lv_aload_n hex hbc dX4_init_90 rfl (lv_at hl 1 rfl) ?_
  refine va_get (v := .ref q16) hex hbc hts hin4 hown hK hP 0 rfl rfl 4 (by decide) (hts _ (List.mem_of_getElem? (i := 20) rfl)) (fun _ h => h) rfl dX4_init_91 ?_
  refine lv_iload_n hex hbc dX4_init_94 rfl (lv_at hl 0 rfl) ?_
  refine va_new (ci := 2) (fs := [.int 0, .int 0, .null, .null, .null, .null]) hex hbc hts hin2 tyX2 tyX2_ok hown (hts _ (List.mem_of_getElem? (i := 4) rfl)) (hts (.instantiable RX2 6) (List.mem_of_getElem? (i := 5) rfl)) (hts (.initialized RX2) (List.mem_of_getElem? (i := 6) rfl)) hK hP hD hS hA rfl (fun j hj => by rcases (show j = 0 ∨ j = 1 ∨ j = 2 ∨ j = 3 ∨ j = 4 ∨ j = 5 by omega) with rfl | rfl | rfl | rfl | rfl | rfl <;> rfl) (Nat.le_of_ble_eq_true rfl) (Nat.le_of_ble_eq_true rfl) dX4_init_95 (fun q24 H hP hD hS => ?_)
  refine W.widen (k := 65) (n := 1834) (Nat.le_of_ble_eq_true rfl) (Nat.le_of_ble_eq_true rfl) ?_
  refine lv_dup hex hbc dX4_init_98 rfl ?_
  refine g_initN (mc := 4) (ms := 105) (rm := { frames := 1, cells := 4, slots := 105, locals := 15 }) (ws := ((((((([(h, .inr (4, [.ref q1, .ref q6, .ref q12, .ref q15, .ref q16, .ref q17, .ref q18]))] ++ gl cx q1 q2 q3 q4 q5) ++ gg cx q6 q1 q7 q8 q9 q10 q11) ++ gs cx q12 q1 q6 q13 q14) ++ hw cx q15 bH) ++ [(q16, .inl (cx 3, 2, .inr (.inr (.inr (.inr (rl [q19]))))))]) ++ [(q17, .inl (cx 2, 2, .inl (aI zI)))]) ++ [(q18, .inl (cx 0, 16, .inl (aI zI)))]) ++ gl cx q19 q20 q21 q22 q23) (rest := [.ref q24, .int (iI 1), .ref q16]) (wo := fun (u : Nat × Nat × Nat × Nat) => gl cx q24 u.1 u.2.1 u.2.2.1 u.2.2.2) (Ex := FV cx rw (NA q24 H.size)) [] q24 ⟨hex, hbc, hml, hown, hts⟩ (mX2_init l G cx rw H.size q24 ) ⟨va_cnB 0 hts gX4_init_X2_init_n9 rfl rfl rfl hNe (hts (.initialized RX2) (List.mem_of_getElem? (i := 6) rfl)) (by decide +kernel) ⟨Nat.le_of_ble_eq_true rfl, Nat.le_of_ble_eq_true rfl⟩, rfl, (hts (.instanceMethod yX2_init) (List.mem_of_getElem? (i := 25) rfl))⟩ hK hP hD hS hA (fun U hU hW hB => hF.to hS hU hW hB) (fun _ U _ _ h => h.blind) rfl rfl hl.1 (Nat.le_of_ble_eq_true rfl) dX4_init_99 ⟨Nat.le_of_ble_eq_true rfl, Nat.le_of_ble_eq_true rfl⟩ (fun u H locs hP hD hS => ?_)
  obtain ⟨q25, q26, q27, q28⟩ := u
  have hP : va_P G vwCl ((((((((([(h, .inr (4, [.ref q1, .ref q6, .ref q12, .ref q15, .ref q16, .ref q17, .ref q18]))] ++ gl cx q1 q2 q3 q4 q5) ++ gg cx q6 q1 q7 q8 q9 q10 q11) ++ gs cx q12 q1 q6 q13 q14) ++ hw cx q15 bH) ++ [(q16, .inl (cx 3, 2, .inr (.inr (.inr (.inr (rl [q19]))))))]) ++ [(q17, .inl (cx 2, 2, .inl (aI zI)))]) ++ [(q18, .inl (cx 0, 16, .inl (aI zI)))]) ++ gl cx q19 q20 q21 q22 q23) ++ gl cx q24 q25 q26 q27 q28) H := hP
  have hD : va_D (NA h s.heap.size) ((((((((([(h, .inr (4, [.ref q1, .ref q6, .ref q12, .ref q15, .ref q16, .ref q17, .ref q18]))] ++ gl cx q1 q2 q3 q4 q5) ++ gg cx q6 q1 q7 q8 q9 q10 q11) ++ gs cx q12 q1 q6 q13 q14) ++ hw cx q15 bH) ++ [(q16, .inl (cx 3, 2, .inr (.inr (.inr (.inr (rl [q19]))))))]) ++ [(q17, .inl (cx 2, 2, .inl (aI zI)))]) ++ [(q18, .inl (cx 0, 16, .inl (aI zI)))]) ++ gl cx q19 q20 q21 q22 q23) ++ gl cx q24 q25 q26 q27 q28) := hD
  refine W.widen (k := 69) (n := 1939) (Nat.le_of_ble_eq_true rfl) (Nat.le_of_ble_eq_true rfl) ?_
  refine g_astr hex hbc hK hP hD hS 57 3 65 2 (L := [q19]) rfl rfl rfl rfl rfl ⟨Nat.le_of_ble_eq_true rfl, by omega⟩ dX4_init_102 (fun H locs hP hD hS => ?_)
  have hP : va_P G vwCl ((((((((([(h, .inr (4, [.ref q1, .ref q6, .ref q12, .ref q15, .ref q16, .ref q17, .ref q18]))] ++ gl cx q1 q2 q3 q4 q5) ++ gg cx q6 q1 q7 q8 q9 q10 q11) ++ gs cx q12 q1 q6 q13 q14) ++ hw cx q15 bH) ++ [(q16, .inl (cx 3, 2, .inr (.inr (.inr (.inr (rl [q19, q24]))))))]) ++ [(q17, .inl (cx 2, 2, .inl (aI zI)))]) ++ [(q18, .inl (cx 0, 16, .inl (aI zI)))]) ++ gl cx q19 q20 q21 q22 q23) ++ gl cx q24 q25 q26 q27 q28) H := hP
  have hD : va_D (NA h s.heap.size) ((((((((([(h, .inr (4, [.ref q1, .ref q6, .ref q12, .ref q15, .ref q16, .ref q17, .ref q18]))] ++ gl cx q1 q2 q3 q4 q5) ++ gg cx q6 q1 q7 q8 q9 q10 q11) ++ gs cx q12 q1 q6 q13 q14) ++ hw cx q15 bH) ++ [(q16, .inl (cx 3, 2, .inr (.inr (.inr (.inr (rl [q19, q24]))))))]) ++ [(q17, .inl (cx 2, 2, .inl (aI zI)))]) ++ [(q18, .inl (cx 0, 16, .inl (aI zI)))]) ++ gl cx q19 q20 q21 q22 q23) ++ gl cx q24 q25 q26 q27 q28) := hD
  refine lv_iinc (v := iI 2) (lv' := [(1, .int (iI 2)), (0, .ref h)]) hex hbc dX4_init_103 hl (k := 0) rfl rfl (by decide) rfl (fun ls hl => ?_)
  refine lv_goto (tgt := 85) hex hbc dX4_init_106 (by decide) ?_
  refine lv_iload_n hex hbc dX4_init_85 rfl (lv_at hl 0 rfl) ?_
  refine lv_iconst (v := iI 2) hex hbc dX4_init_86 rfl ?_
  refine zt_icmp_ge (a := 2) (b := 2) (tgt := 109) hex hbc (by omega) dX4_init_87 (by decide) (fun _ => ?_) (fun h => absurd h (by omega))
  obtain ⟨hP, hD⟩ := x4_conv cx h bH q1 q2 q3 q4 q5 q6 q7 q8 q9 q10 q11 q12 q13 q14 q15 q16 q17 q18 q19 q20 q21 q22 q23 q24 q25 q26 q27 q28 hP hD
  exact W.vret hex hbc hrt (fun t ht hW => ⟨⟨x4a bH q1 q2 q3 q4 q5 q6 q7 q8 q9 q10 q11 q12 q13 q14 q15 q16 q17 q18 q19 q20 q21 q22 q23 q24 q25 q26 q27 q28, rfl, trivial, by rw [ht]; exact hP, hD⟩, hS.F ht⟩) hS.2.2 dX4_init_109 hlocks
