/-! the constructor of the history (rows laid by wip/gen/ctor2.py) -/
def hw (cx : Nat → Nat) (h : Nat) (b : Nat → Nat) : va_W := ((((((([(h, .inr (1, [.ref (b 40), .int 0, .int 0])), (b 40, .inl (cx 3, 8, .inr (.inr (.inr (.inr (rl [b 0, b 5, b 10, b 15, b 20, b 25, b 30, b 35]))))))] ++ gl cx (b 0) (b 1) (b 2) (b 3) (b 4)) ++ gl cx (b 5) (b 6) (b 7) (b 8) (b 9)) ++ gl cx (b 10) (b 11) (b 12) (b 13) (b 14)) ++ gl cx (b 15) (b 16) (b 17) (b 18) (b 19)) ++ gl cx (b 20) (b 21) (b 22) (b 23) (b 24)) ++ gl cx (b 25) (b 26) (b 27) (b 28) (b 29)) ++ gl cx (b 30) (b 31) (b 32) (b 33) (b 34)) ++ gl cx (b 35) (b 36) (b 37) (b 38) (b 39)
theorem iX1_init_X1 : ∀ w ∈ wsX10, w ∈ wsX1_init := fun _ h => List.mem_cons_of_mem _ (List.mem_append_left _ (List.mem_append_right _ h))
theorem iX1_init_X2 : ∀ w ∈ wsX20, w ∈ wsX1_init := fun _ h => List.mem_cons_of_mem _ (List.mem_append_right _ h)
set_option maxHeartbeats 400000 in
set_option maxRecDepth 100000 in
theorem mX1_init (l : Launch) (G : va_G) (cx : Nat → Nat) (rw : Nat) (sz : Nat) (h : Nat) : Met l yX1_init wsX1_init ({ frames := 2, cells := 41, slots := 896, locals := 35 }) (va_Pc [.ref h] (fun U => U.heap.size = sz ∧ va_P G vwCl [(h, .inr (1, [.null, .int 0, .int 0]))] U.heap ∧ va_K G vwCl (tx cx) U ∧ (fun U => FV cx rw (NA h sz) U ∧ va_AO "LoopSlicer$Loop" U ∧ va_Nw (.methodLinkNest RX1 17 yX2_init "LoopSlicer") U) U)) (va_Qv (fun (_ : Nat → Nat) => True) (fun u t => va_P G vwCl ((fun (u : Nat → Nat) => hw cx h u) u) t.heap ∧ va_D (NA h sz) ((fun (u : Nat → Nat) => hw cx h u) u)) (NA h sz)) 41 896 (NA h sz) := by
  refine Met.ofW (cc := cX1_init) (maxL := 2) (ret := none) (by decide) rfl ?_
  intro p e s m args below meth c s₁ B hml hv
  obtain ⟨rfl, hsz, hP, hK, hF, hAO, hNe⟩ := hv
  have hex := B.exec
  have hbc := B.bytes
  have hrt := B.returns
  have hts := atoms_spec (ws := wsX1_init) B.pre
  have hown : s.vm.findClass RX1 = some m.cls := findClass_of_methodNamed B.named
  have hlocks := B.notSynchronized
  have hini : meth.name = "<init>" := (name_of_methodNamed B.named B.method).1
  subst hsz
  have hD : va_D (NA h s.heap.size) [(h, .inr (1, [.null, .int 0, .int 0]))] := NA_one
  have hA : ∀ q : Nat, s.heap.size ≤ q → NA h s.heap.size q := fun q z => Or.inr z
  have hS : va_S (NA h s.heap.size) s.heap s.heap [] := va_S.rf
  have hin1 := iX1_init_X1
  have hin2 := iX1_init_X2
  have hl := lv_entry ([.ref h]) (n := 2) (Nat.le_of_ble_eq_true rfl)
  rw [lg_entry_eq]
  generalize (lg_sl ([.ref h]) ++ List.replicate (2 - (lg_sl ([.ref h])).length) Slot.unset).toArray = ls at hl ⊢
  have hl : lv_has ls 2 [(0, .ref h)] := hl
  refine lv_aload_n hex hbc dX1_init_0 rfl (lv_at hl 0 rfl) ?_
  refine W.objInit hex hbc hown (hts _ (List.mem_of_getElem? (i := 1) rfl)) (hts _ (List.mem_of_getElem? (i := 2) rfl)) (hts _ (List.mem_of_getElem? (i := 3) rfl)) rfl (by rw [hml]; exact hl.1) rfl dX1_init_1 (Nat.le_of_ble_eq_true rfl) (Nat.le_of_ble_eq_true rfl) ?_
  refine W.eq (g2 := F0 m 4 ls []) rfl ?_
  refine lv_aload_n hex hbc dX1_init_4 rfl (lv_at hl 0 rfl) ?_
  refine lv_bipush (v := iI 8) hex hbc dX1_init_5 (by decide) ?_
  refine g_newr 3 hex hbc hown (hts _ (List.mem_of_getElem? (i := 4) rfl)) hAO hK rfl hP hD hS hA 8 ⟨by omega, rfl⟩ (Nat.le_of_ble_eq_true rfl) (Nat.le_of_ble_eq_true rfl) (Nat.le_of_ble_eq_true rfl) dX1_init_7 (fun q1 H hP hD hS => ?_)
  refine W.widen (k := 1) (n := 8) (Nat.le_of_ble_eq_true rfl) (Nat.le_of_ble_eq_true rfl) ?_
  refine va_putF hex hbc hts hin1 tyX1 tyX1_ok nmX1 hown hK hP hD hS 0 rfl rfl 0 (by decide) (hts _ (List.mem_of_getElem? (i := 5) rfl)) (fun _ h => h) rfl hini rfl (tyX1_ok 0 (by decide)) rfl rfl (Nat.le_of_ble_eq_true rfl) dX1_init_10 (fun H locs hP hD hS => ?_)
  have hP : va_P G vwCl ([(h, .inr (1, [.ref q1, .int 0, .int 0]))] ++ [(q1, .inl (cx 3, 8, .inr (.inr (.inr (.inr (rl []))))))]) H := hP
  have hD : va_D (NA h s.heap.size) ([(h, .inr (1, [.ref q1, .int 0, .int 0]))] ++ [(q1, .inl (cx 3, 8, .inr (.inr (.inr (.inr (rl []))))))]) := hD
  refine lv_iconst (v := iI 0) hex hbc dX1_init_13 rfl ?_
  refine lv_istore_n (lv' := [(1, .int (iI 0)), (0, .ref h)]) hex hbc dX1_init_14 rfl hl (by decide) rfl (fun ls hl => ?_)
  refine lv_iload_n hex hbc dX1_init_15 rfl (lv_at hl 0 rfl) ?_
  refine lv_bipush (v := iI 8) hex hbc dX1_init_16 (by decide) ?_
  refine zt_icmp_ge (a := 0) (b := 8) (tgt := 40) hex hbc (by omega) dX1_init_18 (by decide) (fun h => absurd h (by omega)) (fun _ => ?_)
  refine lv_aload_n hex hbc dX1_init_21 rfl (lv_at hl 1 rfl) ?_
  refine va_get (v := .ref q1) hex hbc hts hin1 hown hK hP 0 rfl rfl 0 (by decide) (hts _ (List.mem_of_getElem? (i := 5) rfl)) (fun _ h => h) rfl dX1_init_22 ?_
  refine lv_iload_n hex hbc dX1_init_25 rfl (lv_at hl 0 rfl) ?_
  refine va_new (ci := 2) (fs := [.int 0, .int 0, .null, .null, .null, .null]) hex hbc hts hin2 tyX2 tyX2_ok hown (hts _ (List.mem_of_getElem? (i := 4) rfl)) (hts (.instantiable RX2 6) (List.mem_of_getElem? (i := 6) rfl)) (hts (.initialized RX2) (List.mem_of_getElem? (i := 7) rfl)) hK hP hD hS hA rfl (fun j hj => by rcases (show j = 0 ∨ j = 1 ∨ j = 2 ∨ j = 3 ∨ j = 4 ∨ j = 5 by omega) with rfl | rfl | rfl | rfl | rfl | rfl <;> rfl) (Nat.le_of_ble_eq_true rfl) (Nat.le_of_ble_eq_true rfl) dX1_init_26 (fun q2 H hP hD hS => ?_)
  refine W.widen (k := 2) (n := 14) (Nat.le_of_ble_eq_true rfl) (Nat.le_of_ble_eq_true rfl) ?_
  refine lv_dup hex hbc dX1_init_29 rfl ?_
  refine g_initN (mc := 4) (ms := 105) (rm := { frames := 1, cells := 4, slots := 105, locals := 15 }) (ws := [(h, .inr (1, [.ref q1, .int 0, .int 0]))] ++ [(q1, .inl (cx 3, 8, .inr (.inr (.inr (.inr (rl []))))))]) (rest := [.ref q2, .int (iI 0), .ref q1]) (wo := fun (u : Nat × Nat × Nat × Nat) => gl cx q2 u.1 u.2.1 u.2.2.1 u.2.2.2) (Ex := FV cx rw (NA q2 H.size)) [] q2 ⟨hex, hbc, hml, hown, hts⟩ (mX2_init l G cx rw H.size q2 ) ⟨va_cnB 0 hts gX1_init_X2_init_n17 rfl rfl rfl hNe (hts (.initialized RX2) (List.mem_of_getElem? (i := 7) rfl)) (by decide +kernel) ⟨Nat.le_of_ble_eq_true rfl, Nat.le_of_ble_eq_true rfl⟩, rfl, (hts (.instanceMethod yX2_init) (List.mem_of_getElem? (i := 8) rfl))⟩ hK hP hD hS hA (fun U hU hW hB => hF.to hS hU hW hB) (fun _ U _ _ h => h.blind) rfl rfl hl.1 (Nat.le_of_ble_eq_true rfl) dX1_init_30 ⟨Nat.le_of_ble_eq_true rfl, Nat.le_of_ble_eq_true rfl⟩ (fun u H locs hP hD hS => ?_)
  obtain ⟨q3, q4, q5, q6⟩ := u
  have hP : va_P G vwCl (([(h, .inr (1, [.ref q1, .int 0, .int 0]))] ++ [(q1, .inl (cx 3, 8, .inr (.inr (.inr (.inr (rl []))))))]) ++ gl cx q2 q3 q4 q5 q6) H := hP
  have hD : va_D (NA h s.heap.size) (([(h, .inr (1, [.ref q1, .int 0, .int 0]))] ++ [(q1, .inl (cx 3, 8, .inr (.inr (.inr (.inr (rl []))))))]) ++ gl cx q2 q3 q4 q5 q6) := hD
  refine W.widen (k := 6) (n := 119) (Nat.le_of_ble_eq_true rfl) (Nat.le_of_ble_eq_true rfl) ?_
  refine g_astr hex hbc hK hP hD hS 1 3 2 2 (L := []) rfl rfl rfl rfl rfl ⟨Nat.le_of_ble_eq_true rfl, by omega⟩ dX1_init_33 (fun H locs hP hD hS => ?_)
  have hP : va_P G vwCl (([(h, .inr (1, [.ref q1, .int 0, .int 0]))] ++ [(q1, .inl (cx 3, 8, .inr (.inr (.inr (.inr (rl [q2]))))))]) ++ gl cx q2 q3 q4 q5 q6) H := hP
  have hD : va_D (NA h s.heap.size) (([(h, .inr (1, [.ref q1, .int 0, .int 0]))] ++ [(q1, .inl (cx 3, 8, .inr (.inr (.inr (.inr (rl [q2]))))))]) ++ gl cx q2 q3 q4 q5 q6) := hD
  refine lv_iinc (v := iI 1) (lv' := [(1, .int (iI 1)), (0, .ref h)]) hex hbc dX1_init_34 hl (k := 0) rfl rfl (by decide) rfl (fun ls hl => ?_)
  refine lv_goto (tgt := 15) hex hbc dX1_init_37 (by decide) ?_
  refine lv_iload_n hex hbc dX1_init_15 rfl (lv_at hl 0 rfl) ?_
  refine lv_bipush (v := iI 8) hex hbc dX1_init_16 (by decide) ?_
  refine zt_icmp_ge (a := 1) (b := 8) (tgt := 40) hex hbc (by omega) dX1_init_18 (by decide) (fun h => absurd h (by omega)) (fun _ => ?_)
  refine lv_aload_n hex hbc dX1_init_21 rfl (lv_at hl 1 rfl) ?_
  refine va_get (v := .ref q1) hex hbc hts hin1 hown hK hP 0 rfl rfl 0 (by decide) (hts _ (List.mem_of_getElem? (i := 5) rfl)) (fun _ h => h) rfl dX1_init_22 ?_
  refine lv_iload_n hex hbc dX1_init_25 rfl (lv_at hl 0 rfl) ?_
  refine va_new (ci := 2) (fs := [.int 0, .int 0, .null, .null, .null, .null]) hex hbc hts hin2 tyX2 tyX2_ok hown (hts _ (List.mem_of_getElem? (i := 4) rfl)) (hts (.instantiable RX2 6) (List.mem_of_getElem? (i := 6) rfl)) (hts (.initialized RX2) (List.mem_of_getElem? (i := 7) rfl)) hK hP hD hS hA rfl (fun j hj => by rcases (show j = 0 ∨ j = 1 ∨ j = 2 ∨ j = 3 ∨ j = 4 ∨ j = 5 by omega) with rfl | rfl | rfl | rfl | rfl | rfl <;> rfl) (Nat.le_of_ble_eq_true rfl) (Nat.le_of_ble_eq_true rfl) dX1_init_26 (fun q7 H hP hD hS => ?_)
  refine W.widen (k := 7) (n := 125) (Nat.le_of_ble_eq_true rfl) (Nat.le_of_ble_eq_true rfl) ?_
  refine lv_dup hex hbc dX1_init_29 rfl ?_
  refine g_initN (mc := 4) (ms := 105) (rm := { frames := 1, cells := 4, slots := 105, locals := 15 }) (ws := ([(h, .inr (1, [.ref q1, .int 0, .int 0]))] ++ [(q1, .inl (cx 3, 8, .inr (.inr (.inr (.inr (rl [q2]))))))]) ++ gl cx q2 q3 q4 q5 q6) (rest := [.ref q7, .int (iI 1), .ref q1]) (wo := fun (u : Nat × Nat × Nat × Nat) => gl cx q7 u.1 u.2.1 u.2.2.1 u.2.2.2) (Ex := FV cx rw (NA q7 H.size)) [] q7 ⟨hex, hbc, hml, hown, hts⟩ (mX2_init l G cx rw H.size q7 ) ⟨va_cnB 0 hts gX1_init_X2_init_n17 rfl rfl rfl hNe (hts (.initialized RX2) (List.mem_of_getElem? (i := 7) rfl)) (by decide +kernel) ⟨Nat.le_of_ble_eq_true rfl, Nat.le_of_ble_eq_true rfl⟩, rfl, (hts (.instanceMethod yX2_init) (List.mem_of_getElem? (i := 8) rfl))⟩ hK hP hD hS hA (fun U hU hW hB => hF.to hS hU hW hB) (fun _ U _ _ h => h.blind) rfl rfl hl.1 (Nat.le_of_ble_eq_true rfl) dX1_init_30 ⟨Nat.le_of_ble_eq_true rfl, Nat.le_of_ble_eq_true rfl⟩ (fun u H locs hP hD hS => ?_)
  obtain ⟨q8, q9, q10, q11⟩ := u
  have hP : va_P G vwCl ((([(h, .inr (1, [.ref q1, .int 0, .int 0]))] ++ [(q1, .inl (cx 3, 8, .inr (.inr (.inr (.inr (rl [q2]))))))]) ++ gl cx q2 q3 q4 q5 q6) ++ gl cx q7 q8 q9 q10 q11) H := hP
  have hD : va_D (NA h s.heap.size) ((([(h, .inr (1, [.ref q1, .int 0, .int 0]))] ++ [(q1, .inl (cx 3, 8, .inr (.inr (.inr (.inr (rl [q2]))))))]) ++ gl cx q2 q3 q4 q5 q6) ++ gl cx q7 q8 q9 q10 q11) := hD
  refine W.widen (k := 11) (n := 230) (Nat.le_of_ble_eq_true rfl) (Nat.le_of_ble_eq_true rfl) ?_
  refine g_astr hex hbc hK hP hD hS 1 3 7 2 (L := [q2]) rfl rfl rfl rfl rfl ⟨Nat.le_of_ble_eq_true rfl, by omega⟩ dX1_init_33 (fun H locs hP hD hS => ?_)
  have hP : va_P G vwCl ((([(h, .inr (1, [.ref q1, .int 0, .int 0]))] ++ [(q1, .inl (cx 3, 8, .inr (.inr (.inr (.inr (rl [q2, q7]))))))]) ++ gl cx q2 q3 q4 q5 q6) ++ gl cx q7 q8 q9 q10 q11) H := hP
  have hD : va_D (NA h s.heap.size) ((([(h, .inr (1, [.ref q1, .int 0, .int 0]))] ++ [(q1, .inl (cx 3, 8, .inr (.inr (.inr (.inr (rl [q2, q7]))))))]) ++ gl cx q2 q3 q4 q5 q6) ++ gl cx q7 q8 q9 q10 q11) := hD
  refine lv_iinc (v := iI 2) (lv' := [(1, .int (iI 2)), (0, .ref h)]) hex hbc dX1_init_34 hl (k := 0) rfl rfl (by decide) rfl (fun ls hl => ?_)
  refine lv_goto (tgt := 15) hex hbc dX1_init_37 (by decide) ?_
  refine lv_iload_n hex hbc dX1_init_15 rfl (lv_at hl 0 rfl) ?_
  refine lv_bipush (v := iI 8) hex hbc dX1_init_16 (by decide) ?_
  refine zt_icmp_ge (a := 2) (b := 8) (tgt := 40) hex hbc (by omega) dX1_init_18 (by decide) (fun h => absurd h (by omega)) (fun _ => ?_)
  refine lv_aload_n hex hbc dX1_init_21 rfl (lv_at hl 1 rfl) ?_
  refine va_get (v := .ref q1) hex hbc hts hin1 hown hK hP 0 rfl rfl 0 (by decide) (hts _ (List.mem_of_getElem? (i := 5) rfl)) (fun _ h => h) rfl dX1_init_22 ?_
  refine lv_iload_n hex hbc dX1_init_25 rfl (lv_at hl 0 rfl) ?_
  refine va_new (ci := 2) (fs := [.int 0, .int 0, .null, .null, .null, .null]) hex hbc hts hin2 tyX2 tyX2_ok hown (hts _ (List.mem_of_getElem? (i := 4) rfl)) (hts (.instantiable RX2 6) (List.mem_of_getElem? (i := 6) rfl)) (hts (.initialized RX2) (List.mem_of_getElem? (i := 7) rfl)) hK hP hD hS hA rfl (fun j hj => by rcases (show j = 0 ∨ j = 1 ∨ j = 2 ∨ j = 3 ∨ j = 4 ∨ j = 5 by omega) with rfl | rfl | rfl | rfl | rfl | rfl <;> rfl) (Nat.le_of_ble_eq_true rfl) (Nat.le_of_ble_eq_true rfl) dX1_init_26 (fun q12 H hP hD hS => ?_)
  refine W.widen (k := 12) (n := 236) (Nat.le_of_ble_eq_true rfl) (Nat.le_of_ble_eq_true rfl) ?_
  refine lv_dup hex hbc dX1_init_29 rfl ?_
  refine g_initN (mc := 4) (ms := 105) (rm := { frames := 1, cells := 4, slots := 105, locals := 15 }) (ws := (([(h, .inr (1, [.ref q1, .int 0, .int 0]))] ++ [(q1, .inl (cx 3, 8, .inr (.inr (.inr (.inr (rl [q2, q7]))))))]) ++ gl cx q2 q3 q4 q5 q6) ++ gl cx q7 q8 q9 q10 q11) (rest := [.ref q12, .int (iI 2), .ref q1]) (wo := fun (u : Nat × Nat × Nat × Nat) => gl cx q12 u.1 u.2.1 u.2.2.1 u.2.2.2) (Ex := FV cx rw (NA q12 H.size)) [] q12 ⟨hex, hbc, hml, hown, hts⟩ (mX2_init l G cx rw H.size q12 ) ⟨va_cnB 0 hts gX1_init_X2_init_n17 rfl rfl rfl hNe (hts (.initialized RX2) (List.mem_of_getElem? (i := 7) rfl)) (by decide +kernel) ⟨Nat.le_of_ble_eq_true rfl, Nat.le_of_ble_eq_true rfl⟩, rfl, (hts (.instanceMethod yX2_init) (List.mem_of_getElem? (i := 8) rfl))⟩ hK hP hD hS hA (fun U hU hW hB => hF.to hS hU hW hB) (fun _ U _ _ h => h.blind) rfl rfl hl.1 (Nat.le_of_ble_eq_true rfl) dX1_init_30 ⟨Nat.le_of_ble_eq_true rfl, Nat.le_of_ble_eq_true rfl⟩ (fun u H locs hP hD hS => ?_)
  obtain ⟨q13, q14, q15, q16⟩ := u
  have hP : va_P G vwCl (((([(h, .inr (1, [.ref q1, .int 0, .int 0]))] ++ [(q1, .inl (cx 3, 8, .inr (.inr (.inr (.inr (rl [q2, q7]))))))]) ++ gl cx q2 q3 q4 q5 q6) ++ gl cx q7 q8 q9 q10 q11) ++ gl cx q12 q13 q14 q15 q16) H := hP
  have hD : va_D (NA h s.heap.size) (((([(h, .inr (1, [.ref q1, .int 0, .int 0]))] ++ [(q1, .inl (cx 3, 8, .inr (.inr (.inr (.inr (rl [q2, q7]))))))]) ++ gl cx q2 q3 q4 q5 q6) ++ gl cx q7 q8 q9 q10 q11) ++ gl cx q12 q13 q14 q15 q16) := hD
  refine W.widen (k := 16) (n := 341) (Nat.le_of_ble_eq_true rfl) (Nat.le_of_ble_eq_true rfl) ?_
  refine g_astr hex hbc hK hP hD hS 1 3 12 2 (L := [q2, q7]) rfl rfl rfl rfl rfl ⟨Nat.le_of_ble_eq_true rfl, by omega⟩ dX1_init_33 (fun H locs hP hD hS => ?_)
  have hP : va_P G vwCl (((([(h, .inr (1, [.ref q1, .int 0, .int 0]))] ++ [(q1, .inl (cx 3, 8, .inr (.inr (.inr (.inr (rl [q2, q7, q12]))))))]) ++ gl cx q2 q3 q4 q5 q6) ++ gl cx q7 q8 q9 q10 q11) ++ gl cx q12 q13 q14 q15 q16) H := hP
  have hD : va_D (NA h s.heap.size) (((([(h, .inr (1, [.ref q1, .int 0, .int 0]))] ++ [(q1, .inl (cx 3, 8, .inr (.inr (.inr (.inr (rl [q2, q7, q12]))))))]) ++ gl cx q2 q3 q4 q5 q6) ++ gl cx q7 q8 q9 q10 q11) ++ gl cx q12 q13 q14 q15 q16) := hD
  refine lv_iinc (v := iI 3) (lv' := [(1, .int (iI 3)), (0, .ref h)]) hex hbc dX1_init_34 hl (k := 0) rfl rfl (by decide) rfl (fun ls hl => ?_)
  refine lv_goto (tgt := 15) hex hbc dX1_init_37 (by decide) ?_
  refine lv_iload_n hex hbc dX1_init_15 rfl (lv_at hl 0 rfl) ?_
  refine lv_bipush (v := iI 8) hex hbc dX1_init_16 (by decide) ?_
  refine zt_icmp_ge (a := 3) (b := 8) (tgt := 40) hex hbc (by omega) dX1_init_18 (by decide) (fun h => absurd h (by omega)) (fun _ => ?_)
  refine lv_aload_n hex hbc dX1_init_21 rfl (lv_at hl 1 rfl) ?_
  refine va_get (v := .ref q1) hex hbc hts hin1 hown hK hP 0 rfl rfl 0 (by decide) (hts _ (List.mem_of_getElem? (i := 5) rfl)) (fun _ h => h) rfl dX1_init_22 ?_
  refine lv_iload_n hex hbc dX1_init_25 rfl (lv_at hl 0 rfl) ?_
  refine va_new (ci := 2) (fs := [.int 0, .int 0, .null, .null, .null, .null]) hex hbc hts hin2 tyX2 tyX2_ok hown (hts _ (List.mem_of_getElem? (i := 4) rfl)) (hts (.instantiable RX2 6) (List.mem_of_getElem? (i := 6) rfl)) (hts (.initialized RX2) (List.mem_of_getElem? (i := 7) rfl)) hK hP hD hS hA rfl (fun j hj => by rcases (show j = 0 ∨ j = 1 ∨ j = 2 ∨ j = 3 ∨ j = 4 ∨ j = 5 by omega) with rfl | rfl | rfl | rfl | rfl | rfl <;> rfl) (Nat.le_of_ble_eq_true rfl) (Nat.le_of_ble_eq_true rfl) dX1_init_26 (fun q17 H hP hD hS => ?_)
  refine W.widen (k := 17) (n := 347) (Nat.le_of_ble_eq_true rfl) (Nat.le_of_ble_eq_true rfl) ?_
  refine lv_dup hex hbc dX1_init_29 rfl ?_
  refine g_initN (mc := 4) (ms := 105) (rm := { frames := 1, cells := 4, slots := 105, locals := 15 }) (ws := ((([(h, .inr (1, [.ref q1, .int 0, .int 0]))] ++ [(q1, .inl (cx 3, 8, .inr (.inr (.inr (.inr (rl [q2, q7, q12]))))))]) ++ gl cx q2 q3 q4 q5 q6) ++ gl cx q7 q8 q9 q10 q11) ++ gl cx q12 q13 q14 q15 q16) (rest := [.ref q17, .int (iI 3), .ref q1]) (wo := fun (u : Nat × Nat × Nat × Nat) => gl cx q17 u.1 u.2.1 u.2.2.1 u.2.2.2) (Ex := FV cx rw (NA q17 H.size)) [] q17 ⟨hex, hbc, hml, hown, hts⟩ (mX2_init l G cx rw H.size q17 ) ⟨va_cnB 0 hts gX1_init_X2_init_n17 rfl rfl rfl hNe (hts (.initialized RX2) (List.mem_of_getElem? (i := 7) rfl)) (by decide +kernel) ⟨Nat.le_of_ble_eq_true rfl, Nat.le_of_ble_eq_true rfl⟩, rfl, (hts (.instanceMethod yX2_init) (List.mem_of_getElem? (i := 8) rfl))⟩ hK hP hD hS hA (fun U hU hW hB => hF.to hS hU hW hB) (fun _ U _ _ h => h.blind) rfl rfl hl.1 (Nat.le_of_ble_eq_true rfl) dX1_init_30 ⟨Nat.le_of_ble_eq_true rfl, Nat.le_of_ble_eq_true rfl⟩ (fun u H locs hP hD hS => ?_)
  obtain ⟨q18, q19, q20, q21⟩ := u
  have hP : va_P G vwCl ((((([(h, .inr (1, [.ref q1, .int 0, .int 0]))] ++ [(q1, .inl (cx 3, 8, .inr (.inr (.inr (.inr (rl [q2, q7, q12]))))))]) ++ gl cx q2 q3 q4 q5 q6) ++ gl cx q7 q8 q9 q10 q11) ++ gl cx q12 q13 q14 q15 q16) ++ gl cx q17 q18 q19 q20 q21) H := hP
  have hD : va_D (NA h s.heap.size) ((((([(h, .inr (1, [.ref q1, .int 0, .int 0]))] ++ [(q1, .inl (cx 3, 8, .inr (.inr (.inr (.inr (rl [q2, q7, q12]))))))]) ++ gl cx q2 q3 q4 q5 q6) ++ gl cx q7 q8 q9 q10 q11) ++ gl cx q12 q13 q14 q15 q16) ++ gl cx q17 q18 q19 q20 q21) := hD
  refine W.widen (k := 21) (n := 452) (Nat.le_of_ble_eq_true rfl) (Nat.le_of_ble_eq_true rfl) ?_
  refine g_astr hex hbc hK hP hD hS 1 3 17 2 (L := [q2, q7, q12]) rfl rfl rfl rfl rfl ⟨Nat.le_of_ble_eq_true rfl, by omega⟩ dX1_init_33 (fun H locs hP hD hS => ?_)
  have hP : va_P G vwCl ((((([(h, .inr (1, [.ref q1, .int 0, .int 0]))] ++ [(q1, .inl (cx 3, 8, .inr (.inr (.inr (.inr (rl [q2, q7, q12, q17]))))))]) ++ gl cx q2 q3 q4 q5 q6) ++ gl cx q7 q8 q9 q10 q11) ++ gl cx q12 q13 q14 q15 q16) ++ gl cx q17 q18 q19 q20 q21) H := hP
  have hD : va_D (NA h s.heap.size) ((((([(h, .inr (1, [.ref q1, .int 0, .int 0]))] ++ [(q1, .inl (cx 3, 8, .inr (.inr (.inr (.inr (rl [q2, q7, q12, q17]))))))]) ++ gl cx q2 q3 q4 q5 q6) ++ gl cx q7 q8 q9 q10 q11) ++ gl cx q12 q13 q14 q15 q16) ++ gl cx q17 q18 q19 q20 q21) := hD
  refine lv_iinc (v := iI 4) (lv' := [(1, .int (iI 4)), (0, .ref h)]) hex hbc dX1_init_34 hl (k := 0) rfl rfl (by decide) rfl (fun ls hl => ?_)
  refine lv_goto (tgt := 15) hex hbc dX1_init_37 (by decide) ?_
  refine lv_iload_n hex hbc dX1_init_15 rfl (lv_at hl 0 rfl) ?_
  refine lv_bipush (v := iI 8) hex hbc dX1_init_16 (by decide) ?_
  refine zt_icmp_ge (a := 4) (b := 8) (tgt := 40) hex hbc (by omega) dX1_init_18 (by decide) (fun h => absurd h (by omega)) (fun _ => ?_)
  refine lv_aload_n hex hbc dX1_init_21 rfl (lv_at hl 1 rfl) ?_
  refine va_get (v := .ref q1) hex hbc hts hin1 hown hK hP 0 rfl rfl 0 (by decide) (hts _ (List.mem_of_getElem? (i := 5) rfl)) (fun _ h => h) rfl dX1_init_22 ?_
  refine lv_iload_n hex hbc dX1_init_25 rfl (lv_at hl 0 rfl) ?_
  refine va_new (ci := 2) (fs := [.int 0, .int 0, .null, .null, .null, .null]) hex hbc hts hin2 tyX2 tyX2_ok hown (hts _ (List.mem_of_getElem? (i := 4) rfl)) (hts (.instantiable RX2 6) (List.mem_of_getElem? (i := 6) rfl)) (hts (.initialized RX2) (List.mem_of_getElem? (i := 7) rfl)) hK hP hD hS hA rfl (fun j hj => by rcases (show j = 0 ∨ j = 1 ∨ j = 2 ∨ j = 3 ∨ j = 4 ∨ j = 5 by omega) with rfl | rfl | rfl | rfl | rfl | rfl <;> rfl) (Nat.le_of_ble_eq_true rfl) (Nat.le_of_ble_eq_true rfl) dX1_init_26 (fun q22 H hP hD hS => ?_)
  refine W.widen (k := 22) (n := 458) (Nat.le_of_ble_eq_true rfl) (Nat.le_of_ble_eq_true rfl) ?_
  refine lv_dup hex hbc dX1_init_29 rfl ?_
  refine g_initN (mc := 4) (ms := 105) (rm := { frames := 1, cells := 4, slots := 105, locals := 15 }) (ws := (((([(h, .inr (1, [.ref q1, .int 0, .int 0]))] ++ [(q1, .inl (cx 3, 8, .inr (.inr (.inr (.inr (rl [q2, q7, q12, q17]))))))]) ++ gl cx q2 q3 q4 q5 q6) ++ gl cx q7 q8 q9 q10 q11) ++ gl cx q12 q13 q14 q15 q16) ++ gl cx q17 q18 q19 q20 q21) (rest := [.ref q22, .int (iI 4), .ref q1]) (wo := fun (u : Nat × Nat × Nat × Nat) => gl cx q22 u.1 u.2.1 u.2.2.1 u.2.2.2) (Ex := FV cx rw (NA q22 H.size)) [] q22 ⟨hex, hbc, hml, hown, hts⟩ (mX2_init l G cx rw H.size q22 ) ⟨va_cnB 0 hts gX1_init_X2_init_n17 rfl rfl rfl hNe (hts (.initialized RX2) (List.mem_of_getElem? (i := 7) rfl)) (by decide +kernel) ⟨Nat.le_of_ble_eq_true rfl, Nat.le_of_ble_eq_true rfl⟩, rfl, (hts (.instanceMethod yX2_init) (List.mem_of_getElem? (i := 8) rfl))⟩ hK hP hD hS hA (fun U hU hW hB => hF.to hS hU hW hB) (fun _ U _ _ h => h.blind) rfl rfl hl.1 (Nat.le_of_ble_eq_true rfl) dX1_init_30 ⟨Nat.le_of_ble_eq_true rfl, Nat.le_of_ble_eq_true rfl⟩ (fun u H locs hP hD hS => ?_)
  obtain ⟨q23, q24, q25, q26⟩ := u
  have hP : va_P G vwCl (((((([(h, .inr (1, [.ref q1, .int 0, .int 0]))] ++ [(q1, .inl (cx 3, 8, .inr (.inr (.inr (.inr (rl [q2, q7, q12, q17]))))))]) ++ gl cx q2 q3 q4 q5 q6) ++ gl cx q7 q8 q9 q10 q11) ++ gl cx q12 q13 q14 q15 q16) ++ gl cx q17 q18 q19 q20 q21) ++ gl cx q22 q23 q24 q25 q26) H := hP
  have hD : va_D (NA h s.heap.size) (((((([(h, .inr (1, [.ref q1, .int 0, .int 0]))] ++ [(q1, .inl (cx 3, 8, .inr (.inr (.inr (.inr (rl [q2, q7, q12, q17]))))))]) ++ gl cx q2 q3 q4 q5 q6) ++ gl cx q7 q8 q9 q10 q11) ++ gl cx q12 q13 q14 q15 q16) ++ gl cx q17 q18 q19 q20 q21) ++ gl cx q22 q23 q24 q25 q26) := hD
  refine W.widen (k := 26) (n := 563) (Nat.le_of_ble_eq_true rfl) (Nat.le_of_ble_eq_true rfl) ?_
  refine g_astr hex hbc hK hP hD hS 1 3 22 2 (L := [q2, q7, q12, q17]) rfl rfl rfl rfl rfl ⟨Nat.le_of_ble_eq_true rfl, by omega⟩ dX1_init_33 (fun H locs hP hD hS => ?_)
  have hP : va_P G vwCl (((((([(h, .inr (1, [.ref q1, .int 0, .int 0]))] ++ [(q1, .inl (cx 3, 8, .inr (.inr (.inr (.inr (rl [q2, q7, q12, q17, q22]))))))]) ++ gl cx q2 q3 q4 q5 q6) ++ gl cx q7 q8 q9 q10 q11) ++ gl cx q12 q13 q14 q15 q16) ++ gl cx q17 q18 q19 q20 q21) ++ gl cx q22 q23 q24 q25 q26) H := hP
  have hD : va_D (NA h s.heap.size) (((((([(h, .inr (1, [.ref q1, .int 0, .int 0]))] ++ [(q1, .inl (cx 3, 8, .inr (.inr (.inr (.inr (rl [q2, q7, q12, q17, q22]))))))]) ++ gl cx q2 q3 q4 q5 q6) ++ gl cx q7 q8 q9 q10 q11) ++ gl cx q12 q13 q14 q15 q16) ++ gl cx q17 q18 q19 q20 q21) ++ gl cx q22 q23 q24 q25 q26) := hD
  refine lv_iinc (v := iI 5) (lv' := [(1, .int (iI 5)), (0, .ref h)]) hex hbc dX1_init_34 hl (k := 0) rfl rfl (by decide) rfl (fun ls hl => ?_)
  refine lv_goto (tgt := 15) hex hbc dX1_init_37 (by decide) ?_
  refine lv_iload_n hex hbc dX1_init_15 rfl (lv_at hl 0 rfl) ?_
  refine lv_bipush (v := iI 8) hex hbc dX1_init_16 (by decide) ?_
  refine zt_icmp_ge (a := 5) (b := 8) (tgt := 40) hex hbc (by omega) dX1_init_18 (by decide) (fun h => absurd h (by omega)) (fun _ => ?_)
  refine lv_aload_n hex hbc dX1_init_21 rfl (lv_at hl 1 rfl) ?_
  refine va_get (v := .ref q1) hex hbc hts hin1 hown hK hP 0 rfl rfl 0 (by decide) (hts _ (List.mem_of_getElem? (i := 5) rfl)) (fun _ h => h) rfl dX1_init_22 ?_
  refine lv_iload_n hex hbc dX1_init_25 rfl (lv_at hl 0 rfl) ?_
  refine va_new (ci := 2) (fs := [.int 0, .int 0, .null, .null, .null, .null]) hex hbc hts hin2 tyX2 tyX2_ok hown (hts _ (List.mem_of_getElem? (i := 4) rfl)) (hts (.instantiable RX2 6) (List.mem_of_getElem? (i := 6) rfl)) (hts (.initialized RX2) (List.mem_of_getElem? (i := 7) rfl)) hK hP hD hS hA rfl (fun j hj => by rcases (show j = 0 ∨ j = 1 ∨ j = 2 ∨ j = 3 ∨ j = 4 ∨ j = 5 by omega) with rfl | rfl | rfl | rfl | rfl | rfl <;> rfl) (Nat.le_of_ble_eq_true rfl) (Nat.le_of_ble_eq_true rfl) dX1_init_26 (fun q27 H hP hD hS => ?_)
  refine W.widen (k := 27) (n := 569) (Nat.le_of_ble_eq_true rfl) (Nat.le_of_ble_eq_true rfl) ?_
  refine lv_dup hex hbc dX1_init_29 rfl ?_
  refine g_initN (mc := 4) (ms := 105) (rm := { frames := 1, cells := 4, slots := 105, locals := 15 }) (ws := ((((([(h, .inr (1, [.ref q1, .int 0, .int 0]))] ++ [(q1, .inl (cx 3, 8, .inr (.inr (.inr (.inr (rl [q2, q7, q12, q17, q22]))))))]) ++ gl cx q2 q3 q4 q5 q6) ++ gl cx q7 q8 q9 q10 q11) ++ gl cx q12 q13 q14 q15 q16) ++ gl cx q17 q18 q19 q20 q21) ++ gl cx q22 q23 q24 q25 q26) (rest := [.ref q27, .int (iI 5), .ref q1]) (wo := fun (u : Nat × Nat × Nat × Nat) => gl cx q27 u.1 u.2.1 u.2.2.1 u.2.2.2) (Ex := FV cx rw (NA q27 H.size)) [] q27 ⟨hex, hbc, hml, hown, hts⟩ (mX2_init l G cx rw H.size q27 ) ⟨va_cnB 0 hts gX1_init_X2_init_n17 rfl rfl rfl hNe (hts (.initialized RX2) (List.mem_of_getElem? (i := 7) rfl)) (by decide +kernel) ⟨Nat.le_of_ble_eq_true rfl, Nat.le_of_ble_eq_true rfl⟩, rfl, (hts (.instanceMethod yX2_init) (List.mem_of_getElem? (i := 8) rfl))⟩ hK hP hD hS hA (fun U hU hW hB => hF.to hS hU hW hB) (fun _ U _ _ h => h.blind) rfl rfl hl.1 (Nat.le_of_ble_eq_true rfl) dX1_init_30 ⟨Nat.le_of_ble_eq_true rfl, Nat.le_of_ble_eq_true rfl⟩ (fun u H locs hP hD hS => ?_)
  obtain ⟨q28, q29, q30, q31⟩ := u
  have hP : va_P G vwCl ((((((([(h, .inr (1, [.ref q1, .int 0, .int 0]))] ++ [(q1, .inl (cx 3, 8, .inr (.inr (.inr (.inr (rl [q2, q7, q12, q17, q22]))))))]) ++ gl cx q2 q3 q4 q5 q6) ++ gl cx q7 q8 q9 q10 q11) ++ gl cx q12 q13 q14 q15 q16) ++ gl cx q17 q18 q19 q20 q21) ++ gl cx q22 q23 q24 q25 q26) ++ gl cx q27 q28 q29 q30 q31) H := hP
  have hD : va_D (NA h s.heap.size) ((((((([(h, .inr (1, [.ref q1, .int 0, .int 0]))] ++ [(q1, .inl (cx 3, 8, .inr (.inr (.inr (.inr (rl [q2, q7, q12, q17, q22]))))))]) ++ gl cx q2 q3 q4 q5 q6) ++ gl cx q7 q8 q9 q10 q11) ++ gl cx q12 q13 q14 q15 q16) ++ gl cx q17 q18 q19 q20 q21) ++ gl cx q22 q23 q24 q25 q26) ++ gl cx q27 q28 q29 q30 q31) := hD
  refine W.widen (k := 31) (n := 674) (Nat.le_of_ble_eq_true rfl) (Nat.le_of_ble_eq_true rfl) ?_
  refine g_astr hex hbc hK hP hD hS 1 3 27 2 (L := [q2, q7, q12, q17, q22]) rfl rfl rfl rfl rfl ⟨Nat.le_of_ble_eq_true rfl, by omega⟩ dX1_init_33 (fun H locs hP hD hS => ?_)
  have hP : va_P G vwCl ((((((([(h, .inr (1, [.ref q1, .int 0, .int 0]))] ++ [(q1, .inl (cx 3, 8, .inr (.inr (.inr (.inr (rl [q2, q7, q12, q17, q22, q27]))))))]) ++ gl cx q2 q3 q4 q5 q6) ++ gl cx q7 q8 q9 q10 q11) ++ gl cx q12 q13 q14 q15 q16) ++ gl cx q17 q18 q19 q20 q21) ++ gl cx q22 q23 q24 q25 q26) ++ gl cx q27 q28 q29 q30 q31) H := hP
  have hD : va_D (NA h s.heap.size) ((((((([(h, .inr (1, [.ref q1, .int 0, .int 0]))] ++ [(q1, .inl (cx 3, 8, .inr (.inr (.inr (.inr (rl [q2, q7, q12, q17, q22, q27]))))))]) ++ gl cx q2 q3 q4 q5 q6) ++ gl cx q7 q8 q9 q10 q11) ++ gl cx q12 q13 q14 q15 q16) ++ gl cx q17 q18 q19 q20 q21) ++ gl cx q22 q23 q24 q25 q26) ++ gl cx q27 q28 q29 q30 q31) := hD
  refine lv_iinc (v := iI 6) (lv' := [(1, .int (iI 6)), (0, .ref h)]) hex hbc dX1_init_34 hl (k := 0) rfl rfl (by decide) rfl (fun ls hl => ?_)
  refine lv_goto (tgt := 15) hex hbc dX1_init_37 (by decide) ?_
  refine lv_iload_n hex hbc dX1_init_15 rfl (lv_at hl 0 rfl) ?_
  refine lv_bipush (v := iI 8) hex hbc dX1_init_16 (by decide) ?_
  refine zt_icmp_ge (a := 6) (b := 8) (tgt := 40) hex hbc (by omega) dX1_init_18 (by decide) (fun h => absurd h (by omega)) (fun _ => ?_)
  refine lv_aload_n hex hbc dX1_init_21 rfl (lv_at hl 1 rfl) ?_
  refine va_get (v := .ref q1) hex hbc hts hin1 hown hK hP 0 rfl rfl 0 (by decide) (hts _ (List.mem_of_getElem? (i := 5) rfl)) (fun _ h => h) rfl dX1_init_22 ?_
  refine lv_iload_n hex hbc dX1_init_25 rfl (lv_at hl 0 rfl) ?_
  refine va_new (ci := 2) (fs := [.int 0, .int 0, .null, .null, .null, .null]) hex hbc hts hin2 tyX2 tyX2_ok hown (hts _ (List.mem_of_getElem? (i := 4) rfl)) (hts (.instantiable RX2 6) (List.mem_of_getElem? (i := 6) rfl)) (hts (.initialized RX2) (List.mem_of_getElem? (i := 7) rfl)) hK hP hD hS hA rfl (fun j hj => by rcases (show j = 0 ∨ j = 1 ∨ j = 2 ∨ j = 3 ∨ j = 4 ∨ j = 5 by omega) with rfl | rfl | rfl | rfl | rfl | rfl <;> rfl) (Nat.le_of_ble_eq_true rfl) (Nat.le_of_ble_eq_true rfl) dX1_init_26 (fun q32 H hP hD hS => ?_)
  refine W.widen (k := 32) (n := 680) (Nat.le_of_ble_eq_true rfl) (Nat.le_of_ble_eq_true rfl) ?_
  refine lv_dup hex hbc dX1_init_29 rfl ?_
  refine g_initN (mc := 4) (ms := 105) (rm := { frames := 1, cells := 4, slots := 105, locals := 15 }) (ws := (((((([(h, .inr (1, [.ref q1, .int 0, .int 0]))] ++ [(q1, .inl (cx 3, 8, .inr (.inr (.inr (.inr (rl [q2, q7, q12, q17, q22, q27]))))))]) ++ gl cx q2 q3 q4 q5 q6) ++ gl cx q7 q8 q9 q10 q11) ++ gl cx q12 q13 q14 q15 q16) ++ gl cx q17 q18 q19 q20 q21) ++ gl cx q22 q23 q24 q25 q26) ++ gl cx q27 q28 q29 q30 q31) (rest := [.ref q32, .int (iI 6), .ref q1]) (wo := fun (u : Nat × Nat × Nat × Nat) => gl cx q32 u.1 u.2.1 u.2.2.1 u.2.2.2) (Ex := FV cx rw (NA q32 H.size)) [] q32 ⟨hex, hbc, hml, hown, hts⟩ (mX2_init l G cx rw H.size q32 ) ⟨va_cnB 0 hts gX1_init_X2_init_n17 rfl rfl rfl hNe (hts (.initialized RX2) (List.mem_of_getElem? (i := 7) rfl)) (by decide +kernel) ⟨Nat.le_of_ble_eq_true rfl, Nat.le_of_ble_eq_true rfl⟩, rfl, (hts (.instanceMethod yX2_init) (List.mem_of_getElem? (i := 8) rfl))⟩ hK hP hD hS hA (fun U hU hW hB => hF.to hS hU hW hB) (fun _ U _ _ h => h.blind) rfl rfl hl.1 (Nat.le_of_ble_eq_true rfl) dX1_init_30 ⟨Nat.le_of_ble_eq_true rfl, Nat.le_of_ble_eq_true rfl⟩ (fun u H locs hP hD hS => ?_)
  obtain ⟨q33, q34, q35, q36⟩ := u
  have hP : va_P G vwCl (((((((([(h, .inr (1, [.ref q1, .int 0, .int 0]))] ++ [(q1, .inl (cx 3, 8, .inr (.inr (.inr (.inr (rl [q2, q7, q12, q17, q22, q27]))))))]) ++ gl cx q2 q3 q4 q5 q6) ++ gl cx q7 q8 q9 q10 q11) ++ gl cx q12 q13 q14 q15 q16) ++ gl cx q17 q18 q19 q20 q21) ++ gl cx q22 q23 q24 q25 q26) ++ gl cx q27 q28 q29 q30 q31) ++ gl cx q32 q33 q34 q35 q36) H := hP
  have hD : va_D (NA h s.heap.size) (((((((([(h, .inr (1, [.ref q1, .int 0, .int 0]))] ++ [(q1, .inl (cx 3, 8, .inr (.inr (.inr (.inr (rl [q2, q7, q12, q17, q22, q27]))))))]) ++ gl cx q2 q3 q4 q5 q6) ++ gl cx q7 q8 q9 q10 q11) ++ gl cx q12 q13 q14 q15 q16) ++ gl cx q17 q18 q19 q20 q21) ++ gl cx q22 q23 q24 q25 q26) ++ gl cx q27 q28 q29 q30 q31) ++ gl cx q32 q33 q34 q35 q36) := hD
  refine W.widen (k := 36) (n := 785) (Nat.le_of_ble_eq_true rfl) (Nat.le_of_ble_eq_true rfl) ?_
  refine g_astr hex hbc hK hP hD hS 1 3 32 2 (L := [q2, q7, q12, q17, q22, q27]) rfl rfl rfl rfl rfl ⟨Nat.le_of_ble_eq_true rfl, by omega⟩ dX1_init_33 (fun H locs hP hD hS => ?_)
  have hP : va_P G vwCl (((((((([(h, .inr (1, [.ref q1, .int 0, .int 0]))] ++ [(q1, .inl (cx 3, 8, .inr (.inr (.inr (.inr (rl [q2, q7, q12, q17, q22, q27, q32]))))))]) ++ gl cx q2 q3 q4 q5 q6) ++ gl cx q7 q8 q9 q10 q11) ++ gl cx q12 q13 q14 q15 q16) ++ gl cx q17 q18 q19 q20 q21) ++ gl cx q22 q23 q24 q25 q26) ++ gl cx q27 q28 q29 q30 q31) ++ gl cx q32 q33 q34 q35 q36) H := hP
  have hD : va_D (NA h s.heap.size) (((((((([(h, .inr (1, [.ref q1, .int 0, .int 0]))] ++ [(q1, .inl (cx 3, 8, .inr (.inr (.inr (.inr (rl [q2, q7, q12, q17, q22, q27, q32]))))))]) ++ gl cx q2 q3 q4 q5 q6) ++ gl cx q7 q8 q9 q10 q11) ++ gl cx q12 q13 q14 q15 q16) ++ gl cx q17 q18 q19 q20 q21) ++ gl cx q22 q23 q24 q25 q26) ++ gl cx q27 q28 q29 q30 q31) ++ gl cx q32 q33 q34 q35 q36) := hD
  refine lv_iinc (v := iI 7) (lv' := [(1, .int (iI 7)), (0, .ref h)]) hex hbc dX1_init_34 hl (k := 0) rfl rfl (by decide) rfl (fun ls hl => ?_)
  refine lv_goto (tgt := 15) hex hbc dX1_init_37 (by decide) ?_
  refine lv_iload_n hex hbc dX1_init_15 rfl (lv_at hl 0 rfl) ?_
  refine lv_bipush (v := iI 8) hex hbc dX1_init_16 (by decide) ?_
  refine zt_icmp_ge (a := 7) (b := 8) (tgt := 40) hex hbc (by omega) dX1_init_18 (by decide) (fun h => absurd h (by omega)) (fun _ => ?_)
  refine lv_aload_n hex hbc dX1_init_21 rfl (lv_at hl 1 rfl) ?_
  refine va_get (v := .ref q1) hex hbc hts hin1 hown hK hP 0 rfl rfl 0 (by decide) (hts _ (List.mem_of_getElem? (i := 5) rfl)) (fun _ h => h) rfl dX1_init_22 ?_
  refine lv_iload_n hex hbc dX1_init_25 rfl (lv_at hl 0 rfl) ?_
  refine va_new (ci := 2) (fs := [.int 0, .int 0, .null, .null, .null, .null]) hex hbc hts hin2 tyX2 tyX2_ok hown (hts _ (List.mem_of_getElem? (i := 4) rfl)) (hts (.instantiable RX2 6) (List.mem_of_getElem? (i := 6) rfl)) (hts (.initialized RX2) (List.mem_of_getElem? (i := 7) rfl)) hK hP hD hS hA rfl (fun j hj => by rcases (show j = 0 ∨ j = 1 ∨ j = 2 ∨ j = 3 ∨ j = 4 ∨ j = 5 by omega) with rfl | rfl | rfl | rfl | rfl | rfl <;> rfl) (Nat.le_of_ble_eq_true rfl) (Nat.le_of_ble_eq_true rfl) dX1_init_26 (fun q37 H hP hD hS => ?_)
  refine W.widen (k := 37) (n := 791) (Nat.le_of_ble_eq_true rfl) (Nat.le_of_ble_eq_true rfl) ?_
  refine lv_dup hex hbc dX1_init_29 rfl ?_
  refine g_initN (mc := 4) (ms := 105) (rm := { frames := 1, cells := 4, slots := 105, locals := 15 }) (ws := ((((((([(h, .inr (1, [.ref q1, .int 0, .int 0]))] ++ [(q1, .inl (cx 3, 8, .inr (.inr (.inr (.inr (rl [q2, q7, q12, q17, q22, q27, q32]))))))]) ++ gl cx q2 q3 q4 q5 q6) ++ gl cx q7 q8 q9 q10 q11) ++ gl cx q12 q13 q14 q15 q16) ++ gl cx q17 q18 q19 q20 q21) ++ gl cx q22 q23 q24 q25 q26) ++ gl cx q27 q28 q29 q30 q31) ++ gl cx q32 q33 q34 q35 q36) (rest := [.ref q37, .int (iI 7), .ref q1]) (wo := fun (u : Nat × Nat × Nat × Nat) => gl cx q37 u.1 u.2.1 u.2.2.1 u.2.2.2) (Ex := FV cx rw (NA q37 H.size)) [] q37 ⟨hex, hbc, hml, hown, hts⟩ (mX2_init l G cx rw H.size q37 ) ⟨va_cnB 0 hts gX1_init_X2_init_n17 rfl rfl rfl hNe (hts (.initialized RX2) (List.mem_of_getElem? (i := 7) rfl)) (by decide +kernel) ⟨Nat.le_of_ble_eq_true rfl, Nat.le_of_ble_eq_true rfl⟩, rfl, (hts (.instanceMethod yX2_init) (List.mem_of_getElem? (i := 8) rfl))⟩ hK hP hD hS hA (fun U hU hW hB => hF.to hS hU hW hB) (fun _ U _ _ h => h.blind) rfl rfl hl.1 (Nat.le_of_ble_eq_true rfl) dX1_init_30 ⟨Nat.le_of_ble_eq_true rfl, Nat.le_of_ble_eq_true rfl⟩ (fun u H locs hP hD hS => ?_)
  obtain ⟨q38, q39, q40, q41⟩ := u
  have hP : va_P G vwCl ((((((((([(h, .inr (1, [.ref q1, .int 0, .int 0]))] ++ [(q1, .inl (cx 3, 8, .inr (.inr (.inr (.inr (rl [q2, q7, q12, q17, q22, q27, q32]))))))]) ++ gl cx q2 q3 q4 q5 q6) ++ gl cx q7 q8 q9 q10 q11) ++ gl cx q12 q13 q14 q15 q16) ++ gl cx q17 q18 q19 q20 q21) ++ gl cx q22 q23 q24 q25 q26) ++ gl cx q27 q28 q29 q30 q31) ++ gl cx q32 q33 q34 q35 q36) ++ gl cx q37 q38 q39 q40 q41) H := hP
  have hD : va_D (NA h s.heap.size) ((((((((([(h, .inr (1, [.ref q1, .int 0, .int 0]))] ++ [(q1, .inl (cx 3, 8, .inr (.inr (.inr (.inr (rl [q2, q7, q12, q17, q22, q27, q32]))))))]) ++ gl cx q2 q3 q4 q5 q6) ++ gl cx q7 q8 q9 q10 q11) ++ gl cx q12 q13 q14 q15 q16) ++ gl cx q17 q18 q19 q20 q21) ++ gl cx q22 q23 q24 q25 q26) ++ gl cx q27 q28 q29 q30 q31) ++ gl cx q32 q33 q34 q35 q36) ++ gl cx q37 q38 q39 q40 q41) := hD
  refine W.widen (k := 41) (n := 896) (Nat.le_of_ble_eq_true rfl) (Nat.le_of_ble_eq_true rfl) ?_
  refine g_astr hex hbc hK hP hD hS 1 3 37 2 (L := [q2, q7, q12, q17, q22, q27, q32]) rfl rfl rfl rfl rfl ⟨Nat.le_of_ble_eq_true rfl, by omega⟩ dX1_init_33 (fun H locs hP hD hS => ?_)
  have hP : va_P G vwCl ((((((((([(h, .inr (1, [.ref q1, .int 0, .int 0]))] ++ [(q1, .inl (cx 3, 8, .inr (.inr (.inr (.inr (rl [q2, q7, q12, q17, q22, q27, q32, q37]))))))]) ++ gl cx q2 q3 q4 q5 q6) ++ gl cx q7 q8 q9 q10 q11) ++ gl cx q12 q13 q14 q15 q16) ++ gl cx q17 q18 q19 q20 q21) ++ gl cx q22 q23 q24 q25 q26) ++ gl cx q27 q28 q29 q30 q31) ++ gl cx q32 q33 q34 q35 q36) ++ gl cx q37 q38 q39 q40 q41) H := hP
  have hD : va_D (NA h s.heap.size) ((((((((([(h, .inr (1, [.ref q1, .int 0, .int 0]))] ++ [(q1, .inl (cx 3, 8, .inr (.inr (.inr (.inr (rl [q2, q7, q12, q17, q22, q27, q32, q37]))))))]) ++ gl cx q2 q3 q4 q5 q6) ++ gl cx q7 q8 q9 q10 q11) ++ gl cx q12 q13 q14 q15 q16) ++ gl cx q17 q18 q19 q20 q21) ++ gl cx q22 q23 q24 q25 q26) ++ gl cx q27 q28 q29 q30 q31) ++ gl cx q32 q33 q34 q35 q36) ++ gl cx q37 q38 q39 q40 q41) := hD
  refine lv_iinc (v := iI 8) (lv' := [(1, .int (iI 8)), (0, .ref h)]) hex hbc dX1_init_34 hl (k := 0) rfl rfl (by decide) rfl (fun ls hl => ?_)
  refine lv_goto (tgt := 15) hex hbc dX1_init_37 (by decide) ?_
  refine lv_iload_n hex hbc dX1_init_15 rfl (lv_at hl 0 rfl) ?_
  refine lv_bipush (v := iI 8) hex hbc dX1_init_16 (by decide) ?_
  refine zt_icmp_ge (a := 8) (b := 8) (tgt := 40) hex hbc (by omega) dX1_init_18 (by decide) (fun _ => ?_) (fun h => absurd h (by omega))
  have hP : va_P G vwCl (hw cx h (fun k => ([q2, q3, q4, q5, q6, q7, q8, q9, q10, q11, q12, q13, q14, q15, q16, q17, q18, q19, q20, q21, q22, q23, q24, q25, q26, q27, q28, q29, q30, q31, q32, q33, q34, q35, q36, q37, q38, q39, q40, q41, q1] : List Nat).getD k 0)) H := hP
  have hD : va_D (NA h s.heap.size) (hw cx h (fun k => ([q2, q3, q4, q5, q6, q7, q8, q9, q10, q11, q12, q13, q14, q15, q16, q17, q18, q19, q20, q21, q22, q23, q24, q25, q26, q27, q28, q29, q30, q31, q32, q33, q34, q35, q36, q37, q38, q39, q40, q41, q1] : List Nat).getD k 0)) := hD
  exact W.vret hex hbc hrt (fun t ht hW => ⟨⟨(fun k => ([q2, q3, q4, q5, q6, q7, q8, q9, q10, q11, q12, q13, q14, q15, q16, q17, q18, q19, q20, q21, q22, q23, q24, q25, q26, q27, q28, q29, q30, q31, q32, q33, q34, q35, q36, q37, q38, q39, q40, q41, q1] : List Nat).getD k 0), rfl, trivial, by rw [ht]; exact hP, hD⟩, hS.F ht⟩) hS.2.2 dX1_init_40 hlocks
