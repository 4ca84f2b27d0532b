/-! the law's walk from its entry: both objects are made, then the loop -/
set_option maxHeartbeats 4000000 in
set_option maxRecDepth 100000 in
theorem whole_start {p : Program} {e : Env} {s : State} {m : MethodId} {below : List Frame} {meth : Method} {c : Code} (l : Launch) (hflags : l.flags = flags0) {b L : Nat} {xs : Nat → Int32} (hL : L ≤ 2048) (C0 : lw_At p s m meth c b L xs) : W p l e room_1 s m #[Value.ref b] below meth c s.heap [] 0 0 (lw_Z below #[Value.ref b] s) (entryFrame m ([Value.ref b] : List Value).toArray 8) := by
  obtain ⟨hex, hbc, hr, hml, hown, hts, hX, hbl, hlocks, hgv⟩ := id C0
  have hd0 := Drawn.sameBut.refl s.drawn lw_cs
  obtain ⟨G, cx, hK⟩ := k_start hts
  obtain ⟨rw, hF⟩ := fv_start hts hgv hK
  obtain ⟨tl, th, h4⟩ := st_start hts hgv
  have htw : ∀ w ∈ wsL_law, w.before #[Value.ref b] s = true := fun w h => hts w (wsL_law_in w h)
  have hAO : va_AO "LoopSlicer$Loop" s := va_AO.of (hts (.arrayOver (.object "LoopSlicer$Loop")) (by decide +kernel))
  have hN1 : va_Nw (.methodLinkNest RX1 17 yX2_init "LoopSlicer") s := va_Nw.of rfl (hts (.methodLinkNest RX1 17 yX2_init "LoopSlicer") (by decide +kernel))
  have hN4 : va_Nw (.methodLinkNest RX4 9 yX2_init "LoopSlicer") s := va_Nw.of rfl (hts (.methodLinkNest RX4 9 yX2_init "LoopSlicer") (by decide +kernel))
  have hA : ∀ q : Nat, s.heap.size ≤ q → (fun q : Nat => s.heap.size ≤ q) q := fun _ h => h
  have hS : va_S (fun q : Nat => s.heap.size ≤ q) s.heap s.heap [] := va_S.rf
  have hP : va_P G vwCl [] s.heap := fun k q h => by simp at h
  have hD : va_D (fun q : Nat => s.heap.size ≤ q) [] := ⟨fun i j p q h => by simp at h, fun k q h => by simp at h⟩
  have hl := lv_entry ([.ref b]) (n := 8) (Nat.le_of_ble_eq_true rfl)
  rw [lg_entry_eq]
  generalize (lg_sl ([.ref b]) ++ List.replicate (8 - (lg_sl ([.ref b])).length) Slot.unset).toArray = ls at hl ⊢
  have hl : lv_has ls 8 [(0, .ref b)] := hl
  refine va_new (ci := 4) (fs := [.null, .null, .null, .null, .null, .null, .null]) (C := RX4) (T := TX4) (N := 7) hex hbc htw inlX4 tyX4 tyX4_ok hown (hts (.classLink RL 7 RX4) (by decide +kernel)) (hts (.instantiable RX4 7) (by decide +kernel)) (hts (.initialized RX4) (by decide +kernel)) hK hP hD hS hA rfl (fun j hj => by rcases (show j = 0 ∨ j = 1 ∨ j = 2 ∨ j = 3 ∨ j = 4 ∨ j = 5 ∨ j = 6 by omega) with rfl | rfl | rfl | rfl | rfl | rfl | rfl <;> rfl) (Nat.le_of_ble_eq_true rfl) (Nat.le_of_ble_eq_true rfl) dL_law_0 (fun q1 H hP hD hS => ?_)
  refine W.widen (k := 1) (n := 7) (Nat.le_of_ble_eq_true rfl) (Nat.le_of_ble_eq_true rfl) ?_
  refine lv_dup hex hbc dL_law_3 rfl ?_
  refine g_init (mc := 69) (ms := 1939) (rm := { frames := 3, cells := 69, slots := 1939, locals := 56 }) (ws := []) (rest := [.ref q1]) (wo := fun (u : Nat → Nat) => wx cx (a0 q1 u) s0X) (Ex := fun U => FV cx rw (NA q1 H.size) U ∧ va_AO "LoopSlicer$Loop" U ∧ va_Nw (.methodLinkNest RX1 17 yX2_init "LoopSlicer") U ∧ va_Nw (.methodLinkNest RX4 9 yX2_init "LoopSlicer") U) [] q1 ⟨hex, hbc, hml, hown, htw⟩ (mX4_init l G cx rw H.size q1) (cwI 0 htw gL_law_X4_init rfl rfl rfl (hts (.initialized RX4) (by decide +kernel)) (hts (.methodLink RL 9 yX4_init) (by decide +kernel)) (hts (.instanceMethod yX4_init) (by decide +kernel)) rfl (by decide +kernel) ⟨Nat.le_of_ble_eq_true rfl, Nat.le_of_ble_eq_true rfl⟩) hK hP hD hS hA (fun U hU hW hB => ⟨hF.to hS hU hW hB, va_AO.moved hW.alike hAO, va_Nw.warmM hW hN1, va_Nw.warmM hW hN4⟩) (fun _ U _ _ h => ⟨h.1.blind, h.2.1, va_Nw.same (u := U) rfl rfl h.2.2.1, va_Nw.same (u := U) rfl rfl h.2.2.2⟩) rfl rfl hl.1 (Nat.le_of_ble_eq_true rfl) dL_law_4 ⟨Nat.le_of_ble_eq_true rfl, Nat.le_of_ble_eq_true rfl⟩ (fun uX H locs hP hD hS => ?_)
  refine W.widen (k := 70) (n := 1946) (Nat.le_of_ble_eq_true rfl) (Nat.le_of_ble_eq_true rfl) ?_
  refine lv_astore_n (lv' := [(1, .ref q1), (0, .ref b)]) hex hbc dL_law_7 rfl hl (by decide) rfl (fun ls hl => ?_)
  refine va_new (ci := 5) (fs := [.null, .null, .int 0, .null, .int 0, .null, .null, .null, .null, .long 0, .null]) (C := RX5) (T := TX5) (N := 11) hex hbc htw inlX5 tyX5 tyX5_ok hown (hts (.classLink RL 10 RX5) (by decide +kernel)) (hts (.instantiable RX5 11) (by decide +kernel)) (hts (.initialized RX5) (by decide +kernel)) hK hP hD hS hA rfl (fun j hj => by rcases (show j = 0 ∨ j = 1 ∨ j = 2 ∨ j = 3 ∨ j = 4 ∨ j = 5 ∨ j = 6 ∨ j = 7 ∨ j = 8 ∨ j = 9 ∨ j = 10 by omega) with rfl | rfl | rfl | rfl | rfl | rfl | rfl | rfl | rfl | rfl | rfl <;> rfl) (Nat.le_of_ble_eq_true rfl) (Nat.le_of_ble_eq_true rfl) dL_law_8 (fun q2 H hP hD hS => ?_)
  refine W.widen (k := 71) (n := 1957) (Nat.le_of_ble_eq_true rfl) (Nat.le_of_ble_eq_true rfl) ?_
  refine lv_dup hex hbc dL_law_11 rfl ?_
  refine g_init (mc := 8) (ms := 1786) (rm := { frames := 2, cells := 8, slots := 1786, locals := 43 }) (tys := tm cx) (ws := [] ++ wx cx (a0 q1 uX) s0X) (rest := [.ref q2]) (wo := fun (u : Nat → Nat) => wm cx (a0 q2 u) s9M) (Ex := fun _ => True) [] q2 ⟨hex, hbc, hml, hown, htw⟩ (mX5_init l G cx H.size q2) (cwI 0 htw gL_law_X5_init rfl rfl rfl (hts (.initialized RX5) (by decide +kernel)) (hts (.methodLink RL 12 yX5_init) (by decide +kernel)) (hts (.instanceMethod yX5_init) (by decide +kernel)) rfl (by decide +kernel) ⟨Nat.le_of_ble_eq_true rfl, Nat.le_of_ble_eq_true rfl⟩) (hK.sub [0, 1, 2] rfl) hP hD hS hA (fun U hU hW hB => trivial) (fun _ U _ _ h => trivial) rfl rfl hl.1 (Nat.le_of_ble_eq_true rfl) dL_law_12 ⟨Nat.le_of_ble_eq_true rfl, Nat.le_of_ble_eq_true rfl⟩ (fun uM H locs hP hD hS => ?_)
  refine W.widen (k := 79) (n := 3743) (Nat.le_of_ble_eq_true rfl) (Nat.le_of_ble_eq_true rfl) ?_
  rw [List.nil_append] at hP hD
  obtain ⟨hLw, hAp⟩ := Lw_of hP hD
  refine lv_astore_n (lv' := [(2, .ref q2), (1, .ref q1), (0, .ref b)]) hex hbc dL_law_15 rfl hl (by decide) rfl (fun ls hl => ?_)
  refine lv_iconst (v := iI 0) hex hbc dL_law_16 rfl ?_
  refine lv_istore_n (lv' := [(3, .int (iI 0)), (2, .ref q2), (1, .ref q1), (0, .ref b)]) hex hbc dL_law_17 rfl hl (by decide) rfl (fun ls hl => ?_)
  refine law_loop (l := l) (tl := tl) (th := th) (G := G) (cx := cx) (a := a0 q1 uX) (b := a0 q2 uM) ⟨hex, hbc, hml, hown, htw, hX, hbl, hL, hK, hAp, h4⟩ ⟨Nat.le_of_ble_eq_true rfl, Nat.le_of_ble_eq_true rfl⟩ (fun H locs ls hS => ?_) (L + 5) 0 s0X s9M H locs ls (Int.le_refl 0) (by omega) Rel_0 hLw hS (lv_sub hl [3, 2, 1, 0] rfl) (by omega)
  refine lv_iconst (v := 1) hex hbc dL_law_752 (by decide) ?_
  refine va_forget (fun q hq => hS.2.2 q hq) ?_
  refine W.widen (k := 600000) (n := 7302250) (Nat.le_of_ble_eq_true rfl) (Nat.le_of_ble_eq_true rfl) ?_
  exact lw_ret hd0 hex hbc hr hlocks dL_law_753
