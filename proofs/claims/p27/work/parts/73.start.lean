/-! the law's walk from its entry: both objects are made, then the loop, then the last question -/
set_option maxHeartbeats 4000000 in
set_option maxRecDepth 100000 in
theorem whole_start {p : Program} {e : Env} {s : State} {m : MethodId} {below : List Frame} {meth : Method} {c : Code} (l : Launch) (hflags : l.flags = flags0) {b L : Nat} {xs : Nat → Int32} (hL : L ≤ 260) (C0 : lw_At p s m meth c b L xs) : W p l e room_1 s m #[Value.ref b] below meth c s.heap [] 0 0 (lw_Z below #[Value.ref b] s) (entryFrame m ([Value.ref b] : List Value).toArray 8) := by
  obtain ⟨hex, hbc, hr, hml, hown, hts, hX, hbl, hlocks, hgv⟩ := id C0
  have hd0 := Drawn.sameBut.refl s.drawn lw_cs
  obtain ⟨G, cx, hK⟩ := k_start hts
  obtain ⟨rw, hF⟩ := fv_start hts hgv hK
  obtain ⟨tl, th, h4⟩ := st_start hts hgv
  have htw : ∀ w ∈ wsL_law, w.before #[Value.ref b] s = true := fun w h => hts w (wsL_law_in w h)
  have hAO : va_AO "LoopSlicer$Loop" s := va_AO.of (hts (.arrayOver (.object "LoopSlicer$Loop")) (by decide +kernel))
  have hN1 : va_Nw (.methodLinkNest RX1 17 yX2_init "LoopSlicer") s := va_Nw.of rfl (hts (.methodLinkNest RX1 17 yX2_init "LoopSlicer") (by decide +kernel))
  have hN4 : va_Nw (.methodLinkNest RX4 9 yX2_init "LoopSlicer") s := va_Nw.of rfl (hts (.methodLinkNest RX4 9 yX2_init "LoopSlicer") (by decide +kernel))
  have hA : ∀ q : Nat, s.heap.size ≤ q → (fun q : Nat => s.heap.size ≤ q) q := fun _ h => h
  have hS : va_S (fun q : Nat => s.heap.size ≤ q) s.heap s.heap [] := va_S.rf
  have hP : va_P G vwCl [] s.heap := fun k q h => by simp at h
  have hD : va_D (fun q : Nat => s.heap.size ≤ q) [] := ⟨fun i j p q h => by simp at h, fun k q h => by simp at h⟩
  have hl := lv_entry ([.ref b]) (n := 8) (Nat.le_of_ble_eq_true rfl)
  rw [lg_entry_eq]
  generalize (lg_sl ([.ref b]) ++ List.replicate (8 - (lg_sl ([.ref b])).length) Slot.unset).toArray = ls at hl ⊢
  have hl : lv_has ls 8 [(0, .ref b)] := hl
  refine va_new (ci := 4) (fs := [.null, .null, .null, .null, .null, .null, .null]) (C := RX4) (T := TX4) (N := 7) hex hbc htw inlX4 tyX4 tyX4_ok hown (hts (.classLink RL 10 RX4) (by decide +kernel)) (hts (.instantiable RX4 7) (by decide +kernel)) (hts (.initialized RX4) (by decide +kernel)) hK hP hD hS hA rfl (fun j hj => by rcases (show j = 0 ∨ j = 1 ∨ j = 2 ∨ j = 3 ∨ j = 4 ∨ j = 5 ∨ j = 6 by omega) with rfl | rfl | rfl | rfl | rfl | rfl | rfl <;> rfl) (Nat.le_of_ble_eq_true rfl) (Nat.le_of_ble_eq_true rfl) dL_law_0 (fun q1 H hP hD hS => ?_)
  refine W.widen (k := 1) (n := 7) (Nat.le_of_ble_eq_true rfl) (Nat.le_of_ble_eq_true rfl) ?_
  refine lv_dup hex hbc dL_law_3 rfl ?_
  refine g_init (mc := 69) (ms := 1939) (rm := { frames := 3, cells := 69, slots := 1939, locals := 56 }) (ws := []) (rest := [.ref q1]) (wo := fun (u : Nat → Nat) => wx cx (a0 q1 u) s0X) (Ex := fun U => FV cx rw (NA q1 H.size) U ∧ va_AO "LoopSlicer$Loop" U ∧ va_Nw (.methodLinkNest RX1 17 yX2_init "LoopSlicer") U ∧ va_Nw (.methodLinkNest RX4 9 yX2_init "LoopSlicer") U) [] q1 ⟨hex, hbc, hml, hown, htw⟩ (mX4_init l G cx rw H.size q1) (cwI 0 htw gL_law_X4_init rfl rfl rfl (hts (.initialized RX4) (by decide +kernel)) (hts (.methodLink RL 90 yX4_init) (by decide +kernel)) (hts (.instanceMethod yX4_init) (by decide +kernel)) rfl (by decide +kernel) ⟨Nat.le_of_ble_eq_true rfl, Nat.le_of_ble_eq_true rfl⟩) hK hP hD hS hA (fun U hU hW hB => ⟨hF.to hS hU hW hB, va_AO.moved hW.alike hAO, va_Nw.warmM hW hN1, va_Nw.warmM hW hN4⟩) (fun _ U _ _ h => ⟨h.1.blind, h.2.1, va_Nw.same (u := U) rfl rfl h.2.2.1, va_Nw.same (u := U) rfl rfl h.2.2.2⟩) rfl rfl hl.1 (Nat.le_of_ble_eq_true rfl) dL_law_4 ⟨Nat.le_of_ble_eq_true rfl, Nat.le_of_ble_eq_true rfl⟩ (fun uX H locs hP hD hS => ?_)
  refine W.widen (k := 70) (n := 1946) (Nat.le_of_ble_eq_true rfl) (Nat.le_of_ble_eq_true rfl) ?_
  refine lv_astore_n (lv' := [(1, .ref q1), (0, .ref b)]) hex hbc dL_law_7 rfl hl (by decide) rfl (fun ls hl => ?_)
  refine va_new (ci := 4) (fs := [.null, .null, .null, .null, .null, .null, .null]) (C := RX4) (T := TX4) (N := 7) hex hbc htw inlX4 tyX4 tyX4_ok hown (hts (.classLink RL 10 RX4) (by decide +kernel)) (hts (.instantiable RX4 7) (by decide +kernel)) (hts (.initialized RX4) (by decide +kernel)) hK hP hD hS hA rfl (fun j hj => by rcases (show j = 0 ∨ j = 1 ∨ j = 2 ∨ j = 3 ∨ j = 4 ∨ j = 5 ∨ j = 6 by omega) with rfl | rfl | rfl | rfl | rfl | rfl | rfl <;> rfl) (Nat.le_of_ble_eq_true rfl) (Nat.le_of_ble_eq_true rfl) dL_law_8 (fun q2 H hP hD hS => ?_)
  refine W.widen (k := 71) (n := 1953) (Nat.le_of_ble_eq_true rfl) (Nat.le_of_ble_eq_true rfl) ?_
  refine lv_dup hex hbc dL_law_11 rfl ?_
  refine g_init (mc := 69) (ms := 1939) (rm := { frames := 3, cells := 69, slots := 1939, locals := 56 }) (ws := [] ++ wx cx (a0 q1 uX) s0X) (rest := [.ref q2]) (wo := fun (u : Nat → Nat) => wx cx (a0 q2 u) s0X) (Ex := fun U => FV cx rw (NA q2 H.size) U ∧ va_AO "LoopSlicer$Loop" U ∧ va_Nw (.methodLinkNest RX1 17 yX2_init "LoopSlicer") U ∧ va_Nw (.methodLinkNest RX4 9 yX2_init "LoopSlicer") U) [] q2 ⟨hex, hbc, hml, hown, htw⟩ (mX4_init l G cx rw H.size q2) (cwI 0 htw gL_law_X4_init rfl rfl rfl (hts (.initialized RX4) (by decide +kernel)) (hts (.methodLink RL 90 yX4_init) (by decide +kernel)) (hts (.instanceMethod yX4_init) (by decide +kernel)) rfl (by decide +kernel) ⟨Nat.le_of_ble_eq_true rfl, Nat.le_of_ble_eq_true rfl⟩) hK hP hD hS hA (fun U hU hW hB => ⟨hF.to hS hU hW hB, va_AO.moved hW.alike hAO, va_Nw.warmM hW hN1, va_Nw.warmM hW hN4⟩) (fun _ U _ _ h => ⟨h.1.blind, h.2.1, va_Nw.same (u := U) rfl rfl h.2.2.1, va_Nw.same (u := U) rfl rfl h.2.2.2⟩) rfl rfl hl.1 (Nat.le_of_ble_eq_true rfl) dL_law_12 ⟨Nat.le_of_ble_eq_true rfl, Nat.le_of_ble_eq_true rfl⟩ (fun uM H locs hP hD hS => ?_)
  refine W.widen (k := 140) (n := 3892) (Nat.le_of_ble_eq_true rfl) (Nat.le_of_ble_eq_true rfl) ?_
  rw [List.nil_append] at hP hD
  obtain ⟨hLw, hAp⟩ := Lp_of hP hD
  refine lv_astore_n (lv' := [(2, .ref q2), (1, .ref q1), (0, .ref b)]) hex hbc dL_law_15 rfl hl (by decide) rfl (fun ls hl => ?_)
  refine lv_iconst (v := iI 0) hex hbc dL_law_16 rfl ?_
  refine lv_istore_n (lv' := [(3, .int (iI 0)), (2, .ref q2), (1, .ref q1), (0, .ref b)]) hex hbc dL_law_17 rfl hl (by decide) rfl (fun ls hl => ?_)
  have C27 : LC p s m c b L xs G cx (a0 q1 uX) (a0 q2 uM) tl th := ⟨hex, hbc, hml, hown, htw, hX, hbl, hL, hK, hAp, h4⟩
  refine law_loop (l := l) (tl := tl) (th := th) (G := G) (cx := cx) (a := a0 q1 uX) (b := a0 q2 uM) C27 ⟨Nat.le_of_ble_eq_true rfl, Nat.le_of_ble_eq_true rfl⟩ (fun σ τ H locs ls hO hqb hLw hS hl => ?_) 41 0 s0X s0X (Int.le_refl 0) (by decide) (by decide) Ok_0 XQ_rf hLw locs ls hS (lv_sub hl [3, 2, 1, 0] rfl)
  refine lv_aload_n hex hbc dL_law_163 rfl (lv_at hl 0 rfl) ?_
  refine lv_aload_n hex hbc dL_law_164 rfl (lv_at hl 1 rfl) ?_
  refine p_both [.ref (a0 q1 uX 0), .ref (a0 q2 uM 0)] ⟨hex, hbc, hml, hown, htw⟩ (mL_areAlike l G cx (a0 q1 uX) (a0 q2 uM) σ τ hAp.2.2 hqb (Ok_use hO).1) (va_cwS 2 htw gL_law_L_areAlike rfl rfl rfl (by decide +kernel) ⟨Nat.le_of_ble_eq_true rfl, Nat.le_of_ble_eq_true rfl⟩) hK hLw hAp hS rfl rfl hl.1 (Nat.le_of_ble_eq_true rfl) dL_law_165 ⟨Nat.le_of_ble_eq_true rfl, Nat.le_of_ble_eq_true rfl⟩ (fun r H locs hw hS => ?_)
  subst hw
  refine va_forget (fun q hq => hS.2.2 q hq) ?_
  refine W.widen (k := 600000) (n := 7302250) (Nat.le_of_ble_eq_true rfl) (Nat.le_of_ble_eq_true rfl) ?_
  exact lw_ret hd0 hex hbc hr hlocks dL_law_168
