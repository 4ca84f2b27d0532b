/-! the law: its cases, on (wip/gen/law.py) -/
set_option maxHeartbeats 2000000 in
set_option maxRecDepth 20000 in
theorem law_energy {p : Program} {l : Launch} {e : Env} {s : State} {m : MethodId} {below : List Frame} {meth : Method} {c : Code} {H : Heap} {locs : List Loc} {ls : Array Slot} {cells slots : Nat} {Q : State → Prop} {bs L tl th : Nat} {xs : Nat → Int32} {G : va_G} {cx a b : Nat → Nat} {σ τ : Nat → Int → Int} {i : Int} (C : LC p s m c bs L xs G cx a b tl th) (hcs : cells ≤ room_1.cells ∧ slots ≤ room_1.slots) (hi : 0 ≤ i ∧ i + 4 ≤ (L : Int)) (hR : Rel (Nx σ) τ) (hL : Lw G cx a b σ τ H) (hS : va_S (fun q => s.heap.size ≤ q) s.heap H locs) (hl : lv_has ls 8 [(0, .ref bs), (1, .ref (a 0)), (2, .ref (b 0)), (3, .int (iI i))]) (kk : ∀ (u t : Nat → Int → Int) (H : Heap) (locs : List Loc) (ls : Array Slot), Rel (Nx u) t → Lw G cx a b u t H → va_S (fun q => s.heap.size ≤ q) s.heap H locs → lv_has ls 8 [(0, .ref bs), (1, .ref (a 0)), (2, .ref (b 0)), (3, .int (iI i))] → W p l e room_1 s m #[Value.ref bs] below meth c H locs cells slots Q (F0 m 746 ls [])) : W p l e room_1 s m #[Value.ref bs] below meth c H locs cells slots Q (F0 m 440 ls []) := by
  obtain ⟨hex, hbc, hml, hown, hts, hX, hbl, hL8, hK, hA, h4⟩ := C
  obtain ⟨hI, hIM, hHs, hN, hFl, hFk⟩ := Rel_use hR
  obtain ⟨h64, h1m, h16⟩ := Inv_b hI
  refine lv_aload_n hex hbc dL_law_440 rfl (lv_at hl 1 rfl) ?_
  refine lv_aload_n hex hbc dL_law_441 rfl (lv_at hl 0 rfl) ?_
  refine lv_iload_n hex hbc dL_law_442 rfl (lv_at hl 3 rfl) ?_
  refine lv_iconst (v := iI 1) hex hbc dL_law_443 rfl ?_
  refine zt_iadd hex hbc dL_law_444 ?_
  refine l_sld (z := (i + 1)) hex hbc hX hbl hS (by omega) hL8 dL_law_445 ?_
  refine l_callX [.int (iI (scv xs (i + 1)))] ⟨hex, hbc, hml, hown, hts⟩ (mX4_energy l G cx a σ (scv xs (i + 1)) (scv_in xs _) hI) (cwV 1 hts gL_law_X4_energy rfl rfl rfl (by decide +kernel) ⟨Nat.le_of_ble_eq_true rfl, Nat.le_of_ble_eq_true rfl⟩) hK hL hA hS rfl rfl hl.1 (Nat.le_of_ble_eq_true rfl) dL_law_446 hcs (fun r u H locs hx hL hS => ?_)
  refine lv_aload_n hex hbc dL_law_449 rfl (lv_at hl 2 rfl) ?_
  refine lv_aload_n hex hbc dL_law_450 rfl (lv_at hl 0 rfl) ?_
  refine lv_iload_n hex hbc dL_law_451 rfl (lv_at hl 3 rfl) ?_
  refine lv_iconst (v := iI 1) hex hbc dL_law_452 rfl ?_
  refine zt_iadd hex hbc dL_law_453 ?_
  refine l_sld (z := (i + 1)) hex hbc hX hbl hS (by omega) hL8 dL_law_454 ?_
  refine l_callM [.int (iI (scv xs (i + 1)))] ⟨hex, hbc, hml, hown, hts⟩ (mX5_energy l G cx b τ (scv xs (i + 1)) (scv_in xs _) hIM) (cwV 1 hts gL_law_X5_energy rfl rfl rfl (by decide +kernel) ⟨Nat.le_of_ble_eq_true rfl, Nat.le_of_ble_eq_true rfl⟩) hK hL hA hS rfl rfl hl.1 (Nat.le_of_ble_eq_true rfl) dL_law_455 hcs (fun q t H locs hm hL hS => ?_)
  have hst := st_energy (scv xs (i + 1)) hR (nx_energy (scv xs (i + 1)) hI h64 h1m h16 hx) hm
  refine lv_icmp_eq (tgt := 746) hex hbc dL_law_458 (by decide) (fun c => ?_) (fun c => ?_)
  · exact kk _ _ _ _ _ hst.2 hL hS (lv_sub hl [0, 1, 2, 3] rfl)
  · exact absurd hst.1 c
set_option maxHeartbeats 2000000 in
set_option maxRecDepth 20000 in
theorem law_slice {p : Program} {l : Launch} {e : Env} {s : State} {m : MethodId} {below : List Frame} {meth : Method} {c : Code} {H : Heap} {locs : List Loc} {ls : Array Slot} {cells slots : Nat} {Q : State → Prop} {bs L tl th : Nat} {xs : Nat → Int32} {G : va_G} {cx a b : Nat → Nat} {σ τ : Nat → Int → Int} {i : Int} (C : LC p s m c bs L xs G cx a b tl th) (hcs : cells ≤ room_1.cells ∧ slots ≤ room_1.slots) (hi : 0 ≤ i ∧ i + 4 ≤ (L : Int)) (hR : Rel (Nx σ) τ) (hL : Lw G cx a b σ τ H) (hS : va_S (fun q => s.heap.size ≤ q) s.heap H locs) (hl : lv_has ls 8 [(0, .ref bs), (1, .ref (a 0)), (2, .ref (b 0)), (3, .int (iI i))]) (kk : ∀ (u t : Nat → Int → Int) (H : Heap) (locs : List Loc) (ls : Array Slot), Rel (Nx u) t → Lw G cx a b u t H → va_S (fun q => s.heap.size ≤ q) s.heap H locs → lv_has ls 8 [(0, .ref bs), (1, .ref (a 0)), (2, .ref (b 0)), (3, .int (iI i))] → W p l e room_1 s m #[Value.ref bs] below meth c H locs cells slots Q (F0 m 746 ls [])) : W p l e room_1 s m #[Value.ref bs] below meth c H locs cells slots Q (F0 m 463 ls []) := by
  obtain ⟨hex, hbc, hml, hown, hts, hX, hbl, hL8, hK, hA, h4⟩ := C
  obtain ⟨hI, hIM, hHs, hN, hFl, hFk⟩ := Rel_use hR
  obtain ⟨h64, h1m, h16⟩ := Inv_b hI
  refine lv_aload_n hex hbc dL_law_463 rfl (lv_at hl 1 rfl) ?_
  refine lv_aload_n hex hbc dL_law_464 rfl (lv_at hl 0 rfl) ?_
  refine lv_iload_n hex hbc dL_law_465 rfl (lv_at hl 3 rfl) ?_
  refine lv_iconst (v := iI 1) hex hbc dL_law_466 rfl ?_
  refine zt_iadd hex hbc dL_law_467 ?_
  refine l_sld (z := (i + 1)) hex hbc hX hbl hS (by omega) hL8 dL_law_468 ?_
  refine lv_aload_n hex hbc dL_law_469 rfl (lv_at hl 0 rfl) ?_
  refine lv_iload_n hex hbc dL_law_470 rfl (lv_at hl 3 rfl) ?_
  refine lv_iconst (v := iI 2) hex hbc dL_law_471 rfl ?_
  refine zt_iadd hex hbc dL_law_472 ?_
  refine l_sld (z := (i + 2)) hex hbc hX hbl hS (by omega) hL8 dL_law_473 ?_
  refine l_callX [.int (iI (scv xs (i + 1))), .int (iI (scv xs (i + 2)))] ⟨hex, hbc, hml, hown, hts⟩ (mX4_slice l G cx a σ (scv xs (i + 1)) (scv xs (i + 2)) (scv_in xs _) (scv_in xs _) hI) (cwV 2 hts gL_law_X4_slice rfl rfl rfl (by decide +kernel) ⟨Nat.le_of_ble_eq_true rfl, Nat.le_of_ble_eq_true rfl⟩) hK hL hA hS rfl rfl hl.1 (Nat.le_of_ble_eq_true rfl) dL_law_474 hcs (fun r u H locs hx hL hS => ?_)
  refine lv_aload_n hex hbc dL_law_477 rfl (lv_at hl 2 rfl) ?_
  refine lv_aload_n hex hbc dL_law_478 rfl (lv_at hl 0 rfl) ?_
  refine lv_iload_n hex hbc dL_law_479 rfl (lv_at hl 3 rfl) ?_
  refine lv_iconst (v := iI 1) hex hbc dL_law_480 rfl ?_
  refine zt_iadd hex hbc dL_law_481 ?_
  refine l_sld (z := (i + 1)) hex hbc hX hbl hS (by omega) hL8 dL_law_482 ?_
  refine lv_aload_n hex hbc dL_law_483 rfl (lv_at hl 0 rfl) ?_
  refine lv_iload_n hex hbc dL_law_484 rfl (lv_at hl 3 rfl) ?_
  refine lv_iconst (v := iI 2) hex hbc dL_law_485 rfl ?_
  refine zt_iadd hex hbc dL_law_486 ?_
  refine l_sld (z := (i + 2)) hex hbc hX hbl hS (by omega) hL8 dL_law_487 ?_
  refine l_callM [.int (iI (scv xs (i + 1))), .int (iI (scv xs (i + 2)))] ⟨hex, hbc, hml, hown, hts⟩ (mX5_slice l G cx b τ (scv xs (i + 1)) (scv xs (i + 2)) (scv_in xs _) (scv_in xs _) hIM) (cwV 2 hts gL_law_X5_slice rfl rfl rfl (by decide +kernel) ⟨Nat.le_of_ble_eq_true rfl, Nat.le_of_ble_eq_true rfl⟩) hK hL hA hS rfl rfl hl.1 (Nat.le_of_ble_eq_true rfl) dL_law_488 hcs (fun q t H locs hm hL hS => ?_)
  have hst := st_slice (scv xs (i + 1)) (scv xs (i + 2)) hR (nx_slice (scv xs (i + 1)) (scv xs (i + 2)) hI h64 h1m h16 hx) hm
  refine lv_icmp_eq (tgt := 746) hex hbc dL_law_491 (by decide) (fun c => ?_) (fun c => ?_)
  · exact kk _ _ _ _ _ hst.2 hL hS (lv_sub hl [0, 1, 2, 3] rfl)
  · exact absurd hst.1 c
set_option maxHeartbeats 2000000 in
set_option maxRecDepth 20000 in
theorem law_order {p : Program} {l : Launch} {e : Env} {s : State} {m : MethodId} {below : List Frame} {meth : Method} {c : Code} {H : Heap} {locs : List Loc} {ls : Array Slot} {cells slots : Nat} {Q : State → Prop} {bs L tl th : Nat} {xs : Nat → Int32} {G : va_G} {cx a b : Nat → Nat} {σ τ : Nat → Int → Int} {i : Int} (C : LC p s m c bs L xs G cx a b tl th) (hcs : cells ≤ room_1.cells ∧ slots ≤ room_1.slots) (hi : 0 ≤ i ∧ i + 4 ≤ (L : Int)) (hR : Rel (Nx σ) τ) (hL : Lw G cx a b σ τ H) (hS : va_S (fun q => s.heap.size ≤ q) s.heap H locs) (hl : lv_has ls 8 [(0, .ref bs), (1, .ref (a 0)), (2, .ref (b 0)), (3, .int (iI i))]) (kk : ∀ (u t : Nat → Int → Int) (H : Heap) (locs : List Loc) (ls : Array Slot), Rel (Nx u) t → Lw G cx a b u t H → va_S (fun q => s.heap.size ≤ q) s.heap H locs → lv_has ls 8 [(0, .ref bs), (1, .ref (a 0)), (2, .ref (b 0)), (3, .int (iI i))] → W p l e room_1 s m #[Value.ref bs] below meth c H locs cells slots Q (F0 m 746 ls [])) : W p l e room_1 s m #[Value.ref bs] below meth c H locs cells slots Q (F0 m 496 ls []) := by
  obtain ⟨hex, hbc, hml, hown, hts, hX, hbl, hL8, hK, hA, h4⟩ := C
  obtain ⟨hI, hIM, hHs, hN, hFl, hFk⟩ := Rel_use hR
  obtain ⟨h64, h1m, h16⟩ := Inv_b hI
  refine lv_aload_n hex hbc dL_law_496 rfl (lv_at hl 1 rfl) ?_
  refine lv_aload_n hex hbc dL_law_497 rfl (lv_at hl 0 rfl) ?_
  refine lv_iload_n hex hbc dL_law_498 rfl (lv_at hl 3 rfl) ?_
  refine lv_iconst (v := iI 1) hex hbc dL_law_499 rfl ?_
  refine zt_iadd hex hbc dL_law_500 ?_
  refine l_sld (z := (i + 1)) hex hbc hX hbl hS (by omega) hL8 dL_law_501 ?_
  refine l_callX [.int (iI (scv xs (i + 1)))] ⟨hex, hbc, hml, hown, hts⟩ (mX4_order l G cx a σ (scv xs (i + 1)) (scv_in xs _) hI) (cwV 1 hts gL_law_X4_order rfl rfl rfl (by decide +kernel) ⟨Nat.le_of_ble_eq_true rfl, Nat.le_of_ble_eq_true rfl⟩) hK hL hA hS rfl rfl hl.1 (Nat.le_of_ble_eq_true rfl) dL_law_502 hcs (fun r u H locs hx hL hS => ?_)
  refine lv_aload_n hex hbc dL_law_505 rfl (lv_at hl 2 rfl) ?_
  refine lv_aload_n hex hbc dL_law_506 rfl (lv_at hl 0 rfl) ?_
  refine lv_iload_n hex hbc dL_law_507 rfl (lv_at hl 3 rfl) ?_
  refine lv_iconst (v := iI 1) hex hbc dL_law_508 rfl ?_
  refine zt_iadd hex hbc dL_law_509 ?_
  refine l_sld (z := (i + 1)) hex hbc hX hbl hS (by omega) hL8 dL_law_510 ?_
  refine l_callM [.int (iI (scv xs (i + 1)))] ⟨hex, hbc, hml, hown, hts⟩ (mX5_order l G cx b τ (scv xs (i + 1)) (scv_in xs _) hIM) (cwV 1 hts gL_law_X5_order rfl rfl rfl (by decide +kernel) ⟨Nat.le_of_ble_eq_true rfl, Nat.le_of_ble_eq_true rfl⟩) hK hL hA hS rfl rfl hl.1 (Nat.le_of_ble_eq_true rfl) dL_law_511 hcs (fun q t H locs hm hL hS => ?_)
  have hst := st_order (scv xs (i + 1)) hR (nx_order (scv xs (i + 1)) hI h64 h1m h16 hx) hm
  refine lv_icmp_eq (tgt := 746) hex hbc dL_law_514 (by decide) (fun c => ?_) (fun c => ?_)
  · exact kk _ _ _ _ _ hst.2 hL hS (lv_sub hl [0, 1, 2, 3] rfl)
  · exact absurd hst.1 c
set_option maxHeartbeats 2000000 in
set_option maxRecDepth 20000 in
theorem law_source {p : Program} {l : Launch} {e : Env} {s : State} {m : MethodId} {below : List Frame} {meth : Method} {c : Code} {H : Heap} {locs : List Loc} {ls : Array Slot} {cells slots : Nat} {Q : State → Prop} {bs L tl th : Nat} {xs : Nat → Int32} {G : va_G} {cx a b : Nat → Nat} {σ τ : Nat → Int → Int} {i : Int} (C : LC p s m c bs L xs G cx a b tl th) (hcs : cells ≤ room_1.cells ∧ slots ≤ room_1.slots) (hi : 0 ≤ i ∧ i + 4 ≤ (L : Int)) (hR : Rel (Nx σ) τ) (hL : Lw G cx a b σ τ H) (hS : va_S (fun q => s.heap.size ≤ q) s.heap H locs) (hl : lv_has ls 8 [(0, .ref bs), (1, .ref (a 0)), (2, .ref (b 0)), (3, .int (iI i))]) (kk : ∀ (u t : Nat → Int → Int) (H : Heap) (locs : List Loc) (ls : Array Slot), Rel (Nx u) t → Lw G cx a b u t H → va_S (fun q => s.heap.size ≤ q) s.heap H locs → lv_has ls 8 [(0, .ref bs), (1, .ref (a 0)), (2, .ref (b 0)), (3, .int (iI i))] → W p l e room_1 s m #[Value.ref bs] below meth c H locs cells slots Q (F0 m 746 ls [])) : W p l e room_1 s m #[Value.ref bs] below meth c H locs cells slots Q (F0 m 519 ls []) := by
  obtain ⟨hex, hbc, hml, hown, hts, hX, hbl, hL8, hK, hA, h4⟩ := C
  obtain ⟨hI, hIM, hHs, hN, hFl, hFk⟩ := Rel_use hR
  obtain ⟨h64, h1m, h16⟩ := Inv_b hI
  refine lv_aload_n hex hbc dL_law_519 rfl (lv_at hl 1 rfl) ?_
  refine lv_aload_n hex hbc dL_law_520 rfl (lv_at hl 0 rfl) ?_
  refine lv_iload_n hex hbc dL_law_521 rfl (lv_at hl 3 rfl) ?_
  refine lv_iconst (v := iI 1) hex hbc dL_law_522 rfl ?_
  refine zt_iadd hex hbc dL_law_523 ?_
  refine l_sld (z := (i + 1)) hex hbc hX hbl hS (by omega) hL8 dL_law_524 ?_
  refine lv_aload_n hex hbc dL_law_525 rfl (lv_at hl 0 rfl) ?_
  refine lv_iload_n hex hbc dL_law_526 rfl (lv_at hl 3 rfl) ?_
  refine lv_iconst (v := iI 2) hex hbc dL_law_527 rfl ?_
  refine zt_iadd hex hbc dL_law_528 ?_
  refine l_sld (z := (i + 2)) hex hbc hX hbl hS (by omega) hL8 dL_law_529 ?_
  refine l_callX [.int (iI (scv xs (i + 1))), .int (iI (scv xs (i + 2)))] ⟨hex, hbc, hml, hown, hts⟩ (mX4_source l G cx a σ (scv xs (i + 1)) (scv xs (i + 2)) (scv_in xs _) (scv_in xs _) hI) (cwV 2 hts gL_law_X4_source rfl rfl rfl (by decide +kernel) ⟨Nat.le_of_ble_eq_true rfl, Nat.le_of_ble_eq_true rfl⟩) hK hL hA hS rfl rfl hl.1 (Nat.le_of_ble_eq_true rfl) dL_law_530 hcs (fun r u H locs hx hL hS => ?_)
  refine lv_aload_n hex hbc dL_law_533 rfl (lv_at hl 2 rfl) ?_
  refine lv_aload_n hex hbc dL_law_534 rfl (lv_at hl 0 rfl) ?_
  refine lv_iload_n hex hbc dL_law_535 rfl (lv_at hl 3 rfl) ?_
  refine lv_iconst (v := iI 1) hex hbc dL_law_536 rfl ?_
  refine zt_iadd hex hbc dL_law_537 ?_
  refine l_sld (z := (i + 1)) hex hbc hX hbl hS (by omega) hL8 dL_law_538 ?_
  refine lv_aload_n hex hbc dL_law_539 rfl (lv_at hl 0 rfl) ?_
  refine lv_iload_n hex hbc dL_law_540 rfl (lv_at hl 3 rfl) ?_
  refine lv_iconst (v := iI 2) hex hbc dL_law_541 rfl ?_
  refine zt_iadd hex hbc dL_law_542 ?_
  refine l_sld (z := (i + 2)) hex hbc hX hbl hS (by omega) hL8 dL_law_543 ?_
  refine l_callM [.int (iI (scv xs (i + 1))), .int (iI (scv xs (i + 2)))] ⟨hex, hbc, hml, hown, hts⟩ (mX5_source l G cx b τ (scv xs (i + 1)) (scv xs (i + 2)) (scv_in xs _) (scv_in xs _) hIM) (cwV 2 hts gL_law_X5_source rfl rfl rfl (by decide +kernel) ⟨Nat.le_of_ble_eq_true rfl, Nat.le_of_ble_eq_true rfl⟩) hK hL hA hS rfl rfl hl.1 (Nat.le_of_ble_eq_true rfl) dL_law_544 hcs (fun q t H locs hm hL hS => ?_)
  have hst := st_source (scv xs (i + 1)) (scv xs (i + 2)) hR (nx_source (scv xs (i + 1)) (scv xs (i + 2)) hI h64 h1m h16 hx) hm
  refine lv_icmp_eq (tgt := 746) hex hbc dL_law_547 (by decide) (fun c => ?_) (fun c => ?_)
  · exact kk _ _ _ _ _ hst.2 hL hS (lv_sub hl [0, 1, 2, 3] rfl)
  · exact absurd hst.1 c
set_option maxHeartbeats 2000000 in
set_option maxRecDepth 20000 in
theorem law_warp {p : Program} {l : Launch} {e : Env} {s : State} {m : MethodId} {below : List Frame} {meth : Method} {c : Code} {H : Heap} {locs : List Loc} {ls : Array Slot} {cells slots : Nat} {Q : State → Prop} {bs L tl th : Nat} {xs : Nat → Int32} {G : va_G} {cx a b : Nat → Nat} {σ τ : Nat → Int → Int} {i : Int} (C : LC p s m c bs L xs G cx a b tl th) (hcs : cells ≤ room_1.cells ∧ slots ≤ room_1.slots) (hi : 0 ≤ i ∧ i + 4 ≤ (L : Int)) (hR : Rel (Nx σ) τ) (hL : Lw G cx a b σ τ H) (hS : va_S (fun q => s.heap.size ≤ q) s.heap H locs) (hl : lv_has ls 8 [(0, .ref bs), (1, .ref (a 0)), (2, .ref (b 0)), (3, .int (iI i))]) (kk : ∀ (u t : Nat → Int → Int) (H : Heap) (locs : List Loc) (ls : Array Slot), Rel (Nx u) t → Lw G cx a b u t H → va_S (fun q => s.heap.size ≤ q) s.heap H locs → lv_has ls 8 [(0, .ref bs), (1, .ref (a 0)), (2, .ref (b 0)), (3, .int (iI i))] → W p l e room_1 s m #[Value.ref bs] below meth c H locs cells slots Q (F0 m 746 ls [])) : W p l e room_1 s m #[Value.ref bs] below meth c H locs cells slots Q (F0 m 552 ls []) := by
  obtain ⟨hex, hbc, hml, hown, hts, hX, hbl, hL8, hK, hA, h4⟩ := C
  obtain ⟨hI, hIM, hHs, hN, hFl, hFk⟩ := Rel_use hR
  obtain ⟨h64, h1m, h16⟩ := Inv_b hI
  refine lv_aload_n hex hbc dL_law_552 rfl (lv_at hl 1 rfl) ?_
  refine lv_aload_n hex hbc dL_law_553 rfl (lv_at hl 0 rfl) ?_
  refine lv_iload_n hex hbc dL_law_554 rfl (lv_at hl 3 rfl) ?_
  refine lv_iconst (v := iI 1) hex hbc dL_law_555 rfl ?_
  refine zt_iadd hex hbc dL_law_556 ?_
  refine l_sld (z := (i + 1)) hex hbc hX hbl hS (by omega) hL8 dL_law_557 ?_
  refine l_callXf [.int (iI (scv xs (i + 1)))] ⟨hex, hbc, hml, hown, hts⟩ (mX4_warp l G cx a σ (scv xs (i + 1)) (scv_in xs _) hI) (cwV 1 hts gL_law_X4_warp rfl rfl rfl (by decide +kernel) ⟨Nat.le_of_ble_eq_true rfl, Nat.le_of_ble_eq_true rfl⟩) hK hL hA hS rfl rfl hl.1 (Nat.le_of_ble_eq_true rfl) dL_law_558 hcs (fun r u H locs hx hL hS => ?_)
  refine lv_f2d hex hbc dL_law_561 (WV_no hI hx.1) ?_
  refine lv_dstore (lv' := [(4, .double (FP.f2d r)), (0, .ref bs), (1, .ref (a 0)), (2, .ref (b 0)), (3, .int (iI i))]) hex hbc dL_law_562 hl (by decide) rfl (fun ls hl => ?_)
  refine lv_aload_n hex hbc dL_law_564 rfl (lv_at hl 3 rfl) ?_
  refine lv_aload_n hex hbc dL_law_565 rfl (lv_at hl 1 rfl) ?_
  refine lv_iload_n hex hbc dL_law_566 rfl (lv_at hl 4 rfl) ?_
  refine lv_iconst (v := iI 1) hex hbc dL_law_567 rfl ?_
  refine zt_iadd hex hbc dL_law_568 ?_
  refine l_sld (z := (i + 1)) hex hbc hX hbl hS (by omega) hL8 dL_law_569 ?_
  refine l_callMf [.int (iI (scv xs (i + 1)))] ⟨hex, hbc, hml, hown, hts⟩ (mX5_warp l G cx b τ (scv xs (i + 1)) (scv_in xs _) hIM) (cwV 1 hts gL_law_X5_warp rfl rfl rfl (by decide +kernel) ⟨Nat.le_of_ble_eq_true rfl, Nat.le_of_ble_eq_true rfl⟩) hK hL hA hS rfl rfl hl.1 (Nat.le_of_ble_eq_true rfl) dL_law_570 hcs (fun q t H locs hm hL hS => ?_)
  have hst := st_warp (scv xs (i + 1)) hR (nx_warp (scv xs (i + 1)) hI h64 h1m h16 hx) hm
  refine lv_f2d hex hbc dL_law_573 (WV_no hIM hm.1) ?_
  refine lv_dstore (lv' := [(6, .double (FP.f2d q)), (4, .double (FP.f2d r)), (0, .ref bs), (1, .ref (a 0)), (2, .ref (b 0)), (3, .int (iI i))]) hex hbc dL_law_574 hl (by decide) rfl (fun ls hl => ?_)
  obtain ⟨e1, hR2⟩ := hst
  subst e1
  generalize FP.f2d r = dv at hl
  have k602 : W p l e room_1 s m #[Value.ref bs] below meth c H locs cells slots Q (F0 m 602 ls []) := lv_goto (tgt := 746) hex hbc dL_law_602 (by decide) (kk _ _ _ _ _ hR2 hL hS (lv_sub hl [2, 3, 4, 5] rfl))
  refine lv_dload hex hbc dL_law_576 (lv_at hl 1 rfl) ?_
  refine lv_dload hex hbc dL_law_578 (lv_at hl 0 rfl) ?_
  refine lv_dcmp hex hbc dL_law_580 ?_
  refine lv_if_eq (tgt := 602) hex hbc dL_law_581 (by decide) (fun _ => k602) (fun c1 => ?_)
  refine lv_dload hex hbc dL_law_584 (lv_at hl 1 rfl) ?_
  refine lv_dload hex hbc dL_law_586 (lv_at hl 1 rfl) ?_
  refine lv_dcmp hex hbc dL_law_588 ?_
  refine lv_if_eq (tgt := 600) hex hbc dL_law_589 (by decide) (fun c2 => absurd c2 c1) (fun _ => ?_)
  refine lv_dload hex hbc dL_law_592 (lv_at hl 0 rfl) ?_
  refine lv_dload hex hbc dL_law_594 (lv_at hl 0 rfl) ?_
  refine lv_dcmp hex hbc dL_law_596 ?_
  exact lv_if_ne (tgt := 602) hex hbc dL_law_597 (by decide) (fun _ => k602) (fun c2 => by first | exact absurd c2 c1 | exact absurd c1 c2)
set_option maxHeartbeats 2000000 in
set_option maxRecDepth 20000 in
theorem law_shift {p : Program} {l : Launch} {e : Env} {s : State} {m : MethodId} {below : List Frame} {meth : Method} {c : Code} {H : Heap} {locs : List Loc} {ls : Array Slot} {cells slots : Nat} {Q : State → Prop} {bs L tl th : Nat} {xs : Nat → Int32} {G : va_G} {cx a b : Nat → Nat} {σ τ : Nat → Int → Int} {i : Int} (C : LC p s m c bs L xs G cx a b tl th) (hcs : cells ≤ room_1.cells ∧ slots ≤ room_1.slots) (hi : 0 ≤ i ∧ i + 4 ≤ (L : Int)) (hR : Rel (Nx σ) τ) (hL : Lw G cx a b σ τ H) (hS : va_S (fun q => s.heap.size ≤ q) s.heap H locs) (hl : lv_has ls 8 [(0, .ref bs), (1, .ref (a 0)), (2, .ref (b 0)), (3, .int (iI i))]) (kk : ∀ (u t : Nat → Int → Int) (H : Heap) (locs : List Loc) (ls : Array Slot), Rel (Nx u) t → Lw G cx a b u t H → va_S (fun q => s.heap.size ≤ q) s.heap H locs → lv_has ls 8 [(0, .ref bs), (1, .ref (a 0)), (2, .ref (b 0)), (3, .int (iI i))] → W p l e room_1 s m #[Value.ref bs] below meth c H locs cells slots Q (F0 m 746 ls [])) : W p l e room_1 s m #[Value.ref bs] below meth c H locs cells slots Q (F0 m 605 ls []) := by
  obtain ⟨hex, hbc, hml, hown, hts, hX, hbl, hL8, hK, hA, h4⟩ := C
  obtain ⟨hI, hIM, hHs, hN, hFl, hFk⟩ := Rel_use hR
  obtain ⟨h64, h1m, h16⟩ := Inv_b hI
  refine lv_aload_n hex hbc dL_law_605 rfl (lv_at hl 1 rfl) ?_
  refine l_callX [] ⟨hex, hbc, hml, hown, hts⟩ (mX4_shift l G cx a σ  hI) (cwV 0 hts gL_law_X4_shift rfl rfl rfl (by decide +kernel) ⟨Nat.le_of_ble_eq_true rfl, Nat.le_of_ble_eq_true rfl⟩) hK hL hA hS rfl rfl hl.1 (Nat.le_of_ble_eq_true rfl) dL_law_606 hcs (fun r u H locs hx hL hS => ?_)
  refine lv_aload_n hex hbc dL_law_609 rfl (lv_at hl 2 rfl) ?_
  refine l_callM [] ⟨hex, hbc, hml, hown, hts⟩ (mX5_shift l G cx b τ  hIM) (cwV 0 hts gL_law_X5_shift rfl rfl rfl (by decide +kernel) ⟨Nat.le_of_ble_eq_true rfl, Nat.le_of_ble_eq_true rfl⟩) hK hL hA hS rfl rfl hl.1 (Nat.le_of_ble_eq_true rfl) dL_law_610 hcs (fun q t H locs hm hL hS => ?_)
  have hst := st_shift  hR (nx_shift  hI h64 h1m h16 hx) hm
  refine lv_icmp_eq (tgt := 746) hex hbc dL_law_613 (by decide) (fun c => ?_) (fun c => ?_)
  · exact kk _ _ _ _ _ hst.2 hL hS (lv_sub hl [0, 1, 2, 3] rfl)
  · exact absurd hst.1 c
set_option maxHeartbeats 2000000 in
set_option maxRecDepth 20000 in
theorem law_leastGrid {p : Program} {l : Launch} {e : Env} {s : State} {m : MethodId} {below : List Frame} {meth : Method} {c : Code} {H : Heap} {locs : List Loc} {ls : Array Slot} {cells slots : Nat} {Q : State → Prop} {bs L tl th : Nat} {xs : Nat → Int32} {G : va_G} {cx a b : Nat → Nat} {σ τ : Nat → Int → Int} {i : Int} (C : LC p s m c bs L xs G cx a b tl th) (hcs : cells ≤ room_1.cells ∧ slots ≤ room_1.slots) (hi : 0 ≤ i ∧ i + 4 ≤ (L : Int)) (hR : Rel (Nx σ) τ) (hL : Lw G cx a b σ τ H) (hS : va_S (fun q => s.heap.size ≤ q) s.heap H locs) (hl : lv_has ls 8 [(0, .ref bs), (1, .ref (a 0)), (2, .ref (b 0)), (3, .int (iI i))]) (kk : ∀ (u t : Nat → Int → Int) (H : Heap) (locs : List Loc) (ls : Array Slot), Rel (Nx u) t → Lw G cx a b u t H → va_S (fun q => s.heap.size ≤ q) s.heap H locs → lv_has ls 8 [(0, .ref bs), (1, .ref (a 0)), (2, .ref (b 0)), (3, .int (iI i))] → W p l e room_1 s m #[Value.ref bs] below meth c H locs cells slots Q (F0 m 746 ls [])) : W p l e room_1 s m #[Value.ref bs] below meth c H locs cells slots Q (F0 m 618 ls []) := by
  obtain ⟨hex, hbc, hml, hown, hts, hX, hbl, hL8, hK, hA, h4⟩ := C
  obtain ⟨hI, hIM, hHs, hN, hFl, hFk⟩ := Rel_use hR
  obtain ⟨h64, h1m, h16⟩ := Inv_b hI
  refine lv_aload_n hex hbc dL_law_618 rfl (lv_at hl 1 rfl) ?_
  refine l_callX [] ⟨hex, hbc, hml, hown, hts⟩ (mX4_leastGrid l G cx a σ  hI) (cwV 0 hts gL_law_X4_leastGrid rfl rfl rfl (by decide +kernel) ⟨Nat.le_of_ble_eq_true rfl, Nat.le_of_ble_eq_true rfl⟩) hK hL hA hS rfl rfl hl.1 (Nat.le_of_ble_eq_true rfl) dL_law_619 hcs (fun r u H locs hx hL hS => ?_)
  refine lv_aload_n hex hbc dL_law_622 rfl (lv_at hl 2 rfl) ?_
  refine l_callM [] ⟨hex, hbc, hml, hown, hts⟩ (mX5_leastGrid l G cx b τ  hIM) (cwV 0 hts gL_law_X5_leastGrid rfl rfl rfl (by decide +kernel) ⟨Nat.le_of_ble_eq_true rfl, Nat.le_of_ble_eq_true rfl⟩) hK hL hA hS rfl rfl hl.1 (Nat.le_of_ble_eq_true rfl) dL_law_623 hcs (fun q t H locs hm hL hS => ?_)
  have hst := st_leastGrid  hR (nx_leastGrid  hI h64 h1m h16 hx) hm
  refine lv_icmp_eq (tgt := 746) hex hbc dL_law_626 (by decide) (fun c => ?_) (fun c => ?_)
  · exact kk _ _ _ _ _ hst.2 hL hS (lv_sub hl [0, 1, 2, 3] rfl)
  · exact absurd hst.1 c
set_option maxHeartbeats 2000000 in
set_option maxRecDepth 20000 in
theorem law_nearTarget {p : Program} {l : Launch} {e : Env} {s : State} {m : MethodId} {below : List Frame} {meth : Method} {c : Code} {H : Heap} {locs : List Loc} {ls : Array Slot} {cells slots : Nat} {Q : State → Prop} {bs L tl th : Nat} {xs : Nat → Int32} {G : va_G} {cx a b : Nat → Nat} {σ τ : Nat → Int → Int} {i : Int} (C : LC p s m c bs L xs G cx a b tl th) (hcs : cells ≤ room_1.cells ∧ slots ≤ room_1.slots) (hi : 0 ≤ i ∧ i + 4 ≤ (L : Int)) (hR : Rel (Nx σ) τ) (hL : Lw G cx a b σ τ H) (hS : va_S (fun q => s.heap.size ≤ q) s.heap H locs) (hl : lv_has ls 8 [(0, .ref bs), (1, .ref (a 0)), (2, .ref (b 0)), (3, .int (iI i))]) (kk : ∀ (u t : Nat → Int → Int) (H : Heap) (locs : List Loc) (ls : Array Slot), Rel (Nx u) t → Lw G cx a b u t H → va_S (fun q => s.heap.size ≤ q) s.heap H locs → lv_has ls 8 [(0, .ref bs), (1, .ref (a 0)), (2, .ref (b 0)), (3, .int (iI i))] → W p l e room_1 s m #[Value.ref bs] below meth c H locs cells slots Q (F0 m 746 ls [])) : W p l e room_1 s m #[Value.ref bs] below meth c H locs cells slots Q (F0 m 631 ls []) := by
  obtain ⟨hex, hbc, hml, hown, hts, hX, hbl, hL8, hK, hA, h4⟩ := C
  obtain ⟨hI, hIM, hHs, hN, hFl, hFk⟩ := Rel_use hR
  obtain ⟨h64, h1m, h16⟩ := Inv_b hI
  refine lv_aload_n hex hbc dL_law_631 rfl (lv_at hl 1 rfl) ?_
  refine lv_aload_n hex hbc dL_law_632 rfl (lv_at hl 0 rfl) ?_
  refine lv_iload_n hex hbc dL_law_633 rfl (lv_at hl 3 rfl) ?_
  refine lv_iconst (v := iI 1) hex hbc dL_law_634 rfl ?_
  refine zt_iadd hex hbc dL_law_635 ?_
  refine l_sld (z := (i + 1)) hex hbc hX hbl hS (by omega) hL8 dL_law_636 ?_
  refine l_callX [.int (iI (scv xs (i + 1)))] ⟨hex, hbc, hml, hown, hts⟩ (mX4_nearTarget l G cx a σ (scv xs (i + 1)) (scv_in xs _) hI) (cwV 1 hts gL_law_X4_nearTarget rfl rfl rfl (by decide +kernel) ⟨Nat.le_of_ble_eq_true rfl, Nat.le_of_ble_eq_true rfl⟩) hK hL hA hS rfl rfl hl.1 (Nat.le_of_ble_eq_true rfl) dL_law_637 hcs (fun r u H locs hx hL hS => ?_)
  refine lv_aload_n hex hbc dL_law_640 rfl (lv_at hl 2 rfl) ?_
  refine lv_aload_n hex hbc dL_law_641 rfl (lv_at hl 0 rfl) ?_
  refine lv_iload_n hex hbc dL_law_642 rfl (lv_at hl 3 rfl) ?_
  refine lv_iconst (v := iI 1) hex hbc dL_law_643 rfl ?_
  refine zt_iadd hex hbc dL_law_644 ?_
  refine l_sld (z := (i + 1)) hex hbc hX hbl hS (by omega) hL8 dL_law_645 ?_
  refine l_callM [.int (iI (scv xs (i + 1)))] ⟨hex, hbc, hml, hown, hts⟩ (mX5_nearTarget l G cx b τ (scv xs (i + 1)) (scv_in xs _) hIM) (cwV 1 hts gL_law_X5_nearTarget rfl rfl rfl (by decide +kernel) ⟨Nat.le_of_ble_eq_true rfl, Nat.le_of_ble_eq_true rfl⟩) hK hL hA hS rfl rfl hl.1 (Nat.le_of_ble_eq_true rfl) dL_law_646 hcs (fun q t H locs hm hL hS => ?_)
  have hst := st_nearTarget (scv xs (i + 1)) hR (nx_nearTarget (scv xs (i + 1)) hI h64 h1m h16 hx) hm
  refine lv_icmp_eq (tgt := 746) hex hbc dL_law_649 (by decide) (fun c => ?_) (fun c => ?_)
  · exact kk _ _ _ _ _ hst.2 hL hS (lv_sub hl [0, 1, 2, 3] rfl)
  · exact absurd hst.1 c
set_option maxHeartbeats 2000000 in
set_option maxRecDepth 20000 in
theorem law_marksWith {p : Program} {l : Launch} {e : Env} {s : State} {m : MethodId} {below : List Frame} {meth : Method} {c : Code} {H : Heap} {locs : List Loc} {ls : Array Slot} {cells slots : Nat} {Q : State → Prop} {bs L tl th : Nat} {xs : Nat → Int32} {G : va_G} {cx a b : Nat → Nat} {σ τ : Nat → Int → Int} {i : Int} (C : LC p s m c bs L xs G cx a b tl th) (hcs : cells ≤ room_1.cells ∧ slots ≤ room_1.slots) (hi : 0 ≤ i ∧ i + 4 ≤ (L : Int)) (hR : Rel (Nx σ) τ) (hL : Lw G cx a b σ τ H) (hS : va_S (fun q => s.heap.size ≤ q) s.heap H locs) (hl : lv_has ls 8 [(0, .ref bs), (1, .ref (a 0)), (2, .ref (b 0)), (3, .int (iI i))]) (kk : ∀ (u t : Nat → Int → Int) (H : Heap) (locs : List Loc) (ls : Array Slot), Rel (Nx u) t → Lw G cx a b u t H → va_S (fun q => s.heap.size ≤ q) s.heap H locs → lv_has ls 8 [(0, .ref bs), (1, .ref (a 0)), (2, .ref (b 0)), (3, .int (iI i))] → W p l e room_1 s m #[Value.ref bs] below meth c H locs cells slots Q (F0 m 746 ls [])) : W p l e room_1 s m #[Value.ref bs] below meth c H locs cells slots Q (F0 m 654 ls []) := by
  obtain ⟨hex, hbc, hml, hown, hts, hX, hbl, hL8, hK, hA, h4⟩ := C
  obtain ⟨hI, hIM, hHs, hN, hFl, hFk⟩ := Rel_use hR
  obtain ⟨h64, h1m, h16⟩ := Inv_b hI
  refine lv_aload_n hex hbc dL_law_654 rfl (lv_at hl 1 rfl) ?_
  refine lv_aload_n hex hbc dL_law_655 rfl (lv_at hl 0 rfl) ?_
  refine lv_iload_n hex hbc dL_law_656 rfl (lv_at hl 3 rfl) ?_
  refine lv_iconst (v := iI 1) hex hbc dL_law_657 rfl ?_
  refine zt_iadd hex hbc dL_law_658 ?_
  refine l_sld (z := (i + 1)) hex hbc hX hbl hS (by omega) hL8 dL_law_659 ?_
  refine l_callX [.int (iI (scv xs (i + 1)))] ⟨hex, hbc, hml, hown, hts⟩ (mX4_marksWith l G cx a σ (scv xs (i + 1)) (scv_in xs _) hI) (cwV 1 hts gL_law_X4_marksWith rfl rfl rfl (by decide +kernel) ⟨Nat.le_of_ble_eq_true rfl, Nat.le_of_ble_eq_true rfl⟩) hK hL hA hS rfl rfl hl.1 (Nat.le_of_ble_eq_true rfl) dL_law_660 hcs (fun r u H locs hx hL hS => ?_)
  refine lv_aload_n hex hbc dL_law_663 rfl (lv_at hl 2 rfl) ?_
  refine lv_aload_n hex hbc dL_law_664 rfl (lv_at hl 0 rfl) ?_
  refine lv_iload_n hex hbc dL_law_665 rfl (lv_at hl 3 rfl) ?_
  refine lv_iconst (v := iI 1) hex hbc dL_law_666 rfl ?_
  refine zt_iadd hex hbc dL_law_667 ?_
  refine l_sld (z := (i + 1)) hex hbc hX hbl hS (by omega) hL8 dL_law_668 ?_
  refine l_callM [.int (iI (scv xs (i + 1)))] ⟨hex, hbc, hml, hown, hts⟩ (mX5_marksWith l G cx b τ (scv xs (i + 1)) (scv_in xs _) hIM) (cwV 1 hts gL_law_X5_marksWith rfl rfl rfl (by decide +kernel) ⟨Nat.le_of_ble_eq_true rfl, Nat.le_of_ble_eq_true rfl⟩) hK hL hA hS rfl rfl hl.1 (Nat.le_of_ble_eq_true rfl) dL_law_669 hcs (fun q t H locs hm hL hS => ?_)
  have hst := st_marksWith (scv xs (i + 1)) hR (nx_marksWith (scv xs (i + 1)) hI h64 h1m h16 hx) hm
  refine lv_icmp_eq (tgt := 746) hex hbc dL_law_672 (by decide) (fun c => ?_) (fun c => ?_)
  · exact kk _ _ _ _ _ hst.2 hL hS (lv_sub hl [0, 1, 2, 3] rfl)
  · exact absurd hst.1 c
set_option maxHeartbeats 2000000 in
set_option maxRecDepth 20000 in
theorem law_thresholdFor {p : Program} {l : Launch} {e : Env} {s : State} {m : MethodId} {below : List Frame} {meth : Method} {c : Code} {H : Heap} {locs : List Loc} {ls : Array Slot} {cells slots : Nat} {Q : State → Prop} {bs L tl th : Nat} {xs : Nat → Int32} {G : va_G} {cx a b : Nat → Nat} {σ τ : Nat → Int → Int} {i : Int} (C : LC p s m c bs L xs G cx a b tl th) (hcs : cells ≤ room_1.cells ∧ slots ≤ room_1.slots) (hi : 0 ≤ i ∧ i + 4 ≤ (L : Int)) (hR : Rel (Nx σ) τ) (hL : Lw G cx a b σ τ H) (hS : va_S (fun q => s.heap.size ≤ q) s.heap H locs) (hl : lv_has ls 8 [(0, .ref bs), (1, .ref (a 0)), (2, .ref (b 0)), (3, .int (iI i))]) (kk : ∀ (u t : Nat → Int → Int) (H : Heap) (locs : List Loc) (ls : Array Slot), Rel (Nx u) t → Lw G cx a b u t H → va_S (fun q => s.heap.size ≤ q) s.heap H locs → lv_has ls 8 [(0, .ref bs), (1, .ref (a 0)), (2, .ref (b 0)), (3, .int (iI i))] → W p l e room_1 s m #[Value.ref bs] below meth c H locs cells slots Q (F0 m 746 ls [])) : W p l e room_1 s m #[Value.ref bs] below meth c H locs cells slots Q (F0 m 677 ls []) := by
  obtain ⟨hex, hbc, hml, hown, hts, hX, hbl, hL8, hK, hA, h4⟩ := C
  obtain ⟨hI, hIM, hHs, hN, hFl, hFk⟩ := Rel_use hR
  obtain ⟨h64, h1m, h16⟩ := Inv_b hI
  refine lv_aload_n hex hbc dL_law_677 rfl (lv_at hl 1 rfl) ?_
  refine lv_aload_n hex hbc dL_law_678 rfl (lv_at hl 0 rfl) ?_
  refine lv_iload_n hex hbc dL_law_679 rfl (lv_at hl 3 rfl) ?_
  refine lv_iconst (v := iI 1) hex hbc dL_law_680 rfl ?_
  refine zt_iadd hex hbc dL_law_681 ?_
  refine l_sld (z := (i + 1)) hex hbc hX hbl hS (by omega) hL8 dL_law_682 ?_
  refine l_callX [.int (iI (scv xs (i + 1)))] ⟨hex, hbc, hml, hown, hts⟩ (mX4_thresholdFor l G cx a σ (scv xs (i + 1)) (scv_in xs _) hI) (cwV 1 hts gL_law_X4_thresholdFor rfl rfl rfl (by decide +kernel) ⟨Nat.le_of_ble_eq_true rfl, Nat.le_of_ble_eq_true rfl⟩) hK hL hA hS rfl rfl hl.1 (Nat.le_of_ble_eq_true rfl) dL_law_683 hcs (fun r u H locs hx hL hS => ?_)
  refine lv_aload_n hex hbc dL_law_686 rfl (lv_at hl 2 rfl) ?_
  refine lv_aload_n hex hbc dL_law_687 rfl (lv_at hl 0 rfl) ?_
  refine lv_iload_n hex hbc dL_law_688 rfl (lv_at hl 3 rfl) ?_
  refine lv_iconst (v := iI 1) hex hbc dL_law_689 rfl ?_
  refine zt_iadd hex hbc dL_law_690 ?_
  refine l_sld (z := (i + 1)) hex hbc hX hbl hS (by omega) hL8 dL_law_691 ?_
  refine l_callM [.int (iI (scv xs (i + 1)))] ⟨hex, hbc, hml, hown, hts⟩ (mX5_thresholdFor l G cx b τ (scv xs (i + 1)) (scv_in xs _) hIM) (cwV 1 hts gL_law_X5_thresholdFor rfl rfl rfl (by decide +kernel) ⟨Nat.le_of_ble_eq_true rfl, Nat.le_of_ble_eq_true rfl⟩) hK hL hA hS rfl rfl hl.1 (Nat.le_of_ble_eq_true rfl) dL_law_692 hcs (fun q t H locs hm hL hS => ?_)
  have hst := st_thresholdFor (scv xs (i + 1)) hR (nx_thresholdFor (scv xs (i + 1)) hI h64 h1m h16 hx) hm
  refine lv_icmp_eq (tgt := 746) hex hbc dL_law_695 (by decide) (fun c => ?_) (fun c => ?_)
  · exact kk _ _ _ _ _ hst.2 hL hS (lv_sub hl [0, 1, 2, 3] rfl)
  · exact absurd hst.1 c
set_option maxHeartbeats 2000000 in
set_option maxRecDepth 20000 in
theorem law_keep {p : Program} {l : Launch} {e : Env} {s : State} {m : MethodId} {below : List Frame} {meth : Method} {c : Code} {H : Heap} {locs : List Loc} {ls : Array Slot} {cells slots : Nat} {Q : State → Prop} {bs L tl th : Nat} {xs : Nat → Int32} {G : va_G} {cx a b : Nat → Nat} {σ τ : Nat → Int → Int} {i : Int} (C : LC p s m c bs L xs G cx a b tl th) (hcs : cells ≤ room_1.cells ∧ slots ≤ room_1.slots) (hi : 0 ≤ i ∧ i + 4 ≤ (L : Int)) (hR : Rel (Nx σ) τ) (hL : Lw G cx a b σ τ H) (hS : va_S (fun q => s.heap.size ≤ q) s.heap H locs) (hl : lv_has ls 8 [(0, .ref bs), (1, .ref (a 0)), (2, .ref (b 0)), (3, .int (iI i))]) (kk : ∀ (u t : Nat → Int → Int) (H : Heap) (locs : List Loc) (ls : Array Slot), Rel (Nx u) t → Lw G cx a b u t H → va_S (fun q => s.heap.size ≤ q) s.heap H locs → lv_has ls 8 [(0, .ref bs), (1, .ref (a 0)), (2, .ref (b 0)), (3, .int (iI i))] → W p l e room_1 s m #[Value.ref bs] below meth c H locs cells slots Q (F0 m 746 ls [])) : W p l e room_1 s m #[Value.ref bs] below meth c H locs cells slots Q (F0 m 700 ls []) := by
  obtain ⟨hex, hbc, hml, hown, hts, hX, hbl, hL8, hK, hA, h4⟩ := C
  obtain ⟨hI, hIM, hHs, hN, hFl, hFk⟩ := Rel_use hR
  obtain ⟨h64, h1m, h16⟩ := Inv_b hI
  refine lv_aload_n hex hbc dL_law_700 rfl (lv_at hl 1 rfl) ?_
  refine lv_aload_n hex hbc dL_law_701 rfl (lv_at hl 0 rfl) ?_
  refine lv_iload_n hex hbc dL_law_702 rfl (lv_at hl 3 rfl) ?_
  refine lv_iconst (v := iI 1) hex hbc dL_law_703 rfl ?_
  refine zt_iadd hex hbc dL_law_704 ?_
  refine l_sld (z := (i + 1)) hex hbc hX hbl hS (by omega) hL8 dL_law_705 ?_
  refine l_callX [.int (iI (scv xs (i + 1)))] ⟨hex, hbc, hml, hown, hts⟩ (mX4_keep l G cx a σ (scv xs (i + 1)) (scv_in xs _) hI) (cwV 1 hts gL_law_X4_keep rfl rfl rfl (by decide +kernel) ⟨Nat.le_of_ble_eq_true rfl, Nat.le_of_ble_eq_true rfl⟩) hK hL hA hS rfl rfl hl.1 (Nat.le_of_ble_eq_true rfl) dL_law_706 hcs (fun r u H locs hx hL hS => ?_)
  refine lv_aload_n hex hbc dL_law_709 rfl (lv_at hl 2 rfl) ?_
  refine lv_aload_n hex hbc dL_law_710 rfl (lv_at hl 0 rfl) ?_
  refine lv_iload_n hex hbc dL_law_711 rfl (lv_at hl 3 rfl) ?_
  refine lv_iconst (v := iI 1) hex hbc dL_law_712 rfl ?_
  refine zt_iadd hex hbc dL_law_713 ?_
  refine l_sld (z := (i + 1)) hex hbc hX hbl hS (by omega) hL8 dL_law_714 ?_
  refine l_callM [.int (iI (scv xs (i + 1)))] ⟨hex, hbc, hml, hown, hts⟩ (mX5_keep l G cx b τ (scv xs (i + 1)) (scv_in xs _) hFl hIM) (cwV 1 hts gL_law_X5_keep rfl rfl rfl (by decide +kernel) ⟨Nat.le_of_ble_eq_true rfl, Nat.le_of_ble_eq_true rfl⟩) hK hL hA hS rfl rfl hl.1 (Nat.le_of_ble_eq_true rfl) dL_law_715 hcs (fun q t H locs hm hL hS => ?_)
  have hst := st_keep (scv xs (i + 1)) hR (nx_keep (scv xs (i + 1)) hI h64 h1m h16 hx) hm
  refine lv_icmp_eq (tgt := 746) hex hbc dL_law_718 (by decide) (fun c => ?_) (fun c => ?_)
  · exact kk _ _ _ _ _ hst.2 hL hS (lv_sub hl [0, 1, 2, 3] rfl)
  · exact absurd hst.1 c
set_option maxHeartbeats 2000000 in
set_option maxRecDepth 20000 in
theorem law_back {p : Program} {l : Launch} {e : Env} {s : State} {m : MethodId} {below : List Frame} {meth : Method} {c : Code} {H : Heap} {locs : List Loc} {ls : Array Slot} {cells slots : Nat} {Q : State → Prop} {bs L tl th : Nat} {xs : Nat → Int32} {G : va_G} {cx a b : Nat → Nat} {σ τ : Nat → Int → Int} {i : Int} (C : LC p s m c bs L xs G cx a b tl th) (hcs : cells ≤ room_1.cells ∧ slots ≤ room_1.slots) (hi : 0 ≤ i ∧ i + 4 ≤ (L : Int)) (hR : Rel (Nx σ) τ) (hL : Lw G cx a b σ τ H) (hS : va_S (fun q => s.heap.size ≤ q) s.heap H locs) (hl : lv_has ls 8 [(0, .ref bs), (1, .ref (a 0)), (2, .ref (b 0)), (3, .int (iI i))]) (kk : ∀ (u t : Nat → Int → Int) (H : Heap) (locs : List Loc) (ls : Array Slot), Rel (Nx u) t → Lw G cx a b u t H → va_S (fun q => s.heap.size ≤ q) s.heap H locs → lv_has ls 8 [(0, .ref bs), (1, .ref (a 0)), (2, .ref (b 0)), (3, .int (iI i))] → W p l e room_1 s m #[Value.ref bs] below meth c H locs cells slots Q (F0 m 746 ls [])) : W p l e room_1 s m #[Value.ref bs] below meth c H locs cells slots Q (F0 m 723 ls []) := by
  obtain ⟨hex, hbc, hml, hown, hts, hX, hbl, hL8, hK, hA, h4⟩ := C
  obtain ⟨hI, hIM, hHs, hN, hFl, hFk⟩ := Rel_use hR
  obtain ⟨h64, h1m, h16⟩ := Inv_b hI
  refine lv_aload_n hex hbc dL_law_723 rfl (lv_at hl 1 rfl) ?_
  refine lv_aload_n hex hbc dL_law_724 rfl (lv_at hl 0 rfl) ?_
  refine lv_iload_n hex hbc dL_law_725 rfl (lv_at hl 3 rfl) ?_
  refine lv_iconst (v := iI 1) hex hbc dL_law_726 rfl ?_
  refine zt_iadd hex hbc dL_law_727 ?_
  refine l_sld (z := (i + 1)) hex hbc hX hbl hS (by omega) hL8 dL_law_728 ?_
  refine l_callX [.int (iI (scv xs (i + 1)))] ⟨hex, hbc, hml, hown, hts⟩ (mX4_back l G cx a σ (scv xs (i + 1)) (scv_in xs _) hFk hHs hI) (cwV 1 hts gL_law_X4_back rfl rfl rfl (by decide +kernel) ⟨Nat.le_of_ble_eq_true rfl, Nat.le_of_ble_eq_true rfl⟩) hK hL hA hS rfl rfl hl.1 (Nat.le_of_ble_eq_true rfl) dL_law_729 hcs (fun r u H locs hx hL hS => ?_)
  refine lv_aload_n hex hbc dL_law_732 rfl (lv_at hl 2 rfl) ?_
  refine lv_aload_n hex hbc dL_law_733 rfl (lv_at hl 0 rfl) ?_
  refine lv_iload_n hex hbc dL_law_734 rfl (lv_at hl 3 rfl) ?_
  refine lv_iconst (v := iI 1) hex hbc dL_law_735 rfl ?_
  refine zt_iadd hex hbc dL_law_736 ?_
  refine l_sld (z := (i + 1)) hex hbc hX hbl hS (by omega) hL8 dL_law_737 ?_
  refine l_callM [.int (iI (scv xs (i + 1)))] ⟨hex, hbc, hml, hown, hts⟩ (mX5_back l G cx b τ (scv xs (i + 1)) (scv_in xs _) hFl hN hIM) (cwV 1 hts gL_law_X5_back rfl rfl rfl (by decide +kernel) ⟨Nat.le_of_ble_eq_true rfl, Nat.le_of_ble_eq_true rfl⟩) hK hL hA hS rfl rfl hl.1 (Nat.le_of_ble_eq_true rfl) dL_law_738 hcs (fun q t H locs hm hL hS => ?_)
  have hst := st_back (scv xs (i + 1)) hR (nx_back (scv xs (i + 1)) hI h64 h1m h16 hx) hm
  refine lv_icmp_eq (tgt := 746) hex hbc dL_law_741 (by decide) (fun c => ?_) (fun c => ?_)
  · exact kk _ _ _ _ _ hst.2 hL hS (lv_sub hl [0, 1, 2, 3] rfl)
  · exact absurd hst.1 c
