/-! the law: which change it makes, what comes of it (wip/gen27/m_l1.py) -/
def sel (M : Int) (v m : Int32) : Nat :=
  if lowF v 22 = 0 then (if lowF m 4 = 0 then 0 else 1) else if lowF v 22 ≤ 3 then 2 else if lowF v 22 = 4 then 3 else if lowF v 22 = 5 then 4 else if lowF v 22 = 6 then 5
  else if lowF v 22 = 7 then (if lowF m 2 = 0 then 6 else 7) else if lowF v 22 = 8 then 8 else if lowF v 22 = 9 then 9 else if lowF v 22 ≤ 11 then 10 else if lowF v 22 = 12 then 11 else if lowF v 22 = 13 then 12
  else if lowF v 22 ≤ 16 then 13 else if lowF v 22 = 17 then (if M < 2 then 14 else 15) else if lowF v 22 = 18 then (if M < 2 then 16 else 17) else if lowF v 22 = 19 then (if lowF m 3 = 0 then 18 else 19)
  else if lowF v 22 = 20 then 20 else if lowF m 2 = 0 then 21 else 22
def PostN (F M : Int) (m : Int32) (s : Nat → Int → Int) (r : Int32) (u : Nat → Int → Int) : Nat → Prop
  | 0 => ((1 ≤ (1 + (lowF (m >>> ((iI 2) &&& 31)) 64)) ∧ (1 + (lowF (m >>> ((iI 2) &&& 31)) 64)) ≤ 64) → iI (s 0 0) = r ∧ XC_ s u (spc (s 0) (1 + (lowF (m >>> ((iI 2) &&& 31)) 64)))) ∧ (¬ (1 ≤ (1 + (lowF (m >>> ((iI 2) &&& 31)) 64)) ∧ (1 + (lowF (m >>> ((iI 2) &&& 31)) 64)) ≤ 64) → iI (-1) = r ∧ XQ_ s u)
  | 1 => iI (fnd (s 0) (s 0 2)) = r ∧ XC_ s u (spF (s 0))
  | 2 => ((okE (s 0) (lowF m F) ((lowF m F) + (lowF (m >>> ((iI 6) &&& 31)) (F - (lowF m F)))) (lowF (m >>> ((iI 12) &&& 31)) 1000)) → iI (smE (s 0) (lowF m F) (((lowF m F) + (lowF (m >>> ((iI 6) &&& 31)) (F - (lowF m F)))) + 1 - (lowF m F))) = r ∧ XC_ s u (spS (s 0) (lowF m F) ((lowF m F) + (lowF (m >>> ((iI 6) &&& 31)) (F - (lowF m F)))) (lowF (m >>> ((iI 12) &&& 31)) 1000))) ∧ (¬ (okE (s 0) (lowF m F) ((lowF m F) + (lowF (m >>> ((iI 6) &&& 31)) (F - (lowF m F)))) (lowF (m >>> ((iI 12) &&& 31)) 1000)) → iI (-1) = r ∧ XQ_ s u)
  | 3 => ((okS (0 : Int) (1 + (lowF m 300))) → iI (s 0 (1 + (0 : Int))) = r ∧ XC_ s u (ups (s 0) (1 + (0 : Int)) (1 + (lowF m 300)))) ∧ (¬ (okS (0 : Int) (1 + (lowF m 300))) → iI (-1) = r ∧ XQ_ s u)
  | 4 => ((okS (1 : Int) (1 + (lowF m 600))) → iI (s 0 (1 + (1 : Int))) = r ∧ XC_ s u (ups (s 0) (1 + (1 : Int)) (1 + (lowF m 600)))) ∧ (¬ (okS (1 : Int) (1 + (lowF m 600))) → iI (-1) = r ∧ XQ_ s u)
  | 5 => ((okS (2 : Int) (1 + (lowF m 5))) → iI (s 0 (1 + (2 : Int))) = r ∧ XC_ s u (ups (s 0) (1 + (2 : Int)) (1 + (lowF m 5)))) ∧ (¬ (okS (2 : Int) (1 + (lowF m 5))) → iI (-1) = r ∧ XQ_ s u)
  | 6 => ((okS (3 : Int) (10 + (lowF (m >>> ((iI 1) &&& 31)) 91))) → iI (s 0 (1 + (3 : Int))) = r ∧ XC_ s u (ups (s 0) (1 + (3 : Int)) (10 + (lowF (m >>> ((iI 1) &&& 31)) 91)))) ∧ (¬ (okS (3 : Int) (10 + (lowF (m >>> ((iI 1) &&& 31)) 91))) → iI (-1) = r ∧ XQ_ s u)
  | 7 => ((okS (4 : Int) (100 + (lowF (m >>> ((iI 1) &&& 31)) 901))) → iI (s 0 (1 + (4 : Int))) = r ∧ XC_ s u (ups (s 0) (1 + (4 : Int)) (100 + (lowF (m >>> ((iI 1) &&& 31)) 901)))) ∧ (¬ (okS (4 : Int) (100 + (lowF (m >>> ((iI 1) &&& 31)) 901))) → iI (-1) = r ∧ XQ_ s u)
  | 8 => ((okS (5 : Int) (1 + (lowF m 9000))) → iI (s 0 (1 + (5 : Int))) = r ∧ XC_ s u (ups (s 0) (1 + (5 : Int)) (1 + (lowF m 9000)))) ∧ (¬ (okS (5 : Int) (1 + (lowF m 9000))) → iI (-1) = r ∧ XQ_ s u)
  | 9 => ((okS (6 : Int) (1 + (lowF m 32))) → iI (s 0 (1 + (6 : Int))) = r ∧ XC_ s u (ups (s 0) (1 + (6 : Int)) (1 + (lowF m 32)))) ∧ (¬ (okS (6 : Int) (1 + (lowF m 32))) → iI (-1) = r ∧ XQ_ s u)
  | 10 => ((okS (7 : Int) (lowF m 2)) → iI (s 0 (1 + (7 : Int))) = r ∧ XC_ s u (ups (s 0) (1 + (7 : Int)) (lowF m 2))) ∧ (¬ (okS (7 : Int) (lowF m 2)) → iI (-1) = r ∧ XQ_ s u)
  | 11 => ((okS (8 : Int) (lowF m 501)) → iI (s 0 (1 + (8 : Int))) = r ∧ XC_ s u (ups (s 0) (1 + (8 : Int)) (lowF m 501))) ∧ (¬ (okS (8 : Int) (lowF m 501)) → iI (-1) = r ∧ XQ_ s u)
  | 12 => iI (fnd (s 0) (s 0 2)) = r ∧ XC_ s u (spF (s 0))
  | 13 => Rmark (s 0) (lowF m F) r (XQ_ s u) (XC_ s u)
  | 14 => ((1 ≤ (0 : Int) ∧ (0 : Int) < s 0 74) → iI (s 0 74 - 1) = r ∧ XC_ s u (spr (s 0) (0 : Int))) ∧ (¬ (1 ≤ (0 : Int) ∧ (0 : Int) < s 0 74) → iI (-1) = r ∧ XQ_ s u)
  | 15 => ((1 ≤ (1 + (lowF m (M - 1))) ∧ (1 + (lowF m (M - 1))) < s 0 74) → iI (s 0 74 - 1) = r ∧ XC_ s u (spr (s 0) (1 + (lowF m (M - 1))))) ∧ (¬ (1 ≤ (1 + (lowF m (M - 1))) ∧ (1 + (lowF m (M - 1))) < s 0 74) → iI (-1) = r ∧ XQ_ s u)
  | 16 => Rmove (s 0) (0 : Int) (0 : Int) r (XQ_ s u) (XC_ s u)
  | 17 => Rmove (s 0) (1 + (lowF m (M - 1))) (lowF (m >>> ((iI 4) &&& 31)) F) r (XQ_ s u) (XC_ s u)
  | 18 => iI (s 0 (91 + (s 0 74 - 1))) = r ∧ XC_ s u (spV (s 0))
  | 19 => (((0 ≤ (lowF m M) ∧ (lowF m M) < s 0 74) ∧ (0 ≤ (lowF (m >>> ((iI 4) &&& 31)) M) ∧ (lowF (m >>> ((iI 4) &&& 31)) M) < s 0 74)) → iI (s 0 (91 + (lowF (m >>> ((iI 4) &&& 31)) M))) = r ∧ XC_ s u (spx (s 0) (lowF m M) (lowF (m >>> ((iI 4) &&& 31)) M))) ∧ (¬ ((0 ≤ (lowF m M) ∧ (lowF m M) < s 0 74) ∧ (0 ≤ (lowF (m >>> ((iI 4) &&& 31)) M) ∧ (lowF (m >>> ((iI 4) &&& 31)) M) < s 0 74)) → iI (-1) = r ∧ XQ_ s u)
  | 20 => (s 12 1 = 0 → iI (-2) = r ∧ XQ_ s u) ∧ (s 12 1 ≠ 0 → iI (s 12 1 - 1) = r ∧ u 0 = cpo (s 0) (s 1) (107 * s 12 0) ∧ u 1 = s 1 ∧ u 12 0 = (if 0 < s 12 0 then s 12 0 - 1 else 7) ∧ u 12 1 = s 12 1 - 1 ∧ u 9 = s 9 ∧ u 11 = s 11)
  | 21 => ((0 ≤ (lowF (m >>> ((iI 1) &&& 31)) 2) ∧ (lowF (m >>> ((iI 1) &&& 31)) 2) ≤ 1) → iI (s 0 74) = r ∧ u 0 = s 0 ∧ u 1 = s 1 ∧ u 12 0 = s 12 0 ∧ u 12 1 = s 12 1 ∧ u 9 = cpi (s 9) (s 0) (107 * (lowF (m >>> ((iI 1) &&& 31)) 2)) ∧ u 11 = ups (s 11) (lowF (m >>> ((iI 1) &&& 31)) 2) 1) ∧ (¬ (0 ≤ (lowF (m >>> ((iI 1) &&& 31)) 2) ∧ (lowF (m >>> ((iI 1) &&& 31)) 2) ≤ 1) → iI (-1) = r ∧ XQ_ s u)
  | 22 => (¬ (0 ≤ (lowF (m >>> ((iI 1) &&& 31)) 2) ∧ (lowF (m >>> ((iI 1) &&& 31)) 2) ≤ 1) → iI (-1) = r ∧ XQ_ s u) ∧ ((0 ≤ (lowF (m >>> ((iI 1) &&& 31)) 2) ∧ (lowF (m >>> ((iI 1) &&& 31)) 2) ≤ 1) → (s 11 (lowF (m >>> ((iI 1) &&& 31)) 2) = 0 → iI (-2) = r ∧ XQ_ s u) ∧ (s 11 (lowF (m >>> ((iI 1) &&& 31)) 2) ≠ 0 → iI (s 9 (107 * (lowF (m >>> ((iI 1) &&& 31)) 2) + 74)) = r ∧ XC_ s u (cpo (s 0) (s 9) (107 * (lowF (m >>> ((iI 1) &&& 31)) 2)))))
  | _ => False
theorem sel_0 {M : Int} {v m : Int32} (h : lowF v 22 = 0) (h2 : lowF m 4 = 0) : sel M v m = 0 := by
  unfold sel; rw [h]; exact if_pos h2
theorem sel_1 {M : Int} {v m : Int32} (h : lowF v 22 = 0) (h2 : lowF m 4 ≠ 0) : sel M v m = 1 := by
  unfold sel; rw [h]; exact if_neg h2
theorem sel_2 {M : Int} {v m : Int32} (h : 1 ≤ lowF v 22 ∧ lowF v 22 ≤ 3) : sel M v m = 2 := by
  rcases (show lowF v 22 = 1 ∨ lowF v 22 = 2 ∨ lowF v 22 = 3 by omega) with q | q | q <;> (unfold sel; rw [q]; rfl)
theorem sel_3 {M : Int} {v m : Int32} (h : lowF v 22 = 4) : sel M v m = 3 := by
  unfold sel; rw [h]; rfl
theorem sel_4 {M : Int} {v m : Int32} (h : lowF v 22 = 5) : sel M v m = 4 := by
  unfold sel; rw [h]; rfl
theorem sel_5 {M : Int} {v m : Int32} (h : lowF v 22 = 6) : sel M v m = 5 := by
  unfold sel; rw [h]; rfl
theorem sel_6 {M : Int} {v m : Int32} (h : lowF v 22 = 7) (h2 : lowF m 2 = 0) : sel M v m = 6 := by
  unfold sel; rw [h]; exact if_pos h2
theorem sel_7 {M : Int} {v m : Int32} (h : lowF v 22 = 7) (h2 : lowF m 2 ≠ 0) : sel M v m = 7 := by
  unfold sel; rw [h]; exact if_neg h2
theorem sel_8 {M : Int} {v m : Int32} (h : lowF v 22 = 8) : sel M v m = 8 := by
  unfold sel; rw [h]; rfl
theorem sel_9 {M : Int} {v m : Int32} (h : lowF v 22 = 9) : sel M v m = 9 := by
  unfold sel; rw [h]; rfl
theorem sel_10 {M : Int} {v m : Int32} (h : 10 ≤ lowF v 22 ∧ lowF v 22 ≤ 11) : sel M v m = 10 := by
  rcases (show lowF v 22 = 10 ∨ lowF v 22 = 11 by omega) with q | q <;> (unfold sel; rw [q]; rfl)
theorem sel_11 {M : Int} {v m : Int32} (h : lowF v 22 = 12) : sel M v m = 11 := by
  unfold sel; rw [h]; rfl
theorem sel_12 {M : Int} {v m : Int32} (h : lowF v 22 = 13) : sel M v m = 12 := by
  unfold sel; rw [h]; rfl
theorem sel_13 {M : Int} {v m : Int32} (h : 14 ≤ lowF v 22 ∧ lowF v 22 ≤ 16) : sel M v m = 13 := by
  rcases (show lowF v 22 = 14 ∨ lowF v 22 = 15 ∨ lowF v 22 = 16 by omega) with q | q | q <;> (unfold sel; rw [q]; rfl)
theorem sel_14 {M : Int} {v m : Int32} (h : lowF v 22 = 17) (h2 : M < 2) : sel M v m = 14 := by
  unfold sel; rw [h]; exact if_pos h2
theorem sel_15 {M : Int} {v m : Int32} (h : lowF v 22 = 17) (h2 : ¬ M < 2) : sel M v m = 15 := by
  unfold sel; rw [h]; exact if_neg h2
theorem sel_16 {M : Int} {v m : Int32} (h : lowF v 22 = 18) (h2 : M < 2) : sel M v m = 16 := by
  unfold sel; rw [h]; exact if_pos h2
theorem sel_17 {M : Int} {v m : Int32} (h : lowF v 22 = 18) (h2 : ¬ M < 2) : sel M v m = 17 := by
  unfold sel; rw [h]; exact if_neg h2
theorem sel_18 {M : Int} {v m : Int32} (h : lowF v 22 = 19) (h2 : lowF m 3 = 0) : sel M v m = 18 := by
  unfold sel; rw [h]; exact if_pos h2
theorem sel_19 {M : Int} {v m : Int32} (h : lowF v 22 = 19) (h2 : lowF m 3 ≠ 0) : sel M v m = 19 := by
  unfold sel; rw [h]; exact if_neg h2
theorem sel_20 {M : Int} {v m : Int32} (h : lowF v 22 = 20) : sel M v m = 20 := by
  unfold sel; rw [h]; rfl
theorem sel_21 {M : Int} {v m : Int32} (h : lowF v 22 = 21) (h2 : lowF m 2 = 0) : sel M v m = 21 := by
  unfold sel; rw [h]; exact if_pos h2
theorem sel_22 {M : Int} {v m : Int32} (h : lowF v 22 = 21) (h2 : lowF m 2 ≠ 0) : sel M v m = 22 := by
  unfold sel; rw [h]; exact if_neg h2
theorem k_CH {s u : Nat → Int → Int} {C : Prop} {R E : Int} {W : Int → Int} {r : Int32} (hO : Ok s) (hw : C → Inv W) (hx : (C → iI R = r ∧ XC_ s u W) ∧ (¬ C → iI E = r ∧ XQ_ s u)) : Ok u := by
  rcases Classical.em C with c | c
  · exact Ok_C hO (hw c) (hx.1 c).2
  · exact Ok_Q hO (hx.2 c).2
theorem k_mk {s u : Nat → Int → Int} {x : Int} {r : Int32} (hO : Ok s) (hI : Inv (s 0)) (hx : Rmark (s 0) x r (XQ_ s u) (XC_ s u)) : Ok u := by
  rcases Classical.em (0 ≤ x ∧ x < s 0 0) with c | c
  · obtain ⟨p, p1, p2, p3⟩ := hx.2 c
    rcases Classical.em (p < s 0 74 ∧ s 0 (75 + p) = x) with d | d
    · exact Ok_Q hO (p2 d).2
    · have h16 := hI.1.2.2.2.2.2.2.2.2.2.2.1
      rcases Int.lt_or_le (s 0 74) 16 with f | f
      · exact Ok_C hO (Inv_spi hI c p1 d f) ((p3 d).2 f).2
      · exact Ok_Q hO ((p3 d).1 (by omega)).2
  · exact Ok_Q hO (hx.1 c).2
theorem k_mv {s u : Nat → Int → Int} {x y : Int} {r : Int32} (hO : Ok s) (hI : Inv (s 0)) (hx : Rmove (s 0) x y r (XQ_ s u) (XC_ s u)) : Ok u := by
  rcases Classical.em ((1 ≤ x ∧ x < s 0 74) ∧ 0 ≤ y ∧ y < s 0 0) with c | c
  · have a := hx.2 c
    rcases Classical.em (fr (s 0) (x - 1) < y ∧ y < fr (s 0) (x + 1)) with d | d
    · exact Ok_C hO (Inv_spM hI c.1 c.2 d.1 d.2) (a.2 d).2
    · exact Ok_Q hO (a.1 d).2
  · exact Ok_Q hO (hx.1 c).2
set_option maxHeartbeats 2000000 in
theorem PN_ok {F M : Int} {m r : Int32} {s u : Nat → Int → Int} (hO : Ok s) (n : Nat) (hx : PostN F M m s r u n) : Ok u := by
  have hI := (Ok_use hO).1
  match n, hx with
  | 0, hx =>
    have hx : ((1 ≤ (1 + (lowF (m >>> ((iI 2) &&& 31)) 64)) ∧ (1 + (lowF (m >>> ((iI 2) &&& 31)) 64)) ≤ 64) → iI (s 0 0) = r ∧ XC_ s u (spc (s 0) (1 + (lowF (m >>> ((iI 2) &&& 31)) 64)))) ∧ (¬ (1 ≤ (1 + (lowF (m >>> ((iI 2) &&& 31)) 64)) ∧ (1 + (lowF (m >>> ((iI 2) &&& 31)) 64)) ≤ 64) → iI (-1) = r ∧ XQ_ s u) := hx
    exact k_CH hO (fun c => Inv_spc hI c) hx
  | 1, hx =>
    have hx : iI (fnd (s 0) (s 0 2)) = r ∧ XC_ s u (spF (s 0)) := hx
    exact Ok_C hO (Inv_spF hI) hx.2
  | 2, hx =>
    have hx : ((okE (s 0) (lowF m F) ((lowF m F) + (lowF (m >>> ((iI 6) &&& 31)) (F - (lowF m F)))) (lowF (m >>> ((iI 12) &&& 31)) 1000)) → iI (smE (s 0) (lowF m F) (((lowF m F) + (lowF (m >>> ((iI 6) &&& 31)) (F - (lowF m F)))) + 1 - (lowF m F))) = r ∧ XC_ s u (spS (s 0) (lowF m F) ((lowF m F) + (lowF (m >>> ((iI 6) &&& 31)) (F - (lowF m F)))) (lowF (m >>> ((iI 12) &&& 31)) 1000))) ∧ (¬ (okE (s 0) (lowF m F) ((lowF m F) + (lowF (m >>> ((iI 6) &&& 31)) (F - (lowF m F)))) (lowF (m >>> ((iI 12) &&& 31)) 1000)) → iI (-1) = r ∧ XQ_ s u) := hx
    exact k_CH hO (fun c => Inv_spS hI c) hx
  | 3, hx =>
    have hx : ((okS (0 : Int) (1 + (lowF m 300))) → iI (s 0 (1 + (0 : Int))) = r ∧ XC_ s u (ups (s 0) (1 + (0 : Int)) (1 + (lowF m 300)))) ∧ (¬ (okS (0 : Int) (1 + (lowF m 300))) → iI (-1) = r ∧ XQ_ s u) := hx
    exact k_CH hO (fun c => Inv_set hI c) hx
  | 4, hx =>
    have hx : ((okS (1 : Int) (1 + (lowF m 600))) → iI (s 0 (1 + (1 : Int))) = r ∧ XC_ s u (ups (s 0) (1 + (1 : Int)) (1 + (lowF m 600)))) ∧ (¬ (okS (1 : Int) (1 + (lowF m 600))) → iI (-1) = r ∧ XQ_ s u) := hx
    exact k_CH hO (fun c => Inv_set hI c) hx
  | 5, hx =>
    have hx : ((okS (2 : Int) (1 + (lowF m 5))) → iI (s 0 (1 + (2 : Int))) = r ∧ XC_ s u (ups (s 0) (1 + (2 : Int)) (1 + (lowF m 5)))) ∧ (¬ (okS (2 : Int) (1 + (lowF m 5))) → iI (-1) = r ∧ XQ_ s u) := hx
    exact k_CH hO (fun c => Inv_set hI c) hx
  | 6, hx =>
    have hx : ((okS (3 : Int) (10 + (lowF (m >>> ((iI 1) &&& 31)) 91))) → iI (s 0 (1 + (3 : Int))) = r ∧ XC_ s u (ups (s 0) (1 + (3 : Int)) (10 + (lowF (m >>> ((iI 1) &&& 31)) 91)))) ∧ (¬ (okS (3 : Int) (10 + (lowF (m >>> ((iI 1) &&& 31)) 91))) → iI (-1) = r ∧ XQ_ s u) := hx
    exact k_CH hO (fun c => Inv_set hI c) hx
  | 7, hx =>
    have hx : ((okS (4 : Int) (100 + (lowF (m >>> ((iI 1) &&& 31)) 901))) → iI (s 0 (1 + (4 : Int))) = r ∧ XC_ s u (ups (s 0) (1 + (4 : Int)) (100 + (lowF (m >>> ((iI 1) &&& 31)) 901)))) ∧ (¬ (okS (4 : Int) (100 + (lowF (m >>> ((iI 1) &&& 31)) 901))) → iI (-1) = r ∧ XQ_ s u) := hx
    exact k_CH hO (fun c => Inv_set hI c) hx
  | 8, hx =>
    have hx : ((okS (5 : Int) (1 + (lowF m 9000))) → iI (s 0 (1 + (5 : Int))) = r ∧ XC_ s u (ups (s 0) (1 + (5 : Int)) (1 + (lowF m 9000)))) ∧ (¬ (okS (5 : Int) (1 + (lowF m 9000))) → iI (-1) = r ∧ XQ_ s u) := hx
    exact k_CH hO (fun c => Inv_set hI c) hx
  | 9, hx =>
    have hx : ((okS (6 : Int) (1 + (lowF m 32))) → iI (s 0 (1 + (6 : Int))) = r ∧ XC_ s u (ups (s 0) (1 + (6 : Int)) (1 + (lowF m 32)))) ∧ (¬ (okS (6 : Int) (1 + (lowF m 32))) → iI (-1) = r ∧ XQ_ s u) := hx
    exact k_CH hO (fun c => Inv_set hI c) hx
  | 10, hx =>
    have hx : ((okS (7 : Int) (lowF m 2)) → iI (s 0 (1 + (7 : Int))) = r ∧ XC_ s u (ups (s 0) (1 + (7 : Int)) (lowF m 2))) ∧ (¬ (okS (7 : Int) (lowF m 2)) → iI (-1) = r ∧ XQ_ s u) := hx
    exact k_CH hO (fun c => Inv_set hI c) hx
  | 11, hx =>
    have hx : ((okS (8 : Int) (lowF m 501)) → iI (s 0 (1 + (8 : Int))) = r ∧ XC_ s u (ups (s 0) (1 + (8 : Int)) (lowF m 501))) ∧ (¬ (okS (8 : Int) (lowF m 501)) → iI (-1) = r ∧ XQ_ s u) := hx
    exact k_CH hO (fun c => Inv_set hI c) hx
  | 12, hx =>
    have hx : iI (fnd (s 0) (s 0 2)) = r ∧ XC_ s u (spF (s 0)) := hx
    exact Ok_C hO (Inv_spF hI) hx.2
  | 13, hx =>
    have hx : Rmark (s 0) (lowF m F) r (XQ_ s u) (XC_ s u) := hx
    exact k_mk hO hI hx
  | 14, hx =>
    have hx : ((1 ≤ (0 : Int) ∧ (0 : Int) < s 0 74) → iI (s 0 74 - 1) = r ∧ XC_ s u (spr (s 0) (0 : Int))) ∧ (¬ (1 ≤ (0 : Int) ∧ (0 : Int) < s 0 74) → iI (-1) = r ∧ XQ_ s u) := hx
    exact k_CH hO (fun c => Inv_spr hI c) hx
  | 15, hx =>
    have hx : ((1 ≤ (1 + (lowF m (M - 1))) ∧ (1 + (lowF m (M - 1))) < s 0 74) → iI (s 0 74 - 1) = r ∧ XC_ s u (spr (s 0) (1 + (lowF m (M - 1))))) ∧ (¬ (1 ≤ (1 + (lowF m (M - 1))) ∧ (1 + (lowF m (M - 1))) < s 0 74) → iI (-1) = r ∧ XQ_ s u) := hx
    exact k_CH hO (fun c => Inv_spr hI c) hx
  | 16, hx =>
    have hx : Rmove (s 0) (0 : Int) (0 : Int) r (XQ_ s u) (XC_ s u) := hx
    exact k_mv hO hI hx
  | 17, hx =>
    have hx : Rmove (s 0) (1 + (lowF m (M - 1))) (lowF (m >>> ((iI 4) &&& 31)) F) r (XQ_ s u) (XC_ s u) := hx
    exact k_mv hO hI hx
  | 18, hx =>
    have hx : iI (s 0 (91 + (s 0 74 - 1))) = r ∧ XC_ s u (spV (s 0)) := hx
    exact Ok_C hO (Inv_spV hI) hx.2
  | 19, hx =>
    have hx : (((0 ≤ (lowF m M) ∧ (lowF m M) < s 0 74) ∧ (0 ≤ (lowF (m >>> ((iI 4) &&& 31)) M) ∧ (lowF (m >>> ((iI 4) &&& 31)) M) < s 0 74)) → iI (s 0 (91 + (lowF (m >>> ((iI 4) &&& 31)) M))) = r ∧ XC_ s u (spx (s 0) (lowF m M) (lowF (m >>> ((iI 4) &&& 31)) M))) ∧ (¬ ((0 ≤ (lowF m M) ∧ (lowF m M) < s 0 74) ∧ (0 ≤ (lowF (m >>> ((iI 4) &&& 31)) M) ∧ (lowF (m >>> ((iI 4) &&& 31)) M) < s 0 74)) → iI (-1) = r ∧ XQ_ s u) := hx
    exact k_CH hO (fun c => Inv_spx hI c.1 c.2) hx
  | 20, hx =>
    have hx : (s 12 1 = 0 → iI (-2) = r ∧ XQ_ s u) ∧ (s 12 1 ≠ 0 → iI (s 12 1 - 1) = r ∧ u 0 = cpo (s 0) (s 1) (107 * s 12 0) ∧ u 1 = s 1 ∧ u 12 0 = (if 0 < s 12 0 then s 12 0 - 1 else 7) ∧ u 12 1 = s 12 1 - 1 ∧ u 9 = s 9 ∧ u 11 = s 11) := hx
    rcases Classical.em (s 12 1 = 0) with c | c
    · exact Ok_Q hO (hx.1 c).2
    · exact Ok_undo hO c (hx.2 c).2
  | 21, hx =>
    have hx : ((0 ≤ (lowF (m >>> ((iI 1) &&& 31)) 2) ∧ (lowF (m >>> ((iI 1) &&& 31)) 2) ≤ 1) → iI (s 0 74) = r ∧ u 0 = s 0 ∧ u 1 = s 1 ∧ u 12 0 = s 12 0 ∧ u 12 1 = s 12 1 ∧ u 9 = cpi (s 9) (s 0) (107 * (lowF (m >>> ((iI 1) &&& 31)) 2)) ∧ u 11 = ups (s 11) (lowF (m >>> ((iI 1) &&& 31)) 2) 1) ∧ (¬ (0 ≤ (lowF (m >>> ((iI 1) &&& 31)) 2) ∧ (lowF (m >>> ((iI 1) &&& 31)) 2) ≤ 1) → iI (-1) = r ∧ XQ_ s u) := hx
    rcases Classical.em (0 ≤ (lowF (m >>> ((iI 1) &&& 31)) 2) ∧ (lowF (m >>> ((iI 1) &&& 31)) 2) ≤ 1) with c | c
    · exact Ok_keep hO c (hx.1 c).2
    · exact Ok_Q hO (hx.2 c).2
  | 22, hx =>
    have hx : (¬ (0 ≤ (lowF (m >>> ((iI 1) &&& 31)) 2) ∧ (lowF (m >>> ((iI 1) &&& 31)) 2) ≤ 1) → iI (-1) = r ∧ XQ_ s u) ∧ ((0 ≤ (lowF (m >>> ((iI 1) &&& 31)) 2) ∧ (lowF (m >>> ((iI 1) &&& 31)) 2) ≤ 1) → (s 11 (lowF (m >>> ((iI 1) &&& 31)) 2) = 0 → iI (-2) = r ∧ XQ_ s u) ∧ (s 11 (lowF (m >>> ((iI 1) &&& 31)) 2) ≠ 0 → iI (s 9 (107 * (lowF (m >>> ((iI 1) &&& 31)) 2) + 74)) = r ∧ XC_ s u (cpo (s 0) (s 9) (107 * (lowF (m >>> ((iI 1) &&& 31)) 2))))) := hx
    rcases Classical.em (0 ≤ (lowF (m >>> ((iI 1) &&& 31)) 2) ∧ (lowF (m >>> ((iI 1) &&& 31)) 2) ≤ 1) with c | c
    · rcases Classical.em (s 11 (lowF (m >>> ((iI 1) &&& 31)) 2) = 0) with d | d
      · exact Ok_Q hO ((hx.2 c).1 d).2
      · exact Ok_C hO (Ok_img hO c d) ((hx.2 c).2 d).2
    · exact Ok_Q hO (hx.1 c).2
  | n + 23, hx => exact hx.elim
set_option maxHeartbeats 2000000 in
theorem PN_dt {F M : Int} {m r q : Int32} {s t u v : Nat → Int → Int} (h16 : s 0 74 ≤ 16) (h : XQ_ s t) (n : Nat) (hx : PostN F M m s r u n) (hm : PostN F M m t q v n) : r = q ∧ XQ_ u v := by
  match n, hx, hm with
  | 0, hx, hm =>
    have hx : ((1 ≤ (1 + (lowF (m >>> ((iI 2) &&& 31)) 64)) ∧ (1 + (lowF (m >>> ((iI 2) &&& 31)) 64)) ≤ 64) → iI (s 0 0) = r ∧ XC_ s u (spc (s 0) (1 + (lowF (m >>> ((iI 2) &&& 31)) 64)))) ∧ (¬ (1 ≤ (1 + (lowF (m >>> ((iI 2) &&& 31)) 64)) ∧ (1 + (lowF (m >>> ((iI 2) &&& 31)) 64)) ≤ 64) → iI (-1) = r ∧ XQ_ s u) := hx
    have hm : ((1 ≤ (1 + (lowF (m >>> ((iI 2) &&& 31)) 64)) ∧ (1 + (lowF (m >>> ((iI 2) &&& 31)) 64)) ≤ 64) → iI (t 0 0) = q ∧ XC_ t v (spc (t 0) (1 + (lowF (m >>> ((iI 2) &&& 31)) 64)))) ∧ (¬ (1 ≤ (1 + (lowF (m >>> ((iI 2) &&& 31)) 64)) ∧ (1 + (lowF (m >>> ((iI 2) &&& 31)) 64)) ≤ 64) → iI (-1) = q ∧ XQ_ t v) := hm
    rw [h.1] at hm
    exact d_CH h hx hm
  | 1, hx, hm =>
    have hx : iI (fnd (s 0) (s 0 2)) = r ∧ XC_ s u (spF (s 0)) := hx
    have hm : iI (fnd (t 0) (t 0 2)) = q ∧ XC_ t v (spF (t 0)) := hm
    rw [h.1] at hm
    exact d_C1 h hx hm
  | 2, hx, hm =>
    have hx : ((okE (s 0) (lowF m F) ((lowF m F) + (lowF (m >>> ((iI 6) &&& 31)) (F - (lowF m F)))) (lowF (m >>> ((iI 12) &&& 31)) 1000)) → iI (smE (s 0) (lowF m F) (((lowF m F) + (lowF (m >>> ((iI 6) &&& 31)) (F - (lowF m F)))) + 1 - (lowF m F))) = r ∧ XC_ s u (spS (s 0) (lowF m F) ((lowF m F) + (lowF (m >>> ((iI 6) &&& 31)) (F - (lowF m F)))) (lowF (m >>> ((iI 12) &&& 31)) 1000))) ∧ (¬ (okE (s 0) (lowF m F) ((lowF m F) + (lowF (m >>> ((iI 6) &&& 31)) (F - (lowF m F)))) (lowF (m >>> ((iI 12) &&& 31)) 1000)) → iI (-1) = r ∧ XQ_ s u) := hx
    have hm : ((okE (t 0) (lowF m F) ((lowF m F) + (lowF (m >>> ((iI 6) &&& 31)) (F - (lowF m F)))) (lowF (m >>> ((iI 12) &&& 31)) 1000)) → iI (smE (t 0) (lowF m F) (((lowF m F) + (lowF (m >>> ((iI 6) &&& 31)) (F - (lowF m F)))) + 1 - (lowF m F))) = q ∧ XC_ t v (spS (t 0) (lowF m F) ((lowF m F) + (lowF (m >>> ((iI 6) &&& 31)) (F - (lowF m F)))) (lowF (m >>> ((iI 12) &&& 31)) 1000))) ∧ (¬ (okE (t 0) (lowF m F) ((lowF m F) + (lowF (m >>> ((iI 6) &&& 31)) (F - (lowF m F)))) (lowF (m >>> ((iI 12) &&& 31)) 1000)) → iI (-1) = q ∧ XQ_ t v) := hm
    rw [h.1] at hm
    exact d_CH h hx hm
  | 3, hx, hm =>
    have hx : ((okS (0 : Int) (1 + (lowF m 300))) → iI (s 0 (1 + (0 : Int))) = r ∧ XC_ s u (ups (s 0) (1 + (0 : Int)) (1 + (lowF m 300)))) ∧ (¬ (okS (0 : Int) (1 + (lowF m 300))) → iI (-1) = r ∧ XQ_ s u) := hx
    have hm : ((okS (0 : Int) (1 + (lowF m 300))) → iI (t 0 (1 + (0 : Int))) = q ∧ XC_ t v (ups (t 0) (1 + (0 : Int)) (1 + (lowF m 300)))) ∧ (¬ (okS (0 : Int) (1 + (lowF m 300))) → iI (-1) = q ∧ XQ_ t v) := hm
    rw [h.1] at hm
    exact d_CH h hx hm
  | 4, hx, hm =>
    have hx : ((okS (1 : Int) (1 + (lowF m 600))) → iI (s 0 (1 + (1 : Int))) = r ∧ XC_ s u (ups (s 0) (1 + (1 : Int)) (1 + (lowF m 600)))) ∧ (¬ (okS (1 : Int) (1 + (lowF m 600))) → iI (-1) = r ∧ XQ_ s u) := hx
    have hm : ((okS (1 : Int) (1 + (lowF m 600))) → iI (t 0 (1 + (1 : Int))) = q ∧ XC_ t v (ups (t 0) (1 + (1 : Int)) (1 + (lowF m 600)))) ∧ (¬ (okS (1 : Int) (1 + (lowF m 600))) → iI (-1) = q ∧ XQ_ t v) := hm
    rw [h.1] at hm
    exact d_CH h hx hm
  | 5, hx, hm =>
    have hx : ((okS (2 : Int) (1 + (lowF m 5))) → iI (s 0 (1 + (2 : Int))) = r ∧ XC_ s u (ups (s 0) (1 + (2 : Int)) (1 + (lowF m 5)))) ∧ (¬ (okS (2 : Int) (1 + (lowF m 5))) → iI (-1) = r ∧ XQ_ s u) := hx
    have hm : ((okS (2 : Int) (1 + (lowF m 5))) → iI (t 0 (1 + (2 : Int))) = q ∧ XC_ t v (ups (t 0) (1 + (2 : Int)) (1 + (lowF m 5)))) ∧ (¬ (okS (2 : Int) (1 + (lowF m 5))) → iI (-1) = q ∧ XQ_ t v) := hm
    rw [h.1] at hm
    exact d_CH h hx hm
  | 6, hx, hm =>
    have hx : ((okS (3 : Int) (10 + (lowF (m >>> ((iI 1) &&& 31)) 91))) → iI (s 0 (1 + (3 : Int))) = r ∧ XC_ s u (ups (s 0) (1 + (3 : Int)) (10 + (lowF (m >>> ((iI 1) &&& 31)) 91)))) ∧ (¬ (okS (3 : Int) (10 + (lowF (m >>> ((iI 1) &&& 31)) 91))) → iI (-1) = r ∧ XQ_ s u) := hx
    have hm : ((okS (3 : Int) (10 + (lowF (m >>> ((iI 1) &&& 31)) 91))) → iI (t 0 (1 + (3 : Int))) = q ∧ XC_ t v (ups (t 0) (1 + (3 : Int)) (10 + (lowF (m >>> ((iI 1) &&& 31)) 91)))) ∧ (¬ (okS (3 : Int) (10 + (lowF (m >>> ((iI 1) &&& 31)) 91))) → iI (-1) = q ∧ XQ_ t v) := hm
    rw [h.1] at hm
    exact d_CH h hx hm
  | 7, hx, hm =>
    have hx : ((okS (4 : Int) (100 + (lowF (m >>> ((iI 1) &&& 31)) 901))) → iI (s 0 (1 + (4 : Int))) = r ∧ XC_ s u (ups (s 0) (1 + (4 : Int)) (100 + (lowF (m >>> ((iI 1) &&& 31)) 901)))) ∧ (¬ (okS (4 : Int) (100 + (lowF (m >>> ((iI 1) &&& 31)) 901))) → iI (-1) = r ∧ XQ_ s u) := hx
    have hm : ((okS (4 : Int) (100 + (lowF (m >>> ((iI 1) &&& 31)) 901))) → iI (t 0 (1 + (4 : Int))) = q ∧ XC_ t v (ups (t 0) (1 + (4 : Int)) (100 + (lowF (m >>> ((iI 1) &&& 31)) 901)))) ∧ (¬ (okS (4 : Int) (100 + (lowF (m >>> ((iI 1) &&& 31)) 901))) → iI (-1) = q ∧ XQ_ t v) := hm
    rw [h.1] at hm
    exact d_CH h hx hm
  | 8, hx, hm =>
    have hx : ((okS (5 : Int) (1 + (lowF m 9000))) → iI (s 0 (1 + (5 : Int))) = r ∧ XC_ s u (ups (s 0) (1 + (5 : Int)) (1 + (lowF m 9000)))) ∧ (¬ (okS (5 : Int) (1 + (lowF m 9000))) → iI (-1) = r ∧ XQ_ s u) := hx
    have hm : ((okS (5 : Int) (1 + (lowF m 9000))) → iI (t 0 (1 + (5 : Int))) = q ∧ XC_ t v (ups (t 0) (1 + (5 : Int)) (1 + (lowF m 9000)))) ∧ (¬ (okS (5 : Int) (1 + (lowF m 9000))) → iI (-1) = q ∧ XQ_ t v) := hm
    rw [h.1] at hm
    exact d_CH h hx hm
  | 9, hx, hm =>
    have hx : ((okS (6 : Int) (1 + (lowF m 32))) → iI (s 0 (1 + (6 : Int))) = r ∧ XC_ s u (ups (s 0) (1 + (6 : Int)) (1 + (lowF m 32)))) ∧ (¬ (okS (6 : Int) (1 + (lowF m 32))) → iI (-1) = r ∧ XQ_ s u) := hx
    have hm : ((okS (6 : Int) (1 + (lowF m 32))) → iI (t 0 (1 + (6 : Int))) = q ∧ XC_ t v (ups (t 0) (1 + (6 : Int)) (1 + (lowF m 32)))) ∧ (¬ (okS (6 : Int) (1 + (lowF m 32))) → iI (-1) = q ∧ XQ_ t v) := hm
    rw [h.1] at hm
    exact d_CH h hx hm
  | 10, hx, hm =>
    have hx : ((okS (7 : Int) (lowF m 2)) → iI (s 0 (1 + (7 : Int))) = r ∧ XC_ s u (ups (s 0) (1 + (7 : Int)) (lowF m 2))) ∧ (¬ (okS (7 : Int) (lowF m 2)) → iI (-1) = r ∧ XQ_ s u) := hx
    have hm : ((okS (7 : Int) (lowF m 2)) → iI (t 0 (1 + (7 : Int))) = q ∧ XC_ t v (ups (t 0) (1 + (7 : Int)) (lowF m 2))) ∧ (¬ (okS (7 : Int) (lowF m 2)) → iI (-1) = q ∧ XQ_ t v) := hm
    rw [h.1] at hm
    exact d_CH h hx hm
  | 11, hx, hm =>
    have hx : ((okS (8 : Int) (lowF m 501)) → iI (s 0 (1 + (8 : Int))) = r ∧ XC_ s u (ups (s 0) (1 + (8 : Int)) (lowF m 501))) ∧ (¬ (okS (8 : Int) (lowF m 501)) → iI (-1) = r ∧ XQ_ s u) := hx
    have hm : ((okS (8 : Int) (lowF m 501)) → iI (t 0 (1 + (8 : Int))) = q ∧ XC_ t v (ups (t 0) (1 + (8 : Int)) (lowF m 501))) ∧ (¬ (okS (8 : Int) (lowF m 501)) → iI (-1) = q ∧ XQ_ t v) := hm
    rw [h.1] at hm
    exact d_CH h hx hm
  | 12, hx, hm =>
    have hx : iI (fnd (s 0) (s 0 2)) = r ∧ XC_ s u (spF (s 0)) := hx
    have hm : iI (fnd (t 0) (t 0 2)) = q ∧ XC_ t v (spF (t 0)) := hm
    rw [h.1] at hm
    exact d_C1 h hx hm
  | 13, hx, hm =>
    have hx : Rmark (s 0) (lowF m F) r (XQ_ s u) (XC_ s u) := hx
    have hm : Rmark (t 0) (lowF m F) q (XQ_ t v) (XC_ t v) := hm
    rw [h.1] at hm
    exact d_mk h16 h hx hm
  | 14, hx, hm =>
    have hx : ((1 ≤ (0 : Int) ∧ (0 : Int) < s 0 74) → iI (s 0 74 - 1) = r ∧ XC_ s u (spr (s 0) (0 : Int))) ∧ (¬ (1 ≤ (0 : Int) ∧ (0 : Int) < s 0 74) → iI (-1) = r ∧ XQ_ s u) := hx
    have hm : ((1 ≤ (0 : Int) ∧ (0 : Int) < t 0 74) → iI (t 0 74 - 1) = q ∧ XC_ t v (spr (t 0) (0 : Int))) ∧ (¬ (1 ≤ (0 : Int) ∧ (0 : Int) < t 0 74) → iI (-1) = q ∧ XQ_ t v) := hm
    rw [h.1] at hm
    exact d_CH h hx hm
  | 15, hx, hm =>
    have hx : ((1 ≤ (1 + (lowF m (M - 1))) ∧ (1 + (lowF m (M - 1))) < s 0 74) → iI (s 0 74 - 1) = r ∧ XC_ s u (spr (s 0) (1 + (lowF m (M - 1))))) ∧ (¬ (1 ≤ (1 + (lowF m (M - 1))) ∧ (1 + (lowF m (M - 1))) < s 0 74) → iI (-1) = r ∧ XQ_ s u) := hx
    have hm : ((1 ≤ (1 + (lowF m (M - 1))) ∧ (1 + (lowF m (M - 1))) < t 0 74) → iI (t 0 74 - 1) = q ∧ XC_ t v (spr (t 0) (1 + (lowF m (M - 1))))) ∧ (¬ (1 ≤ (1 + (lowF m (M - 1))) ∧ (1 + (lowF m (M - 1))) < t 0 74) → iI (-1) = q ∧ XQ_ t v) := hm
    rw [h.1] at hm
    exact d_CH h hx hm
  | 16, hx, hm =>
    have hx : Rmove (s 0) (0 : Int) (0 : Int) r (XQ_ s u) (XC_ s u) := hx
    have hm : Rmove (t 0) (0 : Int) (0 : Int) q (XQ_ t v) (XC_ t v) := hm
    rw [h.1] at hm
    exact d_mv h hx hm
  | 17, hx, hm =>
    have hx : Rmove (s 0) (1 + (lowF m (M - 1))) (lowF (m >>> ((iI 4) &&& 31)) F) r (XQ_ s u) (XC_ s u) := hx
    have hm : Rmove (t 0) (1 + (lowF m (M - 1))) (lowF (m >>> ((iI 4) &&& 31)) F) q (XQ_ t v) (XC_ t v) := hm
    rw [h.1] at hm
    exact d_mv h hx hm
  | 18, hx, hm =>
    have hx : iI (s 0 (91 + (s 0 74 - 1))) = r ∧ XC_ s u (spV (s 0)) := hx
    have hm : iI (t 0 (91 + (t 0 74 - 1))) = q ∧ XC_ t v (spV (t 0)) := hm
    rw [h.1] at hm
    exact d_C1 h hx hm
  | 19, hx, hm =>
    have hx : (((0 ≤ (lowF m M) ∧ (lowF m M) < s 0 74) ∧ (0 ≤ (lowF (m >>> ((iI 4) &&& 31)) M) ∧ (lowF (m >>> ((iI 4) &&& 31)) M) < s 0 74)) → iI (s 0 (91 + (lowF (m >>> ((iI 4) &&& 31)) M))) = r ∧ XC_ s u (spx (s 0) (lowF m M) (lowF (m >>> ((iI 4) &&& 31)) M))) ∧ (¬ ((0 ≤ (lowF m M) ∧ (lowF m M) < s 0 74) ∧ (0 ≤ (lowF (m >>> ((iI 4) &&& 31)) M) ∧ (lowF (m >>> ((iI 4) &&& 31)) M) < s 0 74)) → iI (-1) = r ∧ XQ_ s u) := hx
    have hm : (((0 ≤ (lowF m M) ∧ (lowF m M) < t 0 74) ∧ (0 ≤ (lowF (m >>> ((iI 4) &&& 31)) M) ∧ (lowF (m >>> ((iI 4) &&& 31)) M) < t 0 74)) → iI (t 0 (91 + (lowF (m >>> ((iI 4) &&& 31)) M))) = q ∧ XC_ t v (spx (t 0) (lowF m M) (lowF (m >>> ((iI 4) &&& 31)) M))) ∧ (¬ ((0 ≤ (lowF m M) ∧ (lowF m M) < t 0 74) ∧ (0 ≤ (lowF (m >>> ((iI 4) &&& 31)) M) ∧ (lowF (m >>> ((iI 4) &&& 31)) M) < t 0 74)) → iI (-1) = q ∧ XQ_ t v) := hm
    rw [h.1] at hm
    exact d_CH h hx hm
  | 20, hx, hm =>
    have hx : (s 12 1 = 0 → iI (-2) = r ∧ XQ_ s u) ∧ (s 12 1 ≠ 0 → iI (s 12 1 - 1) = r ∧ u 0 = cpo (s 0) (s 1) (107 * s 12 0) ∧ u 1 = s 1 ∧ u 12 0 = (if 0 < s 12 0 then s 12 0 - 1 else 7) ∧ u 12 1 = s 12 1 - 1 ∧ u 9 = s 9 ∧ u 11 = s 11) := hx
    have hm : (t 12 1 = 0 → iI (-2) = q ∧ XQ_ t v) ∧ (t 12 1 ≠ 0 → iI (t 12 1 - 1) = q ∧ v 0 = cpo (t 0) (t 1) (107 * t 12 0) ∧ v 1 = t 1 ∧ v 12 0 = (if 0 < t 12 0 then t 12 0 - 1 else 7) ∧ v 12 1 = t 12 1 - 1 ∧ v 9 = t 9 ∧ v 11 = t 11) := hm
    exact d_undo h hx hm
  | 21, hx, hm =>
    have hx : ((0 ≤ (lowF (m >>> ((iI 1) &&& 31)) 2) ∧ (lowF (m >>> ((iI 1) &&& 31)) 2) ≤ 1) → iI (s 0 74) = r ∧ u 0 = s 0 ∧ u 1 = s 1 ∧ u 12 0 = s 12 0 ∧ u 12 1 = s 12 1 ∧ u 9 = cpi (s 9) (s 0) (107 * (lowF (m >>> ((iI 1) &&& 31)) 2)) ∧ u 11 = ups (s 11) (lowF (m >>> ((iI 1) &&& 31)) 2) 1) ∧ (¬ (0 ≤ (lowF (m >>> ((iI 1) &&& 31)) 2) ∧ (lowF (m >>> ((iI 1) &&& 31)) 2) ≤ 1) → iI (-1) = r ∧ XQ_ s u) := hx
    have hm : ((0 ≤ (lowF (m >>> ((iI 1) &&& 31)) 2) ∧ (lowF (m >>> ((iI 1) &&& 31)) 2) ≤ 1) → iI (t 0 74) = q ∧ v 0 = t 0 ∧ v 1 = t 1 ∧ v 12 0 = t 12 0 ∧ v 12 1 = t 12 1 ∧ v 9 = cpi (t 9) (t 0) (107 * (lowF (m >>> ((iI 1) &&& 31)) 2)) ∧ v 11 = ups (t 11) (lowF (m >>> ((iI 1) &&& 31)) 2) 1) ∧ (¬ (0 ≤ (lowF (m >>> ((iI 1) &&& 31)) 2) ∧ (lowF (m >>> ((iI 1) &&& 31)) 2) ≤ 1) → iI (-1) = q ∧ XQ_ t v) := hm
    exact d_keep h hx hm
  | 22, hx, hm =>
    have hx : (¬ (0 ≤ (lowF (m >>> ((iI 1) &&& 31)) 2) ∧ (lowF (m >>> ((iI 1) &&& 31)) 2) ≤ 1) → iI (-1) = r ∧ XQ_ s u) ∧ ((0 ≤ (lowF (m >>> ((iI 1) &&& 31)) 2) ∧ (lowF (m >>> ((iI 1) &&& 31)) 2) ≤ 1) → (s 11 (lowF (m >>> ((iI 1) &&& 31)) 2) = 0 → iI (-2) = r ∧ XQ_ s u) ∧ (s 11 (lowF (m >>> ((iI 1) &&& 31)) 2) ≠ 0 → iI (s 9 (107 * (lowF (m >>> ((iI 1) &&& 31)) 2) + 74)) = r ∧ XC_ s u (cpo (s 0) (s 9) (107 * (lowF (m >>> ((iI 1) &&& 31)) 2))))) := hx
    have hm : (¬ (0 ≤ (lowF (m >>> ((iI 1) &&& 31)) 2) ∧ (lowF (m >>> ((iI 1) &&& 31)) 2) ≤ 1) → iI (-1) = q ∧ XQ_ t v) ∧ ((0 ≤ (lowF (m >>> ((iI 1) &&& 31)) 2) ∧ (lowF (m >>> ((iI 1) &&& 31)) 2) ≤ 1) → (t 11 (lowF (m >>> ((iI 1) &&& 31)) 2) = 0 → iI (-2) = q ∧ XQ_ t v) ∧ (t 11 (lowF (m >>> ((iI 1) &&& 31)) 2) ≠ 0 → iI (t 9 (107 * (lowF (m >>> ((iI 1) &&& 31)) 2) + 74)) = q ∧ XC_ t v (cpo (t 0) (t 9) (107 * (lowF (m >>> ((iI 1) &&& 31)) 2))))) := hm
    exact d_back h hx hm
  | n + 23, hx, hm => exact hx.elim
