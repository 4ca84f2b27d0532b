/-! the order, the marks: sound through every change -/
theorem Inv_ord {w w' : Int → Int} (h : Inv w) (en : ∀ k, k < 91 → w' k = w k) (hP : Perm w') : Inv w' := by
  obtain ⟨hB, hE, hM, hA, -⟩ := h
  have e0 := en 0 (by decide)
  have e1 := en 1 (by decide)
  have e2 := en 2 (by decide)
  have e3 := en 3 (by decide)
  have e4 := en 4 (by decide)
  have e5 := en 5 (by decide)
  have e6 := en 6 (by decide)
  have e7 := en 7 (by decide)
  have e8 := en 8 (by decide)
  have e9 := en 9 (by decide)
  have e74 := en 74 (by decide)
  have e75 := en 75 (by decide)
  refine ⟨by omega, fun k h1 h2 => ?_, fun k h1 h2 => ?_, fun k h1 h2 => ?_, hP⟩
  · have := hE k h1 h2; have := en (10 + k) (by omega); omega
  · have := hM k h1 (by omega); have := en (75 + k) (by omega); omega
  · have := hA k h1 (by omega); have := en (75 + k) (by omega); have := en (75 + (k + 1)) (by omega); omega
theorem Inv_spx {w : Int → Int} (h : Inv w) {i j : Int} (hi : 0 ≤ i ∧ i < w 74) (hj : 0 ≤ j ∧ j < w 74) : Inv (spx w i j) := by
  have hP := h.2.2.2.2
  have en : ∀ k, k < 91 → spx w i j k = w k := fun k hk => (ups_n _ _ (by omega)).trans (ups_n _ _ (by omega))
  have e74 := en 74 (by decide)
  refine Inv_ord h en ⟨fun k h1 h2 => ?_, fun f => ?_⟩
  · rw [e74] at h2 ⊢
    have a1 := hP.1 k h1 h2
    have a2 := hP.1 i hi.1 hi.2
    have a3 := hP.1 j hj.1 hj.2
    unfold spx ups; (repeat' split) <;> omega
  · rw [e74, ← hP.2 f]
    have e : ∀ k : Int, 0 ≤ k → k < ((w 74).toNat : Int) → f (spx w i j (91 + k)) = ups (ups (fun k => f (w (91 + k))) i (f (w (91 + j)))) j (f (w (91 + i))) k := fun k h1 h2 => by
      unfold spx ups; (repeat' split) <;> first | rfl | omega
    rw [sumN_congr (f := fun k => f (spx w i j (91 + k))) _ e, sumN_ups _ _ _ _ hj.1, if_pos (by omega), sumN_ups _ _ _ _ hi.1, if_pos (by omega)]
    unfold ups
    by_cases hq : j = i
    · rw [if_pos hq, hq]; omega
    · rw [if_neg hq]; dsimp only; omega
theorem Inv_spV {w : Int → Int} (h : Inv w) : Inv (spV w) := by
  have hP := h.2.2.2.2
  have hB := h.1
  have en : ∀ k, k < 91 → spV w k = w k := fun k hk => if_neg (by omega)
  have e74 := en 74 (by decide)
  have ev : ∀ k, 0 ≤ k → k < w 74 → spV w (91 + k) = w (91 + (w 74 - 1 - k)) := fun k h1 h2 => (if_pos (by omega)).trans (congrArg w (by omega))
  refine Inv_ord h en ⟨fun k h1 h2 => ?_, fun f => ?_⟩
  · rw [e74] at h2 ⊢
    rw [ev k h1 h2]
    exact hP.1 _ (by omega) (by omega)
  · rw [e74, ← hP.2 f, ← sumN_back (fun k => f (w (91 + k))) (w 74).toNat]
    exact sumN_congr _ (fun k h1 h2 => by rw [ev k h1 (by omega)]; exact congrArg (fun z => f (w z)) (by omega))
theorem Inv_mks {w w' : Int → Int} (h : Inv w) (en : ∀ k, k < 74 → w' k = w k) (h74 : 1 ≤ w' 74 ∧ w' 74 ≤ 16) (h75 : w' 75 = 0) (hM' : ∀ k, 0 ≤ k → k < w' 74 → 0 ≤ w' (75 + k) ∧ w' (75 + k) < w 0) (hA' : ∀ k, 0 ≤ k → k + 1 < w' 74 → w' (75 + k) < w' (75 + (k + 1))) (hP : Perm w') : Inv w' := by
  obtain ⟨hB, hE, -, -, -⟩ := h
  have e0 := en 0 (by decide)
  have e1 := en 1 (by decide)
  have e2 := en 2 (by decide)
  have e3 := en 3 (by decide)
  have e4 := en 4 (by decide)
  have e5 := en 5 (by decide)
  have e6 := en 6 (by decide)
  have e7 := en 7 (by decide)
  have e8 := en 8 (by decide)
  have e9 := en 9 (by decide)
  refine ⟨by omega, fun k h1 h2 => ?_, fun k h1 h2 => ?_, hA', hP⟩
  · have := hE k h1 h2; have := en (10 + k) (by omega); omega
  · rw [e0]; exact hM' k h1 h2
theorem Inv_spi {w : Int → Int} (h : Inv w) {x p : Int} (hx : 0 ≤ x ∧ x < w 0) (hp : Bef w x p) (hne : ¬ (p < w 74 ∧ w (75 + p) = x)) (h16 : w 74 < 16) : Inv (spi w p x) := by
  obtain ⟨hB, hE, hM, hA, hP⟩ := id h
  obtain ⟨p0, p1, p2, p3⟩ := hp
  have h75 : w 75 = 0 := hB.2.2.2.2.2.2.2.2.2.2.2
  have hp1 : 1 ≤ p := by
    by_cases hq : p = 0
    · exfalso
      have a1 := p3 (by omega)
      rw [hq] at a1
      have a2 : x ≤ w 75 := a1
      exact hne ⟨by omega, by rw [hq]; show w 75 = x; omega⟩
    · omega
  have e74 : spi w p x 74 = w 74 + 1 := rfl
  have ev : ∀ k, 0 ≤ k → k ≤ w 74 → spi w p x (75 + k) = if k < p then w (75 + k) else if k = p then x else w (75 + (k - 1)) := fun k h1 h2 => by
    unfold spi; (repeat' split) <;> first | omega | rfl | exact congrArg w (by omega)
  refine Inv_mks h (fun k hk => ?_) (by omega) ?_ (fun k h1 h2 => ?_) (fun k h1 h2 => ?_) (Perm_id (fun k h1 h2 => ?_))
  · unfold spi; (repeat' split) <;> omega
  · exact (ev 0 (by omega) (by omega)).trans ((if_pos (by omega)).trans h75)
  · rw [ev k h1 (by omega)]
    by_cases c1 : k < p
    · rw [if_pos c1]; exact hM k h1 (by omega)
    · rw [if_neg c1]
      by_cases c2 : k = p
      · rw [if_pos c2]; exact hx
      · rw [if_neg c2]; exact hM (k - 1) (by omega) (by omega)
  · rw [ev k h1 (by omega), ev (k + 1) (by omega) (by omega)]
    by_cases c1 : k + 1 < p
    · rw [if_pos (by omega), if_pos c1]; exact hA k h1 (by omega)
    · by_cases c2 : k + 1 = p
      · rw [if_pos (by omega), if_neg c1, if_pos c2]; exact p2 k h1 (by omega)
      · by_cases c3 : k = p
        · rw [if_neg (by omega), if_pos c3, if_neg c1, if_neg c2, show k + 1 - 1 = p by omega]
          have a1 := p3 (by omega)
          have a2 : w (75 + p) ≠ x := fun q => hne ⟨by omega, q⟩
          omega
        · rw [if_neg (by omega), if_neg c3, if_neg c1, if_neg c2]
          have a1 := hA (k - 1) (by omega) (by omega)
          rw [show k - 1 + 1 = k + 1 - 1 by omega] at a1
          exact a1
  · unfold spi; rw [e74] at h2; (repeat' split) <;> omega
theorem Inv_spr {w : Int → Int} (h : Inv w) {n : Int} (hn : 1 ≤ n ∧ n < w 74) : Inv (spr w n) := by
  obtain ⟨hB, hE, hM, hA, hP⟩ := id h
  have h75 : w 75 = 0 := hB.2.2.2.2.2.2.2.2.2.2.2
  have e74 : spr w n 74 = w 74 - 1 := rfl
  have ev : ∀ k, 0 ≤ k → k < w 74 - 1 → spr w n (75 + k) = if k < n then w (75 + k) else w (75 + (k + 1)) := fun k h1 h2 => by
    unfold spr; (repeat' split) <;> first | omega | rfl | exact congrArg w (by omega)
  refine Inv_mks h (fun k hk => ?_) (by omega) ?_ (fun k h1 h2 => ?_) (fun k h1 h2 => ?_) (Perm_id (fun k h1 h2 => ?_))
  · unfold spr; (repeat' split) <;> omega
  · exact (ev 0 (by omega) (by omega)).trans ((if_pos (by omega)).trans h75)
  · rw [ev k h1 (by omega)]
    split
    · exact hM k h1 (by omega)
    · exact hM (k + 1) (by omega) (by omega)
  · rw [ev k h1 (by omega), ev (k + 1) (by omega) (by omega)]
    by_cases c1 : k + 1 < n
    · rw [if_pos (by omega), if_pos c1]; exact hA k h1 (by omega)
    · have a2 := hA (k + 1) (by omega) (by omega)
      rw [if_neg c1]
      split
      · have a1 := hA k h1 (by omega); omega
      · exact a2
  · unfold spr; rw [e74] at h2; (repeat' split) <;> omega
theorem Inv_spM {w : Int → Int} (h : Inv w) {m f : Int} (hm : 1 ≤ m ∧ m < w 74) (hf : 0 ≤ f ∧ f < w 0) (h1 : fr w (m - 1) < f) (h2 : f < fr w (m + 1)) : Inv (spM w m f) := by
  obtain ⟨hB, hE, hM, hA, hP⟩ := id h
  have en : ∀ k, k ≠ 75 + m → spM w m f k = w k := fun k hk => ups_n _ _ hk
  have es : spM w m f (75 + m) = f := ups_s _ _ _
  have e74 := en 74 (by omega)
  rw [fr_lt (by omega)] at h1
  refine Inv_mks h (fun k hk => en k (by omega)) (by omega) ((en 75 (by omega)).trans hB.2.2.2.2.2.2.2.2.2.2.2) (fun k k1 k2 => ?_) (fun k k1 k2 => ?_) (Perm_of hP e74.symm (fun k k1 k2 => (en _ (by omega)).symm))
  · by_cases c : k = m
    · rw [c, es]; exact hf
    · rw [en _ (by omega)]; exact hM k k1 (by omega)
  · by_cases c : k = m
    · rw [c, es, en _ (by omega)]
      rw [fr_lt (by omega)] at h2
      exact h2
    · by_cases c2 : k + 1 = m
      · rw [en _ (by omega), show k + 1 = m by omega, es, show k = m - 1 by omega]; exact h1
      · rw [en _ (by omega), en _ (by omega)]; exact hA k k1 (by omega)
theorem fbn_asc (w : Int → Int) (t : Int) (b : Int → Int) : ∀ (n : Nat) (k : Int), 0 ≤ k → k + 1 < (fbn w t b n).1 → (fbn w t b n).2 k < (fbn w t b n).2 (k + 1)
  | 0, k, h1, h2 => by
    have h3 : k + 1 < 1 := h2
    omega
  | n + 1, k, h1, h2 => by
    by_cases hc : (fbn w t b n).1 < 16 ∧ t ≤ w (10 + ((n : Int) + 1)) - w (10 + (n : Int)) ∧ w 3 ≤ (n : Int) + 1 - (fbn w t b n).2 ((fbn w t b n).1 - 1)
    · rw [fbn_y hc] at h2 ⊢
      have h2' : k + 1 < (fbn w t b n).1 + 1 := h2
      show ups _ _ _ k < ups _ _ _ (k + 1)
      rw [ups_n _ _ (by omega)]
      by_cases c : k + 1 = (fbn w t b n).1
      · rw [c, ups_s]
        have := (fbn_in w t b n).2.2.2.2 k h1 (by omega)
        omega
      · rw [ups_n _ _ c]
        exact fbn_asc w t b n k h1 (by omega)
    · rw [fbn_n hc] at h2 ⊢
      exact fbn_asc w t b n k h1 h2
theorem Inv_spF {w : Int → Int} (h : Inv w) : Inv (spF w) := by
  obtain ⟨hB, hE, hM, hA, hP⟩ := id h
  obtain ⟨b1, b2, b3, b4, b5⟩ := fbn_in w (w 2) (fun k => w (75 + k)) (w 0 - 1).toNat
  have e74 : spF w 74 = (fbn w (w 2) (fun k => w (75 + k)) (w 0 - 1).toNat).1 := rfl
  have ev : ∀ k, 0 ≤ k → k < 16 → spF w (75 + k) = (fbn w (w 2) (fun k => w (75 + k)) (w 0 - 1).toNat).2 k := fun k h1 h2 => by
    unfold spF; rw [if_neg (by omega), if_pos (by omega), show 75 + k - 75 = k by omega]
  refine Inv_mks h (fun k hk => ?_) (by rw [e74]; exact ⟨b1, b2⟩) ((ev 0 (by omega) (by omega)).trans b4) (fun k h1 h2 => ?_) (fun k h1 h2 => ?_) (Perm_id (fun k h1 h2 => ?_))
  · unfold spF; (repeat' split) <;> omega
  · rw [e74] at h2
    rw [ev k h1 (by omega)]
    have := b5 k h1 h2
    omega
  · rw [e74] at h2
    rw [ev k h1 (by omega), ev (k + 1) (by omega) (by omega)]
    exact fbn_asc w (w 2) _ _ k h1 h2
  · rw [e74] at h2
    unfold spF; (repeat' split) <;> omega
