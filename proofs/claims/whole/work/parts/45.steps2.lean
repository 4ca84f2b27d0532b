/-! undo and the images, on both sides (wip/gen/steps.py) -/
theorem st_undo {σ τ u t : Nat → Int → Int} {r q : Int32}  (h : Rel σ τ) (hx : (σ 12 1 = 0 → iI (-2) = r ∧ XQ_ σ u) ∧ (σ 12 1 ≠ 0 → iI (σ 12 1 - 1) = r ∧ u 0 = cpo (σ 0) (σ 1) (107 * σ 12 0) ∧ u 1 = σ 1 ∧ u 12 0 = (if 0 < σ 12 0 then σ 12 0 - 1 else 7) ∧ u 12 1 = σ 12 1 - 1 ∧ u 9 = σ 9 ∧ u 11 = σ 11)) (hm : (τ 2 0 = 0 → iI (-2) = q ∧ MQ_ τ t) ∧ (τ 2 0 ≠ 0 → iI (τ 2 0 - 1) = q ∧ t 0 = cpo (τ 0) (τ 1) (107 * (τ 2 0 - 1)) ∧ t 1 = τ 1 ∧ t 2 0 = τ 2 0 - 1 ∧ t 2 1 = τ 2 1 ∧ t 3 = τ 3)) : r = q ∧ Rel u t := by
  have e := h.2.2.2.1
  rcases Classical.em (σ 12 1 = 0) with c | c
  · exact ⟨(hx.1 c).1.symm.trans (hm.1 (by omega)).1, Rel_Q h (hx.1 c).2 (hm.1 (by omega)).2⟩
  · exact ⟨(hx.2 c).1.symm.trans ((congrArg iI (by omega)).trans (hm.2 (by omega)).1), Rel_undo h c (hx.2 c).2 (hm.2 (by omega)).2⟩
theorem st_keep {σ τ u t : Nat → Int → Int} {r q : Int32} (x : Int) (h : Rel σ τ) (hx : ((0 ≤ x ∧ x ≤ 1) → iI (σ 0 74) = r ∧ u 0 = σ 0 ∧ u 1 = σ 1 ∧ u 12 0 = σ 12 0 ∧ u 12 1 = σ 12 1 ∧ u 9 = cpi (σ 9) (σ 0) (107 * x) ∧ u 11 = ups (σ 11) x 1) ∧ (¬ (0 ≤ x ∧ x ≤ 1) → iI (-1) = r ∧ XQ_ σ u)) (hm : ((0 ≤ x ∧ x ≤ 1) → iI (τ 0 74) = q ∧ t 0 = τ 0 ∧ t 1 = τ 1 ∧ t 2 0 = τ 2 0 ∧ t 2 1 = orF (τ 2 1) x ∧ t 3 = cpi (τ 3) (τ 0) (107 * x)) ∧ (¬ (0 ≤ x ∧ x ≤ 1) → iI (-1) = q ∧ MQ_ τ t)) : r = q ∧ Rel u t := by
  rcases Classical.em (0 ≤ x ∧ x ≤ 1) with c | c
  · exact ⟨(hx.1 c).1.symm.trans ((congrArg iI (congrFun h.1 74)).trans (hm.1 c).1), Rel_keep h c (hx.1 c).2 (hm.1 c).2⟩
  · exact ⟨(hx.2 c).1.symm.trans (hm.2 c).1, Rel_Q h (hx.2 c).2 (hm.2 c).2⟩
theorem st_back {σ τ u t : Nat → Int → Int} {r q : Int32} (x : Int) (h : Rel σ τ) (hx : (¬ (0 ≤ x ∧ x ≤ 1) → iI (-1) = r ∧ XQ_ σ u) ∧ ((0 ≤ x ∧ x ≤ 1) → (σ 11 x = 0 → iI (-2) = r ∧ XQ_ σ u) ∧ (σ 11 x ≠ 0 → iI (σ 9 (107 * x + 74)) = r ∧ XC_ σ u (cpo (σ 0) (σ 9) (107 * x))))) (hm : (¬ (0 ≤ x ∧ x ≤ 1) → iI (-1) = q ∧ MQ_ τ t) ∧ ((0 ≤ x ∧ x ≤ 1) → (hasF (τ 2 1) x = 0 → iI (-2) = q ∧ MQ_ τ t) ∧ (hasF (τ 2 1) x ≠ 0 → iI (τ 3 (107 * x + 74)) = q ∧ MC_ τ t (cpo (τ 0) (τ 3) (107 * x))))) : r = q ∧ Rel u t := by
  rcases Classical.em (0 ≤ x ∧ x ≤ 1) with c | c
  · have e := (h.2.2.2.2.2.2 x c.1 c.2).1
    have hr := h.2.2.2.2.1
    rcases Classical.em (σ 11 x = 0) with d | d
    · exact ⟨((hx.2 c).1 d).1.symm.trans ((hm.2 c).1 (by omega)).1, Rel_Q h ((hx.2 c).1 d).2 ((hm.2 c).1 (by omega)).2⟩
    · have hf : hasF (τ 2 1) x = 1 := by rw [e] at d; unfold hasF at d ⊢; split <;> split at d <;> omega
      obtain ⟨i1, i2, i3⟩ := Rel_image h c hf
      exact ⟨((hx.2 c).2 d).1.symm.trans ((congrArg iI i3).trans ((hm.2 c).2 (by omega)).1), Rel_C h i2 i1 ((hx.2 c).2 d).2 ((hm.2 c).2 (by omega)).2⟩
  · exact ⟨(hx.1 c).1.symm.trans (hm.1 c).1, Rel_Q h (hx.1 c).2 (hm.1 c).2⟩
