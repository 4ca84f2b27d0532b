/-! the numbers of a loop stay sound through every change -/
theorem sumN_front (f : Int → Int) : ∀ n : Nat, sumN f (n + 1) = f 0 + sumN (fun k => f (k + 1)) n
  | 0 => by show (0 : Int) + f ((0 : Nat) : Int) = f 0 + 0; rw [Int.zero_add, Int.add_zero]; rfl
  | n + 1 => by
    show sumN f (n + 1) + f ((n + 1 : Nat) : Int) = f 0 + (sumN (fun k => f (k + 1)) n + f ((n : Int) + 1))
    rw [sumN_front f n, show ((n + 1 : Nat) : Int) = (n : Int) + 1 by omega]; omega
theorem sumN_back (f : Int → Int) : ∀ n : Nat, sumN (fun k => f ((n : Int) - 1 - k)) n = sumN f n
  | 0 => rfl
  | n + 1 => by
    rw [sumN_front]
    show f (((n + 1 : Nat) : Int) - 1 - 0) + sumN (fun k => f (((n + 1 : Nat) : Int) - 1 - (k + 1))) n = sumN f n + f (n : Int)
    rw [sumN_congr (g := fun k => f ((n : Int) - 1 - k)) n (fun k h1 h2 => congrArg f (by omega)), sumN_back f n, show ((n + 1 : Nat) : Int) - 1 - 0 = (n : Int) by omega]; omega
theorem Perm_of {w w' : Int → Int} (h : Perm w) (e74 : w 74 = w' 74) (e : ∀ k, 0 ≤ k → k < w 74 → w (91 + k) = w' (91 + k)) : Perm w' := by
  refine ⟨fun k h1 h2 => ?_, fun f => ?_⟩
  · have := h.1 k h1 (by omega)
    rw [← e k h1 (by omega)]; omega
  · have := h.2 f
    rw [← e74, ← this]
    exact sumN_congr _ (fun k h1 h2 => congrArg f (e k h1 (by omega)).symm)
theorem Perm_id {w : Int → Int} (e : ∀ k, 0 ≤ k → k < w 74 → w (91 + k) = k) : Perm w := by
  refine ⟨fun k h1 h2 => ?_, fun f => ?_⟩
  · rw [e k h1 h2]; omega
  · exact sumN_congr _ (fun k h1 h2 => congrArg f (e k h1 (by omega)))
theorem Inv_congr {w w' : Int → Int} (h : Inv w) (e : ∀ k, 0 ≤ k → k < 107 → w k = w' k) : Inv w' := by
  obtain ⟨hB, hE, hM, hA, hP⟩ := h
  have e0 := e 0 (by decide) (by decide)
  have e1 := e 1 (by decide) (by decide)
  have e2 := e 2 (by decide) (by decide)
  have e3 := e 3 (by decide) (by decide)
  have e4 := e 4 (by decide) (by decide)
  have e5 := e 5 (by decide) (by decide)
  have e6 := e 6 (by decide) (by decide)
  have e7 := e 7 (by decide) (by decide)
  have e8 := e 8 (by decide) (by decide)
  have e9 := e 9 (by decide) (by decide)
  have e74 := e 74 (by decide) (by decide)
  have e75 := e 75 (by decide) (by decide)
  refine ⟨by omega, fun k h1 h2 => ?_, fun k h1 h2 => ?_, fun k h1 h2 => ?_, Perm_of hP e74 (fun k h1 h2 => e _ (by omega) (by omega))⟩
  · have := hE k h1 h2; have := e (10 + k) (by omega) (by omega); omega
  · have := hM k h1 (by omega); have := e (75 + k) (by omega) (by omega); omega
  · have := hA k h1 (by omega); have := e (75 + k) (by omega) (by omega); have := e (75 + (k + 1)) (by omega) (by omega); omega
theorem Inv_spc {w : Int → Int} (h : Inv w) {x : Int} (hx : 1 ≤ x ∧ x ≤ 64) : Inv (spc w x) := by
  obtain ⟨hB, hE, hM, hA, hP⟩ := h
  refine ⟨?_, fun k h1 h2 => ?_, fun k h1 h2 => ?_, fun k h1 h2 => ?_, Perm_id (fun k h1 h2 => ?_)⟩
  · have e0 : spc w x 0 = x := rfl
    have e1 : spc w x 1 = w 1 := rfl
    have e2 : spc w x 2 = w 2 := rfl
    have e3 : spc w x 3 = w 3 := rfl
    have e4 : spc w x 4 = w 4 := rfl
    have e5 : spc w x 5 = w 5 := rfl
    have e6 : spc w x 6 = w 6 := rfl
    have e7 : spc w x 7 = w 7 := rfl
    have e8 : spc w x 8 = w 8 := rfl
    have e9 : spc w x 9 = w 9 := rfl
    have e74 : spc w x 74 = 1 := rfl
    have e75 : spc w x 75 = 0 := rfl
    omega
  · unfold spc; (repeat' split) <;> omega
  · have e74 : spc w x 74 = 1 := rfl
    have e0 : spc w x 0 = x := rfl
    rw [e74] at h2
    rw [show k = 0 by omega, e0]
    have e75 : spc w x (75 + 0) = 0 := rfl
    omega
  · have e74 : spc w x 74 = 1 := rfl
    omega
  · have e74 : spc w x 74 = 1 := rfl
    unfold spc; (repeat' split) <;> omega
theorem Inv_spS {w : Int → Int} (h : Inv w) {x y e : Int} (hx : okE w x y e) : Inv (spS w x y e) := by
  obtain ⟨hB, hE, hM, hA, hP⟩ := h
  unfold okE at hx
  have en : ∀ k, k < 10 ∨ 74 ≤ k → spS w x y e k = w k := fun k hk => if_neg (by omega)
  have e0 := en 0 (by omega)
  have e1 := en 1 (by omega)
  have e2 := en 2 (by omega)
  have e3 := en 3 (by omega)
  have e4 := en 4 (by omega)
  have e5 := en 5 (by omega)
  have e6 := en 6 (by omega)
  have e7 := en 7 (by omega)
  have e8 := en 8 (by omega)
  have e9 := en 9 (by omega)
  have e74 := en 74 (by omega)
  have e75 := en 75 (by omega)
  refine ⟨by omega, fun k h1 h2 => ?_, fun k h1 h2 => ?_, fun k h1 h2 => ?_, Perm_of hP e74.symm (fun k h1 h2 => (en _ (by omega)).symm)⟩
  · have := hE k h1 h2; unfold spS; split <;> omega
  · have := hM k h1 (by omega); have := en (75 + k) (by omega); omega
  · have := hA k h1 (by omega); have := en (75 + k) (by omega); have := en (75 + (k + 1)) (by omega); omega
theorem Inv_set {w : Int → Int} (h : Inv w) {x y : Int} (hx : okS x y) : Inv (ups w (1 + x) y) := by
  obtain ⟨hB, hE, hM, hA, hP⟩ := h
  obtain ⟨a0, a1, a2, a3⟩ := hx
  have en : ∀ k, k ≠ 1 + x → ups w (1 + x) y k = w k := fun k hk => ups_n _ _ hk
  have es : ∀ k, k = 1 + x → ups w (1 + x) y k = y := fun k hk => by rw [hk]; exact ups_s _ _ _
  have e0 := en 0 (by omega)
  have e74 := en 74 (by omega)
  have e75 := en 75 (by omega)
  refine ⟨?_, fun k h1 h2 => ?_, fun k h1 h2 => ?_, fun k h1 h2 => ?_, Perm_of hP e74.symm (fun k h1 h2 => (en _ (by omega)).symm)⟩
  · have hq : x = 0 ∨ x = 1 ∨ x = 2 ∨ x = 3 ∨ x = 4 ∨ x = 5 ∨ x = 6 ∨ x = 7 ∨ x = 8 := by omega
    unfold lowS at a2; unfold highS at a3
    rcases hq with rfl | rfl | rfl | rfl | rfl | rfl | rfl | rfl | rfl <;> simp only [ups] <;> simp at a2 a3 ⊢ <;> omega
  · have := hE k h1 h2; have := en (10 + k) (by omega); omega
  · have := hM k h1 (by omega); have := en (75 + k) (by omega); omega
  · have := hA k h1 (by omega); have := en (75 + k) (by omega); have := en (75 + (k + 1)) (by omega); omega
