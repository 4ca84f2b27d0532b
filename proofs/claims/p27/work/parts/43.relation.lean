/-! the program's state and the reference's, side by side -/
def slt (n j : Int) : Int := if j ≤ n then n - j else n + 8 - j
def Rel (σ τ : Nat → Int → Int) : Prop :=
  σ 0 = τ 0 ∧ Inv (σ 0) ∧ ((0 ≤ σ 12 0 ∧ σ 12 0 ≤ 7) ∧ (0 ≤ σ 12 1 ∧ σ 12 1 ≤ 8)) ∧ τ 2 0 = σ 12 1 ∧ (0 ≤ τ 2 1 ∧ τ 2 1 ≤ 3) ∧
  (∀ j, 0 ≤ j → j < σ 12 1 → (∀ k, 0 ≤ k → k < 107 → σ 1 (107 * slt (σ 12 0) j + k) = τ 1 (107 * (σ 12 1 - 1 - j) + k)) ∧ Inv (fun k => τ 1 (107 * (σ 12 1 - 1 - j) + k))) ∧
  (∀ i, 0 ≤ i → i ≤ 1 → σ 11 i = hasF (τ 2 1) i ∧ (hasF (τ 2 1) i = 1 → (∀ k, 0 ≤ k → k < 107 → σ 9 (107 * i + k) = τ 3 (107 * i + k)) ∧ Inv (fun k => τ 3 (107 * i + k))))
theorem Rel_Q {σ τ u v : Nat → Int → Int} (h : Rel σ τ) (hx : XQ_ σ u) (hm : MQ_ τ v) : Rel u v := by
  obtain ⟨x0, x1, x2, x3, x4, x5⟩ := hx
  obtain ⟨m0, m1, m2, m3, m4⟩ := hm
  unfold Rel
  rw [x0, x1, x2, x3, x4, x5, m0, m1, m2, m3, m4]
  exact h
theorem Rel_C {σ τ u v : Nat → Int → Int} {w w' : Int → Int} (h : Rel σ τ) (hw : Inv w) (e : w = w') (hx : XC_ σ u w) (hm : MC_ τ v w') : Rel u v := by
  subst e
  obtain ⟨x0, x1, x2, x3, x4, x5⟩ := hx
  obtain ⟨m0, m1, m2, m3, m4⟩ := hm
  obtain ⟨r0, r1, ⟨r2, r3⟩, r4, r5, r6, r7⟩ := h
  have hn : 0 ≤ nxs (σ 12 0) ∧ nxs (σ 12 0) ≤ 7 := by unfold nxs; split <;> omega
  have hz : 0 ≤ szs (σ 12 1) ∧ szs (σ 12 1) ≤ 8 := by unfold szs; split <;> omega
  have hzm : mpm (σ 12 1) = szs (σ 12 1) := by unfold mpm szs; (repeat' split) <;> omega
  unfold Rel
  rw [x0, x1, x2, x3, x4, x5, m0, m1, m2, m3, m4, r4]
  refine ⟨rfl, hw, ⟨hn, hz⟩, hzm, r5, fun j j0 j1 => ?_, r7⟩
  have hT : ∀ k, 0 ≤ k → k < 107 → mpast (τ 1) (τ 0) (σ 12 1) (107 * (szs (σ 12 1) - 1 - j) + k) = if j = 0 then τ 0 k else τ 1 (107 * (σ 12 1 - 1 - (j - 1)) + k) := fun k k0 k1 => by
    have hzz : (σ 12 1 = 8 ∧ szs (σ 12 1) = 8) ∨ (σ 12 1 ≠ 8 ∧ szs (σ 12 1) = σ 12 1 + 1) := by unfold szs; split <;> omega
    unfold mpast
    rcases hzz with ⟨z1, z2⟩ | ⟨z1, z2⟩
    · rw [if_pos z1]
      by_cases hj : j = 0
      · rw [if_pos hj, if_neg (by omega), if_pos (by omega)]; exact congrArg _ (by omega)
      · rw [if_neg hj, if_pos (by omega)]; exact congrArg _ (by omega)
    · rw [if_neg z1]
      by_cases hj : j = 0
      · rw [if_pos hj, if_pos (by omega)]; exact congrArg _ (by omega)
      · rw [if_neg hj, if_neg (by omega)]; exact congrArg _ (by omega)
  have hS : ∀ k, 0 ≤ k → k < 107 → cpi (σ 1) (σ 0) (107 * nxs (σ 12 0)) (107 * slt (nxs (σ 12 0)) j + k) = if j = 0 then σ 0 k else σ 1 (107 * slt (σ 12 0) (j - 1) + k) := fun k k0 k1 => by
    have hj8 : j < 8 := by omega
    by_cases hj : j = 0
    · rw [if_pos hj]
      have e1 : slt (nxs (σ 12 0)) j = nxs (σ 12 0) := by unfold slt; rw [hj, if_pos (by omega)]; omega
      rw [e1]
      unfold cpi
      rw [if_pos (by omega)]
      exact congrArg _ (by omega)
    · rw [if_neg hj]
      have e1 : slt (nxs (σ 12 0)) j = slt (σ 12 0) (j - 1) := by unfold slt nxs; (repeat' split) <;> omega
      have e2 : slt (nxs (σ 12 0)) j ≠ nxs (σ 12 0) := by unfold slt; split <;> omega
      unfold cpi
      rw [if_neg (by omega), e1]
  have hj9 : j ≠ 0 → j - 1 < σ 12 1 := fun hj => by unfold szs at j1; split at j1 <;> omega
  refine ⟨fun k k0 k1 => ?_, ?_⟩
  · rw [hT k k0 k1, hS k k0 k1]
    by_cases hj : j = 0
    · rw [if_pos hj, if_pos hj, r0]
    · rw [if_neg hj, if_neg hj]; exact (r6 (j - 1) (by omega) (hj9 hj)).1 k k0 k1
  · by_cases hj : j = 0
    · exact Inv_congr r1 (fun k k0 k1 => by rw [hT k k0 k1, if_pos hj, r0])
    · exact Inv_congr (r6 (j - 1) (by omega) (hj9 hj)).2 (fun k k0 k1 => by rw [hT k k0 k1, if_neg hj])
theorem Rel_undo {σ τ u v : Nat → Int → Int} (h : Rel σ τ) (hz : σ 12 1 ≠ 0)
    (hx : u 0 = cpo (σ 0) (σ 1) (107 * σ 12 0) ∧ u 1 = σ 1 ∧ u 12 0 = (if 0 < σ 12 0 then σ 12 0 - 1 else 7) ∧ u 12 1 = σ 12 1 - 1 ∧ u 9 = σ 9 ∧ u 11 = σ 11)
    (hm : v 0 = cpo (τ 0) (τ 1) (107 * (τ 2 0 - 1)) ∧ v 1 = τ 1 ∧ v 2 0 = τ 2 0 - 1 ∧ v 2 1 = τ 2 1 ∧ v 3 = τ 3) : Rel u v := by
  obtain ⟨x0, x1, x2, x3, x4, x5⟩ := hx
  obtain ⟨m0, m1, m2, m3, m4⟩ := hm
  obtain ⟨r0, r1, ⟨r2, r3⟩, r4, r5, r6, r7⟩ := h
  obtain ⟨a1, a2⟩ := r6 0 (by omega) (by omega)
  have es : slt (σ 12 0) 0 = σ 12 0 := by unfold slt; rw [if_pos (by omega)]; omega
  rw [es] at a1
  unfold Rel
  rw [x0, x1, x2, x3, x4, x5, m0, m1, m2, m3, m4, r4]
  have hv : ∀ k, 0 ≤ k → k < 107 → τ 1 (107 * (σ 12 1 - 1 - 0) + k) = cpo (σ 0) (σ 1) (107 * σ 12 0) k := fun k k0 k1 => by
    unfold cpo; rw [if_pos ⟨k0, k1⟩, a1 k k0 k1]
  refine ⟨?_, Inv_congr a2 hv, ⟨by split <;> omega, by omega⟩, rfl, r5, fun j j0 j1 => ?_, r7⟩
  · funext k
    unfold cpo
    by_cases hk : 0 ≤ k ∧ k < 107
    · rw [if_pos hk, if_pos hk, a1 k hk.1 hk.2]; exact congrArg _ (by omega)
    · rw [if_neg hk, if_neg hk, r0]
  · obtain ⟨b1, b2⟩ := r6 (j + 1) (by omega) (by omega)
    have e1 : slt (if 0 < σ 12 0 then σ 12 0 - 1 else 7) j = slt (σ 12 0) (j + 1) := by unfold slt; (repeat' split) <;> omega
    have e2 : σ 12 1 - 1 - 1 - j = σ 12 1 - 1 - (j + 1) := by omega
    rw [e1, e2]
    exact ⟨b1, b2⟩
theorem hasF_or {f x i : Int} (hf : 0 ≤ f ∧ f ≤ 3) (hx : 0 ≤ x ∧ x ≤ 1) (hi : 0 ≤ i ∧ i ≤ 1) : hasF (orF f x) i = if i = x then 1 else hasF f i := by
  unfold hasF orF; (repeat' split) <;> omega
theorem orF_in {f x : Int} (hf : 0 ≤ f ∧ f ≤ 3) (hx : 0 ≤ x ∧ x ≤ 1) : 0 ≤ orF f x ∧ orF f x ≤ 3 := by unfold orF; (repeat' split) <;> omega
theorem Rel_keep {σ τ u v : Nat → Int → Int} {x : Int} (h : Rel σ τ) (hx : 0 ≤ x ∧ x ≤ 1)
    (hX : u 0 = σ 0 ∧ u 1 = σ 1 ∧ u 12 0 = σ 12 0 ∧ u 12 1 = σ 12 1 ∧ u 9 = cpi (σ 9) (σ 0) (107 * x) ∧ u 11 = ups (σ 11) x 1)
    (hm : v 0 = τ 0 ∧ v 1 = τ 1 ∧ v 2 0 = τ 2 0 ∧ v 2 1 = orF (τ 2 1) x ∧ v 3 = cpi (τ 3) (τ 0) (107 * x)) : Rel u v := by
  obtain ⟨x0, x1, x2, x3, x4, x5⟩ := hX
  obtain ⟨m0, m1, m2, m3, m4⟩ := hm
  obtain ⟨r0, r1, r2, r4, r5, r6, r7⟩ := h
  unfold Rel
  rw [x0, x1, x2, x3, x4, x5, m0, m1, m2, m3, m4, r4]
  refine ⟨r0, r1, r2, rfl, orF_in r5 hx, r6, fun i i0 i1 => ?_⟩
  rw [hasF_or r5 hx ⟨i0, i1⟩]
  by_cases hq : i = x
  · rw [if_pos hq, hq]
    have ht : ∀ k, 0 ≤ k → k < 107 → cpi (τ 3) (τ 0) (107 * x) (107 * x + k) = τ 0 k := fun k k0 k1 => by
      unfold cpi; rw [if_pos (by omega)]; exact congrArg _ (by omega)
    refine ⟨ups_s _ _ _, fun _ => ⟨fun k k0 k1 => ?_, Inv_congr r1 (fun k k0 k1 => by rw [ht k k0 k1, r0])⟩⟩
    rw [ht k k0 k1]
    unfold cpi; rw [if_pos (by omega), r0]; exact congrArg _ (by omega)
  · rw [if_neg hq]
    obtain ⟨b1, b2⟩ := r7 i i0 i1
    refine ⟨(ups_n _ _ hq).trans b1, fun hf => ?_⟩
    obtain ⟨c1, c2⟩ := b2 hf
    have ht : ∀ (f g : Int → Int) (k : Int), 0 ≤ k → k < 107 → cpi f g (107 * x) (107 * i + k) = f (107 * i + k) := fun f g k k0 k1 => by
      unfold cpi; rw [if_neg (by omega)]
    exact ⟨fun k k0 k1 => by rw [ht _ _ k k0 k1, ht _ _ k k0 k1]; exact c1 k k0 k1, Inv_congr c2 (fun k k0 k1 => (ht _ _ k k0 k1).symm)⟩
/-- what an image holds: the same on both sides, and sound -/
theorem Rel_image {σ τ : Nat → Int → Int} {x : Int} (h : Rel σ τ) (hx : 0 ≤ x ∧ x ≤ 1) (hf : hasF (τ 2 1) x = 1) : cpo (σ 0) (σ 9) (107 * x) = cpo (τ 0) (τ 3) (107 * x) ∧ Inv (cpo (σ 0) (σ 9) (107 * x)) ∧ σ 9 (107 * x + 74) = τ 3 (107 * x + 74) := by
  obtain ⟨r0, r1, r2, r4, r5, r6, r7⟩ := h
  obtain ⟨-, b⟩ := r7 x hx.1 hx.2
  obtain ⟨b1, b2⟩ := b hf
  refine ⟨funext fun k => ?_, Inv_congr b2 (fun k k0 k1 => ?_), b1 74 (by omega) (by omega)⟩
  · unfold cpo
    by_cases hk : 0 ≤ k ∧ k < 107
    · rw [if_pos hk, if_pos hk]; exact b1 k hk.1 hk.2
    · rw [if_neg hk, if_neg hk, r0]
  · unfold cpo; rw [if_pos ⟨k0, k1⟩]; exact (b1 k k0 k1).symm
