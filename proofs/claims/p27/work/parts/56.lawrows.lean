/-! the law: what holds of a state through every change; a change made on two such states alike -/
def Ok (σ : Nat → Int → Int) : Prop := ∃ τ, Rel σ τ
theorem Ok_use {σ : Nat → Int → Int} (h : Ok σ) : Inv (σ 0) ∧ ((0 ≤ σ 12 0 ∧ σ 12 0 ≤ 7) ∧ (0 ≤ σ 12 1 ∧ σ 12 1 ≤ 8)) ∧ (∀ i, 0 ≤ i → i ≤ 1 → σ 11 i = 0 ∨ σ 11 i = 1) := by
  obtain ⟨τ, r0, r1, r2, r4, r5, r6, r7⟩ := h
  refine ⟨r1, r2, fun i i0 i1 => ?_⟩
  rw [(r7 i i0 i1).1]
  unfold hasF
  split <;> omega
theorem Ok_Q {σ u : Nat → Int → Int} (h : Ok σ) (hx : XQ_ σ u) : Ok u := by
  obtain ⟨τ, r⟩ := h
  exact ⟨τ, Rel_Q r hx ⟨rfl, rfl, rfl, rfl, rfl⟩⟩
theorem Ok_C {σ u : Nat → Int → Int} {w : Int → Int} (h : Ok σ) (hw : Inv w) (hx : XC_ σ u w) : Ok u := by
  obtain ⟨τ, r⟩ := h
  exact ⟨fun c => if c = 0 then w else if c = 1 then mpast (τ 1) (τ 0) (τ 2 0) else if c = 2 then ups (τ 2) 0 (mpm (τ 2 0)) else τ c, Rel_C r hw rfl hx ⟨rfl, rfl, (show ups (τ 2) 0 (mpm (τ 2 0)) 0 = _ from ups_s _ _ _), (show ups (τ 2) 0 (mpm (τ 2 0)) 1 = _ from ups_n _ _ (by decide)), rfl⟩⟩
theorem Ok_undo {σ u : Nat → Int → Int} (h : Ok σ) (hz : σ 12 1 ≠ 0) (hx : u 0 = cpo (σ 0) (σ 1) (107 * σ 12 0) ∧ u 1 = σ 1 ∧ u 12 0 = (if 0 < σ 12 0 then σ 12 0 - 1 else 7) ∧ u 12 1 = σ 12 1 - 1 ∧ u 9 = σ 9 ∧ u 11 = σ 11) : Ok u := by
  obtain ⟨τ, r⟩ := h
  exact ⟨fun c => if c = 0 then cpo (τ 0) (τ 1) (107 * (τ 2 0 - 1)) else if c = 2 then ups (τ 2) 0 (τ 2 0 - 1) else τ c, Rel_undo r hz hx ⟨rfl, rfl, (show ups (τ 2) 0 (τ 2 0 - 1) 0 = _ from ups_s _ _ _), (show ups (τ 2) 0 (τ 2 0 - 1) 1 = _ from ups_n _ _ (by decide)), rfl⟩⟩
theorem Ok_keep {σ u : Nat → Int → Int} {x : Int} (h : Ok σ) (hx : 0 ≤ x ∧ x ≤ 1) (hX : u 0 = σ 0 ∧ u 1 = σ 1 ∧ u 12 0 = σ 12 0 ∧ u 12 1 = σ 12 1 ∧ u 9 = cpi (σ 9) (σ 0) (107 * x) ∧ u 11 = ups (σ 11) x 1) : Ok u := by
  obtain ⟨τ, r⟩ := h
  exact ⟨fun c => if c = 2 then ups (τ 2) 1 (orF (τ 2 1) x) else if c = 3 then cpi (τ 3) (τ 0) (107 * x) else τ c, Rel_keep r hx hX ⟨rfl, rfl, (show ups (τ 2) 1 (orF (τ 2 1) x) 0 = _ from ups_n _ _ (by decide)), (show ups (τ 2) 1 (orF (τ 2 1) x) 1 = _ from ups_s _ _ _), rfl⟩⟩
theorem Ok_img {σ : Nat → Int → Int} {x : Int} (h : Ok σ) (hx : 0 ≤ x ∧ x ≤ 1) (hf : σ 11 x ≠ 0) : Inv (cpo (σ 0) (σ 9) (107 * x)) := by
  obtain ⟨τ, r⟩ := h
  have e := (r.2.2.2.2.2.2 x hx.1 hx.2).1
  have h5 := r.2.2.2.2.1
  have hq : hasF (τ 2 1) x = 1 := by rw [e] at hf; unfold hasF at hf ⊢; split <;> split at hf <;> omega
  exact (Rel_image r hx hq).2.1
theorem XQ_dt {σ τ u t : Nat → Int → Int} (h : XQ_ σ τ) (a : XQ_ σ u) (b : XQ_ τ t) : XQ_ u t := XQ_tr (XQ_sy a) (XQ_tr h b)
theorem XC_dt {σ τ u t : Nat → Int → Int} {w : Int → Int} (h : XQ_ σ τ) (a : XC_ σ u w) (b : XC_ τ t w) : XQ_ u t := by
  obtain ⟨a0, a1, a2, a3, a4, a5⟩ := a
  obtain ⟨b0, b1, b2, b3, b4, b5⟩ := b
  obtain ⟨h0, h1, h2, h3, h4, h5⟩ := h
  exact ⟨by rw [b0, a0], by rw [b1, a1, h0, h1, h2], by rw [b2, a2, h2], by rw [b3, a3, h3], by rw [b4, a4, h4], by rw [b5, a5, h5]⟩
section DT
variable {σ τ u t : Nat → Int → Int} {r q : Int32}
theorem d_CH {C : Prop} {R E : Int} {W : Int → Int} (h : XQ_ σ τ) (hx : (C → iI R = r ∧ XC_ σ u W) ∧ (¬ C → iI E = r ∧ XQ_ σ u)) (hm : (C → iI R = q ∧ XC_ τ t W) ∧ (¬ C → iI E = q ∧ XQ_ τ t)) : r = q ∧ XQ_ u t := by
  rcases Classical.em C with c | c
  · exact ⟨(hx.1 c).1.symm.trans (hm.1 c).1, XC_dt h (hx.1 c).2 (hm.1 c).2⟩
  · exact ⟨(hx.2 c).1.symm.trans (hm.2 c).1, XQ_dt h (hx.2 c).2 (hm.2 c).2⟩
theorem d_C1 {R : Int} {W : Int → Int} (h : XQ_ σ τ) (hx : iI R = r ∧ XC_ σ u W) (hm : iI R = q ∧ XC_ τ t W) : r = q ∧ XQ_ u t := ⟨hx.1.symm.trans hm.1, XC_dt h hx.2 hm.2⟩
theorem d_mk {x : Int} (h16 : σ 0 74 ≤ 16) (h : XQ_ σ τ) (hx : Rmark (σ 0) x r (XQ_ σ u) (XC_ σ u)) (hm : Rmark (σ 0) x q (XQ_ τ t) (XC_ τ t)) : r = q ∧ XQ_ u t := by
  rcases Classical.em (0 ≤ x ∧ x < σ 0 0) with c | c
  · obtain ⟨p, p1, p2, p3⟩ := hx.2 c
    obtain ⟨p', q1, q2, q3⟩ := hm.2 c
    have e := Bef.uniq p1 q1
    subst e
    rcases Classical.em (p < σ 0 74 ∧ σ 0 (75 + p) = x) with d | d
    · exact ⟨(p2 d).1.symm.trans (q2 d).1, XQ_dt h (p2 d).2 (q2 d).2⟩
    · rcases Classical.em (σ 0 74 < 16) with f | f
      · exact ⟨((p3 d).2 f).1.symm.trans ((q3 d).2 f).1, XC_dt h ((p3 d).2 f).2 ((q3 d).2 f).2⟩
      · rcases Classical.em (σ 0 74 = 16) with f' | f'
        · exact ⟨((p3 d).1 f').1.symm.trans ((q3 d).1 f').1, XQ_dt h ((p3 d).1 f').2 ((q3 d).1 f').2⟩
        · exfalso
          omega
  · exact ⟨(hx.1 c).1.symm.trans (hm.1 c).1, XQ_dt h (hx.1 c).2 (hm.1 c).2⟩
theorem d_mv {x y : Int} (h : XQ_ σ τ) (hx : Rmove (σ 0) x y r (XQ_ σ u) (XC_ σ u)) (hm : Rmove (σ 0) x y q (XQ_ τ t) (XC_ τ t)) : r = q ∧ XQ_ u t := by
  rcases Classical.em ((1 ≤ x ∧ x < σ 0 74) ∧ 0 ≤ y ∧ y < σ 0 0) with c | c
  · have a := hx.2 c
    have b := hm.2 c
    rcases Classical.em (fr (σ 0) (x - 1) < y ∧ y < fr (σ 0) (x + 1)) with d | d
    · exact ⟨(a.2 d).1.symm.trans (b.2 d).1, XC_dt h (a.2 d).2 (b.2 d).2⟩
    · exact ⟨(a.1 d).1.symm.trans (b.1 d).1, XQ_dt h (a.1 d).2 (b.1 d).2⟩
  · exact ⟨(hx.1 c).1.symm.trans (hm.1 c).1, XQ_dt h (hx.1 c).2 (hm.1 c).2⟩
theorem d_undo (h : XQ_ σ τ) (hx : (σ 12 1 = 0 → iI (-2) = r ∧ XQ_ σ u) ∧ (σ 12 1 ≠ 0 → iI (σ 12 1 - 1) = r ∧ u 0 = cpo (σ 0) (σ 1) (107 * σ 12 0) ∧ u 1 = σ 1 ∧ u 12 0 = (if 0 < σ 12 0 then σ 12 0 - 1 else 7) ∧ u 12 1 = σ 12 1 - 1 ∧ u 9 = σ 9 ∧ u 11 = σ 11))
    (hm : (τ 12 1 = 0 → iI (-2) = q ∧ XQ_ τ t) ∧ (τ 12 1 ≠ 0 → iI (τ 12 1 - 1) = q ∧ t 0 = cpo (τ 0) (τ 1) (107 * τ 12 0) ∧ t 1 = τ 1 ∧ t 12 0 = (if 0 < τ 12 0 then τ 12 0 - 1 else 7) ∧ t 12 1 = τ 12 1 - 1 ∧ t 9 = τ 9 ∧ t 11 = τ 11)) : r = q ∧ XQ_ u t := by
  have h' := h
  obtain ⟨h0, h1, h2, h3, h4, h5⟩ := h'
  rcases Classical.em (σ 12 1 = 0) with c | c
  · exact ⟨(hx.1 c).1.symm.trans (hm.1 (by omega)).1, XQ_dt h (hx.1 c).2 (hm.1 (by omega)).2⟩
  · obtain ⟨a, a0, a1, a2, a3, a4, a5⟩ := hx.2 c
    obtain ⟨b, b0, b1, b2, b3, b4, b5⟩ := hm.2 (by omega)
    exact ⟨a.symm.trans ((congrArg iI (by omega)).trans b), by rw [b0, a0, h0, h1, h2], by rw [b1, a1, h1], by rw [b2, a2, h2], by rw [b3, a3, h3], by rw [b4, a4, h4], by rw [b5, a5, h5]⟩
theorem d_keep {x : Int} (h : XQ_ σ τ) (hx : ((0 ≤ x ∧ x ≤ 1) → iI (σ 0 74) = r ∧ u 0 = σ 0 ∧ u 1 = σ 1 ∧ u 12 0 = σ 12 0 ∧ u 12 1 = σ 12 1 ∧ u 9 = cpi (σ 9) (σ 0) (107 * x) ∧ u 11 = ups (σ 11) x 1) ∧ (¬ (0 ≤ x ∧ x ≤ 1) → iI (-1) = r ∧ XQ_ σ u))
    (hm : ((0 ≤ x ∧ x ≤ 1) → iI (τ 0 74) = q ∧ t 0 = τ 0 ∧ t 1 = τ 1 ∧ t 12 0 = τ 12 0 ∧ t 12 1 = τ 12 1 ∧ t 9 = cpi (τ 9) (τ 0) (107 * x) ∧ t 11 = ups (τ 11) x 1) ∧ (¬ (0 ≤ x ∧ x ≤ 1) → iI (-1) = q ∧ XQ_ τ t)) : r = q ∧ XQ_ u t := by
  have h' := h
  obtain ⟨h0, h1, h2, h3, h4, h5⟩ := h'
  rcases Classical.em (0 ≤ x ∧ x ≤ 1) with c | c
  · obtain ⟨a, a0, a1, a2, a3, a4, a5⟩ := hx.1 c
    obtain ⟨b, b0, b1, b2, b3, b4, b5⟩ := hm.1 c
    exact ⟨a.symm.trans ((congrArg iI (by rw [h0])).trans b), by rw [b0, a0, h0], by rw [b1, a1, h1], by rw [b2, a2, h2], by rw [b3, a3, h3], by rw [b4, a4, h4, h0], by rw [b5, a5, h5]⟩
  · exact ⟨(hx.2 c).1.symm.trans (hm.2 c).1, XQ_dt h (hx.2 c).2 (hm.2 c).2⟩
theorem d_back {x : Int} (h : XQ_ σ τ) (hx : (¬ (0 ≤ x ∧ x ≤ 1) → iI (-1) = r ∧ XQ_ σ u) ∧ ((0 ≤ x ∧ x ≤ 1) → (σ 11 x = 0 → iI (-2) = r ∧ XQ_ σ u) ∧ (σ 11 x ≠ 0 → iI (σ 9 (107 * x + 74)) = r ∧ XC_ σ u (cpo (σ 0) (σ 9) (107 * x)))))
    (hm : (¬ (0 ≤ x ∧ x ≤ 1) → iI (-1) = q ∧ XQ_ τ t) ∧ ((0 ≤ x ∧ x ≤ 1) → (τ 11 x = 0 → iI (-2) = q ∧ XQ_ τ t) ∧ (τ 11 x ≠ 0 → iI (τ 9 (107 * x + 74)) = q ∧ XC_ τ t (cpo (τ 0) (τ 9) (107 * x))))) : r = q ∧ XQ_ u t := by
  have h' := h
  obtain ⟨h0, h1, h2, h3, h4, h5⟩ := h'
  rw [h0, h4, h5] at hm
  rcases Classical.em (0 ≤ x ∧ x ≤ 1) with c | c
  · rcases Classical.em (σ 11 x = 0) with d | d
    · exact ⟨((hx.2 c).1 d).1.symm.trans ((hm.2 c).1 d).1, XQ_dt h ((hx.2 c).1 d).2 ((hm.2 c).1 d).2⟩
    · exact ⟨((hx.2 c).2 d).1.symm.trans ((hm.2 c).2 d).1, XC_dt h ((hx.2 c).2 d).2 ((hm.2 c).2 d).2⟩
  · exact ⟨(hx.1 c).1.symm.trans (hm.1 c).1, XQ_dt h (hx.1 c).2 (hm.1 c).2⟩
end DT
