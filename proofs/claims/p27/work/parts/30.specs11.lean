/-! the larger questions: what their answers must be -/
def TD_ (w : Int → Int) (z x v : Int) : Prop := (x = 0 → v = w 0) ∧ (x = 1 → v = w 0 * w 1) ∧ (x = 2 → v = w 74) ∧ (x = 3 → (lay_ w → v = 1) ∧ (¬ lay_ w → v = 0)) ∧ (x = 4 → (lay_ w → v = sumN (bey w (bud w)) (w 74).toNat) ∧ (¬ lay_ w → v = -9)) ∧ (x = 5 → (lay_ w → v = sumN (fad w (bud w)) (w 74).toNat) ∧ (¬ lay_ w → v = -9)) ∧ (x = 6 → v = z) ∧ (x < 0 ∨ 6 < x → v = -1)
theorem TD_uniq {w : Int → Int} {z x v v' : Int} (h : TD_ w z x v) (h' : TD_ w z x v') : v = v' := by
  obtain ⟨a0, a1, a2, a3, a4, a5, a6, a7⟩ := h
  obtain ⟨b0, b1, b2, b3, b4, b5, b6, b7⟩ := h'
  have hx : x = 0 ∨ x = 1 ∨ x = 2 ∨ x = 3 ∨ x = 4 ∨ x = 5 ∨ x = 6 ∨ (x < 0 ∨ 6 < x) := by omega
  rcases hx with q | q | q | q | q | q | q | q
  · rw [a0 q, b0 q]
  · rw [a1 q, b1 q]
  · rw [a2 q, b2 q]
  · rcases Classical.em (lay_ w) with l | l
    · rw [(a3 q).1 l, (b3 q).1 l]
    · rw [(a3 q).2 l, (b3 q).2 l]
  · rcases Classical.em (lay_ w) with l | l
    · rw [(a4 q).1 l, (b4 q).1 l]
    · rw [(a4 q).2 l, (b4 q).2 l]
  · rcases Classical.em (lay_ w) with l | l
    · rw [(a5 q).1 l, (b5 q).1 l]
    · rw [(a5 q).2 l, (b5 q).2 l]
  · rw [a6 q, b6 q]
  · rw [a7 q, b7 q]
def SL_ (w : Int → Int) (x y v : Int) : Prop := (¬ ((0 ≤ x ∧ x < w 74) ∧ 0 ≤ y ∧ y ≤ 7) → v = -1) ∧ ((0 ≤ x ∧ x < w 74) → (y = 0 → v = fr w x) ∧ (y = 1 → v = ln w x) ∧ (y = 2 → (lay_ w → v = bud w x) ∧ (¬ lay_ w → v = -9)) ∧ (y = 3 → (lay_ w ∧ w 8 ≠ 0 → v = stp w (w 6) (w 7) x) ∧ (¬ (lay_ w ∧ w 8 ≠ 0) → v = -9)) ∧ (y = 4 → (lay_ w → v = sumN (fun k => bud w (w (91 + k))) (plcf w x).toNat) ∧ (¬ lay_ w → v = -9)) ∧ (y = 5 → v = plcf w x) ∧ (y = 6 → (lay_ w → v = fad w (bud w) (plcf w x)) ∧ (¬ lay_ w → v = -9)) ∧ (y = 7 → v = ldn w (fr w x) (fr w (x + 1) - fr w x - 1).toNat))
theorem SL_uniq {w : Int → Int} {x y v v' : Int} (h : SL_ w x y v) (h' : SL_ w x y v') : v = v' := by
  rcases Classical.em ((0 ≤ x ∧ x < w 74) ∧ 0 ≤ y ∧ y ≤ 7) with c | c
  · obtain ⟨a0, a1, a2, a3, a4, a5, a6, a7⟩ := h.2 c.1
    obtain ⟨b0, b1, b2, b3, b4, b5, b6, b7⟩ := h'.2 c.1
    have hy : y = 0 ∨ y = 1 ∨ y = 2 ∨ y = 3 ∨ y = 4 ∨ y = 5 ∨ y = 6 ∨ y = 7 := by omega
    rcases hy with q | q | q | q | q | q | q | q
    · rw [a0 q, b0 q]
    · rw [a1 q, b1 q]
    · rcases Classical.em (lay_ w) with l | l
      · rw [(a2 q).1 l, (b2 q).1 l]
      · rw [(a2 q).2 l, (b2 q).2 l]
    · rcases Classical.em (lay_ w ∧ w 8 ≠ 0) with l | l
      · rw [(a3 q).1 l, (b3 q).1 l]
      · rw [(a3 q).2 l, (b3 q).2 l]
    · rcases Classical.em (lay_ w) with l | l
      · rw [(a4 q).1 l, (b4 q).1 l]
      · rw [(a4 q).2 l, (b4 q).2 l]
    · rw [a5 q, b5 q]
    · rcases Classical.em (lay_ w) with l | l
      · rw [(a6 q).1 l, (b6 q).1 l]
      · rw [(a6 q).2 l, (b6 q).2 l]
    · rw [a7 q, b7 q]
  · rw [h.1 c, h'.1 c]
/-- the place p of the order in which the sample x lies, and the sums ahead of it -/
def par_ (w : Int → Int) (p : Int) : Int := sumN (fun k => bud w (w (91 + k))) p.toNat
def SR_ (w : Int → Int) (x y v : Int) : Prop := (¬ ((0 ≤ x ∧ x < w 6) ∧ 0 ≤ y ∧ y ≤ 2) → v = -1) ∧ (((0 ≤ x ∧ x < w 6) ∧ 0 ≤ y ∧ y ≤ 2) → (¬ lay_ w → v = -9) ∧ (lay_ w → ∃ p, (0 ≤ p ∧ p < w 74) ∧ (par_ w p ≤ x ∧ x < par_ w (p + 1)) ∧ (y = 0 → v = w (91 + p)) ∧ (y = 1 → v = org w (bud w) (w (91 + p)) (x - par_ w p)) ∧ (y = 2 → v = if bud w (w (91 + p)) - fad w (bud w) p ≤ x - par_ w p then 1 else 0)))
theorem par_mono {w : Int → Int} (h : Inv w) (hl : lay_ w) {p q : Int} (hp : 0 ≤ p) (hq : p ≤ q) (hk : q ≤ w 74) : par_ w p ≤ par_ w q := by
  have := sumN_mono (f := fun k => bud w (w (91 + k))) p.toNat (q.toNat - p.toNat) (fun k k0 k1 => by
    have := h.2.2.2.2.1 k k0 (by omega)
    exact (bud_in h hl this.1 this.2).1)
  rw [show p.toNat + (q.toNat - p.toNat) = q.toNat by omega] at this
  exact this
theorem par_at {w : Int → Int} {p : Int} (hp : 0 ≤ p) : par_ w (p + 1) = par_ w p + bud w (w (91 + p)) := sumN_at (f := fun k => bud w (w (91 + k))) hp
theorem par_end {w : Int → Int} (h : Inv w) : par_ w (w 74) = w 6 := (h.2.2.2.2.2 (bud w)).trans (bud_sum h)
theorem SR_uniq {w : Int → Int} (h : Inv w) {x y v v' : Int} (h1 : SR_ w x y v) (h2 : SR_ w x y v') : v = v' := by
  rcases Classical.em ((0 ≤ x ∧ x < w 6) ∧ 0 ≤ y ∧ y ≤ 2) with c | c
  · rcases Classical.em (lay_ w) with l | l
    · obtain ⟨p, hp, ⟨p1, p2⟩, a0, a1, a2⟩ := (h1.2 c).2 l
      obtain ⟨q, hq, ⟨q1, q2⟩, b0, b1, b2⟩ := (h2.2 c).2 l
      have e : p = q := by
        rcases Int.lt_trichotomy p q with z | z | z
        · have := par_mono h l (p := p + 1) (q := q) (by omega) (by omega) (by omega); omega
        · exact z
        · have := par_mono h l (p := q + 1) (q := p) (by omega) (by omega) (by omega); omega
      subst e
      have hy : y = 0 ∨ y = 1 ∨ y = 2 := by omega
      rcases hy with r | r | r
      · rw [a0 r, b0 r]
      · rw [a1 r, b1 r]
      · rw [a2 r, b2 r]
    · rw [(h1.2 c).1 l, (h2.2 c).1 l]
  · rw [h1.1 c, h2.1 c]
theorem sc_self2567 {σ : Nat → Int → Int} : sc (sc (sc (sc σ 2 (σ 2)) 5 (σ 5)) 6 (σ 6)) 7 (σ 7) = σ := by
  rw [sc_self, sc_self, sc_self, sc_self]
