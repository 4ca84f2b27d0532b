/-! a call on both sides: the same answer, and related states again (wip/gen/steps.py) -/
theorem st_CH {σ τ u t : Nat → Int → Int} {C : Prop} {R E : Int} {W : Int → Int} {r q : Int32} (h : Rel σ τ) (hw : C → Inv W) (hx : (C → iI R = r ∧ XC_ σ u W) ∧ (¬ C → iI E = r ∧ XQ_ σ u)) (hm : (C → iI R = q ∧ MC_ τ t W) ∧ (¬ C → iI E = q ∧ MQ_ τ t)) : r = q ∧ Rel u t := by
  rcases Classical.em C with c | c
  · exact ⟨(hx.1 c).1.symm.trans (hm.1 c).1, Rel_C h (hw c) rfl (hx.1 c).2 (hm.1 c).2⟩
  · exact ⟨(hx.2 c).1.symm.trans (hm.2 c).1, Rel_Q h (hx.2 c).2 (hm.2 c).2⟩
theorem st_QR {σ τ u t : Nat → Int → Int} {C : Prop} {R E : Int} {r q : Int32} (h : Rel σ τ) (hx : (C → iI R = r) ∧ (¬ C → iI E = r) ∧ XQ_ σ u) (hm : (C → iI R = q) ∧ (¬ C → iI E = q) ∧ MQ_ τ t) : r = q ∧ Rel u t := by
  refine ⟨?_, Rel_Q h hx.2.2 hm.2.2⟩
  rcases Classical.em C with c | c
  · exact (hx.1 c).symm.trans (hm.1 c)
  · exact (hx.2.1 c).symm.trans (hm.2.1 c)
theorem st_mk {σ τ u t : Nat → Int → Int} {x : Int} {r q : Int32} (h : Rel σ τ) (hx : Rmark (σ 0) x r (XQ_ σ u) (XC_ σ u)) (hm : Rmark (σ 0) x q (MQ_ τ t) (MC_ τ t)) : r = q ∧ Rel u t := by
  rcases Classical.em (0 ≤ x ∧ x < σ 0 0) with c | c
  · obtain ⟨p, p1, p2, p3⟩ := hx.2 c
    obtain ⟨p', q1, q2, q3⟩ := hm.2 c
    have e := Bef.uniq p1 q1
    subst e
    rcases Classical.em (p < σ 0 74 ∧ σ 0 (75 + p) = x) with d | d
    · exact ⟨(p2 d).1.symm.trans (q2 d).1, Rel_Q h (p2 d).2 (q2 d).2⟩
    · have h16 := h.2.1.1.2.2.2.2.2.2.2.2.2.2.1
      rcases Int.lt_or_le (σ 0 74) 16 with f | f
      · exact ⟨((p3 d).2 f).1.symm.trans ((q3 d).2 f).1, Rel_C h (Inv_spi h.2.1 c p1 d f) rfl ((p3 d).2 f).2 ((q3 d).2 f).2⟩
      · have f' : σ 0 74 = 16 := by omega
        exact ⟨((p3 d).1 f').1.symm.trans ((q3 d).1 f').1, Rel_Q h ((p3 d).1 f').2 ((q3 d).1 f').2⟩
  · exact ⟨(hx.1 c).1.symm.trans (hm.1 c).1, Rel_Q h (hx.1 c).2 (hm.1 c).2⟩
theorem st_mv {σ τ u t : Nat → Int → Int} {x y : Int} {r q : Int32} (h : Rel σ τ) (hx : Rmove (σ 0) x y r (XQ_ σ u) (XC_ σ u)) (hm : Rmove (σ 0) x y q (MQ_ τ t) (MC_ τ t)) : r = q ∧ Rel u t := by
  rcases Classical.em ((1 ≤ x ∧ x < σ 0 74) ∧ 0 ≤ y ∧ y < σ 0 0) with c | c
  · have a := hx.2 c
    have b := hm.2 c
    rcases Classical.em (fr (σ 0) (x - 1) < y ∧ y < fr (σ 0) (x + 1)) with d | d
    · exact ⟨(a.2 d).1.symm.trans (b.2 d).1, Rel_C h (Inv_spM h.2.1 c.1 c.2 d.1 d.2) rfl (a.2 d).2 (b.2 d).2⟩
    · exact ⟨(a.1 d).1.symm.trans (b.1 d).1, Rel_Q h (a.1 d).2 (b.1 d).2⟩
  · exact ⟨(hx.1 c).1.symm.trans (hm.1 c).1, Rel_Q h (hx.1 c).2 (hm.1 c).2⟩
theorem LG_uniq {w : Int → Int} {v v' : Int} (h : LG_ w v) (h' : LG_ w v') : v = v' := by
  rcases h with ⟨a1, a2⟩ | ⟨a1, a2, a3, a4⟩ <;> rcases h' with ⟨b1, b2⟩ | ⟨b1, b2, b3, b4⟩
  · omega
  · exact absurd b3 (a2 v' b1 b2)
  · exact absurd a3 (b2 v a1 a2)
  · rcases Int.lt_trichotomy v v' with z | z | z
    · exact absurd a3 (b4 v a1 z)
    · exact z
    · exact absurd b3 (a4 v' b1 z)
theorem TF_uniq {w : Int → Int} {x v v' : Int} (h : TF_ w x v) (h' : TF_ w x v') : v = v' := by
  rcases h with ⟨a1, a2⟩ | ⟨a1, a2, a3, a4⟩ <;> rcases h' with ⟨b1, b2⟩ | ⟨b1, b2, b3, b4⟩
  · omega
  · have := a2 v' b1 b2; omega
  · have := b2 v a1 a2; omega
  · rcases Int.lt_trichotomy v v' with z | z | z
    · have := a4 v' z b2; omega
    · exact z
    · have := b4 v z a2; omega
theorem NT_uniq {w : Int → Int} {x v v' : Int} (h : NT_ w x v) (h' : NT_ w x v') : v = v' := by
  rcases h with ⟨a1, a2⟩ | ⟨d, d0, d1, d2, d3⟩ <;> rcases h' with ⟨b1, b2⟩ | ⟨e, e0, e1, e2, e3⟩
  · omega
  · rcases e3 with ⟨f1, f2⟩ | ⟨f1, f2, f3⟩
    · exact absurd f1 (a2 e e0 e1).1
    · exact absurd f2 (a2 e e0 e1).2
  · rcases d3 with ⟨f1, f2⟩ | ⟨f1, f2, f3⟩
    · exact absurd f1 (b2 d d0 d1).1
    · exact absurd f2 (b2 d d0 d1).2
  · have hde : d = e := by
      rcases Int.lt_trichotomy d e with z | z | z
      · have := e2 d d0 z
        rcases d3 with ⟨f1, f2⟩ | ⟨f1, f2, f3⟩
        · exact absurd f1 this.1
        · exact absurd f2 this.2
      · exact z
      · have := d2 e e0 z
        rcases e3 with ⟨f1, f2⟩ | ⟨f1, f2, f3⟩
        · exact absurd f1 this.1
        · exact absurd f2 this.2
    subst hde
    rcases d3 with ⟨f1, f2⟩ | ⟨f1, f2, f3⟩ <;> rcases e3 with ⟨g1, g2⟩ | ⟨g1, g2, g3⟩
    · omega
    · exact absurd f1 g1
    · exact absurd g1 f1
    · omega
theorem st_begin {σ τ u t : Nat → Int → Int} {r q : Int32} (x : Int) (h : Rel σ τ) (hx : ((1 ≤ x ∧ x ≤ 64) → iI (σ 0 0) = r ∧ XC_ σ u (spc (σ 0) x)) ∧ (¬ (1 ≤ x ∧ x ≤ 64) → iI (-1) = r ∧ XQ_ σ u)) (hm : ((1 ≤ x ∧ x ≤ 64) → iI (τ 0 0) = q ∧ MC_ τ t (spc (τ 0) x)) ∧ (¬ (1 ≤ x ∧ x ≤ 64) → iI (-1) = q ∧ MQ_ τ t)) : r = q ∧ Rel u t := by
  rw [← h.1] at hm
  exact st_CH h (fun c => Inv_spc h.2.1 c) hx hm
theorem st_sound {σ τ u t : Nat → Int → Int} {r q : Int32} (x1 : Int) (x2 : Int) (x3 : Int) (h : Rel σ τ) (hx : ((okE (σ 0) x1 x2 x3) → iI (smE (σ 0) x1 (x2 + 1 - x1)) = r ∧ XC_ σ u (spS (σ 0) x1 x2 x3)) ∧ (¬ (okE (σ 0) x1 x2 x3) → iI (-1) = r ∧ XQ_ σ u)) (hm : ((okE (τ 0) x1 x2 x3) → iI (smE (τ 0) x1 (x2 + 1 - x1)) = q ∧ MC_ τ t (spS (τ 0) x1 x2 x3)) ∧ (¬ (okE (τ 0) x1 x2 x3) → iI (-1) = q ∧ MQ_ τ t)) : r = q ∧ Rel u t := by
  rw [← h.1] at hm
  exact st_CH h (fun c => Inv_spS h.2.1 c) hx hm
theorem st_set {σ τ u t : Nat → Int → Int} {r q : Int32} (x1 : Int) (x2 : Int) (h : Rel σ τ) (hx : ((okS x1 x2) → iI (σ 0 (1 + x1)) = r ∧ XC_ σ u (ups (σ 0) (1 + x1) x2)) ∧ (¬ (okS x1 x2) → iI (-1) = r ∧ XQ_ σ u)) (hm : ((okS x1 x2) → iI (τ 0 (1 + x1)) = q ∧ MC_ τ t (ups (τ 0) (1 + x1) x2)) ∧ (¬ (okS x1 x2) → iI (-1) = q ∧ MQ_ τ t)) : r = q ∧ Rel u t := by
  rw [← h.1] at hm
  exact st_CH h (fun c => Inv_set h.2.1 c) hx hm
theorem st_unmark {σ τ u t : Nat → Int → Int} {r q : Int32} (x : Int) (h : Rel σ τ) (hx : ((1 ≤ x ∧ x < σ 0 74) → iI (σ 0 74 - 1) = r ∧ XC_ σ u (spr (σ 0) x)) ∧ (¬ (1 ≤ x ∧ x < σ 0 74) → iI (-1) = r ∧ XQ_ σ u)) (hm : ((1 ≤ x ∧ x < τ 0 74) → iI (τ 0 74 - 1) = q ∧ MC_ τ t (spr (τ 0) x)) ∧ (¬ (1 ≤ x ∧ x < τ 0 74) → iI (-1) = q ∧ MQ_ τ t)) : r = q ∧ Rel u t := by
  rw [← h.1] at hm
  exact st_CH h (fun c => Inv_spr h.2.1 c) hx hm
theorem st_swap {σ τ u t : Nat → Int → Int} {r q : Int32} (x1 : Int) (x2 : Int) (h : Rel σ τ) (hx : (((0 ≤ x1 ∧ x1 < σ 0 74) ∧ (0 ≤ x2 ∧ x2 < σ 0 74)) → iI (σ 0 (91 + x2)) = r ∧ XC_ σ u (spx (σ 0) x1 x2)) ∧ (¬ ((0 ≤ x1 ∧ x1 < σ 0 74) ∧ (0 ≤ x2 ∧ x2 < σ 0 74)) → iI (-1) = r ∧ XQ_ σ u)) (hm : (((0 ≤ x1 ∧ x1 < τ 0 74) ∧ (0 ≤ x2 ∧ x2 < τ 0 74)) → iI (τ 0 (91 + x2)) = q ∧ MC_ τ t (spx (τ 0) x1 x2)) ∧ (¬ ((0 ≤ x1 ∧ x1 < τ 0 74) ∧ (0 ≤ x2 ∧ x2 < τ 0 74)) → iI (-1) = q ∧ MQ_ τ t)) : r = q ∧ Rel u t := by
  rw [← h.1] at hm
  exact st_CH h (fun c => Inv_spx h.2.1 c.1 c.2) hx hm
theorem st_find {σ τ u t : Nat → Int → Int} {r q : Int32}  (h : Rel σ τ) (hx : iI (fnd (σ 0) (σ 0 2)) = r ∧ XC_ σ u (spF (σ 0))) (hm : iI (fnd (τ 0) (τ 0 2)) = q ∧ MC_ τ t (spF (τ 0))) : r = q ∧ Rel u t := by
  rw [← h.1] at hm
  exact ⟨hx.1.symm.trans hm.1, Rel_C h (Inv_spF h.2.1) rfl hx.2 hm.2⟩
theorem st_reverse {σ τ u t : Nat → Int → Int} {r q : Int32}  (h : Rel σ τ) (hx : iI (σ 0 (91 + (σ 0 74 - 1))) = r ∧ XC_ σ u (spV (σ 0))) (hm : iI (τ 0 (91 + (τ 0 74 - 1))) = q ∧ MC_ τ t (spV (τ 0))) : r = q ∧ Rel u t := by
  rw [← h.1] at hm
  exact ⟨hx.1.symm.trans hm.1, Rel_C h (Inv_spV h.2.1) rfl hx.2 hm.2⟩
theorem st_mark {σ τ u t : Nat → Int → Int} {r q : Int32} (x : Int) (h : Rel σ τ) (hx : Rmark (σ 0) x r (XQ_ σ u) (XC_ σ u)) (hm : Rmark (τ 0) x q (MQ_ τ t) (MC_ τ t)) : r = q ∧ Rel u t := by
  rw [← h.1] at hm
  exact st_mk h hx hm
theorem st_moveMark {σ τ u t : Nat → Int → Int} {r q : Int32} (x1 : Int) (x2 : Int) (h : Rel σ τ) (hx : Rmove (σ 0) x1 x2 r (XQ_ σ u) (XC_ σ u)) (hm : Rmove (τ 0) x1 x2 q (MQ_ τ t) (MC_ τ t)) : r = q ∧ Rel u t := by
  rw [← h.1] at hm
  exact st_mv h hx hm
theorem st_setting {σ τ u t : Nat → Int → Int} {r q : Int32} (x : Int) (h : Rel σ τ) (hx : ((0 ≤ x ∧ x ≤ 8) → iI (σ 0 (1 + x)) = r) ∧ (¬ (0 ≤ x ∧ x ≤ 8) → iI (-1) = r) ∧ XQ_ σ u) (hm : ((0 ≤ x ∧ x ≤ 8) → iI (τ 0 (1 + x)) = q) ∧ (¬ (0 ≤ x ∧ x ≤ 8) → iI (-1) = q) ∧ MQ_ τ t) : r = q ∧ Rel u t := by
  rw [← h.1] at hm
  exact st_QR h hx hm
theorem st_energy {σ τ u t : Nat → Int → Int} {r q : Int32} (x : Int) (h : Rel σ τ) (hx : ((0 ≤ x ∧ x < σ 0 0) → iI (σ 0 (10 + x)) = r) ∧ (¬ (0 ≤ x ∧ x < σ 0 0) → iI (-1) = r) ∧ XQ_ σ u) (hm : ((0 ≤ x ∧ x < τ 0 0) → iI (τ 0 (10 + x)) = q) ∧ (¬ (0 ≤ x ∧ x < τ 0 0) → iI (-1) = q) ∧ MQ_ τ t) : r = q ∧ Rel u t := by
  rw [← h.1] at hm
  exact st_QR h hx hm
theorem st_order {σ τ u t : Nat → Int → Int} {r q : Int32} (x : Int) (h : Rel σ τ) (hx : ((0 ≤ x ∧ x < σ 0 74) → iI (σ 0 (91 + x)) = r) ∧ (¬ (0 ≤ x ∧ x < σ 0 74) → iI (-1) = r) ∧ XQ_ σ u) (hm : ((0 ≤ x ∧ x < τ 0 74) → iI (τ 0 (91 + x)) = q) ∧ (¬ (0 ≤ x ∧ x < τ 0 74) → iI (-1) = q) ∧ MQ_ τ t) : r = q ∧ Rel u t := by
  rw [← h.1] at hm
  exact st_QR h hx hm
theorem st_marksWith {σ τ u t : Nat → Int → Int} {r q : Int32} (x : Int) (h : Rel σ τ) (hx : ((1 ≤ x ∧ x ≤ 999) → iI (fnd (σ 0) x) = r) ∧ (¬ (1 ≤ x ∧ x ≤ 999) → iI (-1) = r) ∧ XQ_ σ u) (hm : ((1 ≤ x ∧ x ≤ 999) → iI (fnd (τ 0) x) = q) ∧ (¬ (1 ≤ x ∧ x ≤ 999) → iI (-1) = q) ∧ MQ_ τ t) : r = q ∧ Rel u t := by
  rw [← h.1] at hm
  exact st_QR h hx hm
theorem st_shift {σ τ u t : Nat → Int → Int} {r q : Int32}  (h : Rel σ τ) (hx : (can_ (σ 0) (σ 0 6) (σ 0 7) → iI (bst (σ 0) (σ 0 6) (σ 0 7) (σ 0 74 - 1).toNat 0 / σ 0 0) = r) ∧ (¬ can_ (σ 0) (σ 0 6) (σ 0 7) → iI (-9) = r) ∧ XQ_ σ u) (hm : (can_ (τ 0) (τ 0 6) (τ 0 7) → iI (bst (τ 0) (τ 0 6) (τ 0 7) (τ 0 74 - 1).toNat 0 / τ 0 0) = q) ∧ (¬ can_ (τ 0) (τ 0 6) (τ 0 7) → iI (-9) = q) ∧ MQ_ τ t) : r = q ∧ Rel u t := by
  rw [← h.1] at hm
  exact st_QR h hx hm
theorem st_told {σ τ u t : Nat → Int → Int} {r q : Int32} (x : Int) (h : Rel σ τ) (hx : (∃ v, iI v = r ∧ TD_ (σ 0) (σ 12 1) x v) ∧ XQ_ σ u) (hm : (∃ v, iI v = q ∧ TD_ (τ 0) (τ 2 0) x v) ∧ MQ_ τ t) : r = q ∧ Rel u t := by
  rw [← h.1] at hm
  obtain ⟨⟨a, a1, a2⟩, a3⟩ := hx
  obtain ⟨⟨b, b1, b2⟩, b3⟩ := hm
  exact ⟨a1.symm.trans ((congrArg iI (TD_uniq a2 (h.2.2.2.1 ▸ b2))).trans b1), Rel_Q h a3 b3⟩
theorem st_slice {σ τ u t : Nat → Int → Int} {r q : Int32} (x1 : Int) (x2 : Int) (h : Rel σ τ) (hx : (∃ v, iI v = r ∧ SL_ (σ 0) x1 x2 v) ∧ XQ_ σ u) (hm : (∃ v, iI v = q ∧ SL_ (τ 0) x1 x2 v) ∧ MQ_ τ t) : r = q ∧ Rel u t := by
  rw [← h.1] at hm
  obtain ⟨⟨a, a1, a2⟩, a3⟩ := hx
  obtain ⟨⟨b, b1, b2⟩, b3⟩ := hm
  exact ⟨a1.symm.trans ((congrArg iI (SL_uniq a2 b2)).trans b1), Rel_Q h a3 b3⟩
theorem st_source {σ τ u t : Nat → Int → Int} {r q : Int32} (x1 : Int) (x2 : Int) (h : Rel σ τ) (hx : (∃ v, iI v = r ∧ SR_ (σ 0) x1 x2 v) ∧ XQ_ σ u) (hm : (∃ v, iI v = q ∧ SR_ (τ 0) x1 x2 v) ∧ MQ_ τ t) : r = q ∧ Rel u t := by
  rw [← h.1] at hm
  obtain ⟨⟨a, a1, a2⟩, a3⟩ := hx
  obtain ⟨⟨b, b1, b2⟩, b3⟩ := hm
  exact ⟨a1.symm.trans ((congrArg iI (SR_uniq h.2.1 a2 b2)).trans b1), Rel_Q h a3 b3⟩
theorem st_leastGrid {σ τ u t : Nat → Int → Int} {r q : Int32}  (h : Rel σ τ) (hx : (∃ v, iI v = r ∧ LG_ (σ 0) v) ∧ XQ_ σ u) (hm : (∃ v, iI v = q ∧ LG_ (τ 0) v) ∧ MQ_ τ t) : r = q ∧ Rel u t := by
  rw [← h.1] at hm
  obtain ⟨⟨a, a1, a2⟩, a3⟩ := hx
  obtain ⟨⟨b, b1, b2⟩, b3⟩ := hm
  exact ⟨a1.symm.trans ((congrArg iI (LG_uniq a2 b2)).trans b1), Rel_Q h a3 b3⟩
theorem st_nearTarget {σ τ u t : Nat → Int → Int} {r q : Int32} (x : Int) (h : Rel σ τ) (hx : (¬ (0 ≤ x ∧ x ≤ 200) → iI (-1) = r) ∧ ((0 ≤ x ∧ x ≤ 200) → ∃ v, iI v = r ∧ NT_ (σ 0) x v) ∧ XQ_ σ u) (hm : (¬ (0 ≤ x ∧ x ≤ 200) → iI (-1) = q) ∧ ((0 ≤ x ∧ x ≤ 200) → ∃ v, iI v = q ∧ NT_ (τ 0) x v) ∧ MQ_ τ t) : r = q ∧ Rel u t := by
  rw [← h.1] at hm
  obtain ⟨a1, a2, a3⟩ := hx
  obtain ⟨b1, b2, b3⟩ := hm
  refine ⟨?_, Rel_Q h a3 b3⟩
  rcases Classical.em (0 ≤ x ∧ x ≤ 200) with c | c
  · obtain ⟨v, v1, v2⟩ := a2 c
    obtain ⟨z, z1, z2⟩ := b2 c
    exact v1.symm.trans ((congrArg iI (NT_uniq v2 z2)).trans z1)
  · exact (a1 c).symm.trans (b1 c)
theorem st_thresholdFor {σ τ u t : Nat → Int → Int} {r q : Int32} (x : Int) (h : Rel σ τ) (hx : (¬ (1 ≤ x ∧ x ≤ 16) → iI (-1) = r) ∧ ((1 ≤ x ∧ x ≤ 16) → ∃ v, iI v = r ∧ TF_ (σ 0) x v) ∧ XQ_ σ u) (hm : (¬ (1 ≤ x ∧ x ≤ 16) → iI (-1) = q) ∧ ((1 ≤ x ∧ x ≤ 16) → ∃ v, iI v = q ∧ TF_ (τ 0) x v) ∧ MQ_ τ t) : r = q ∧ Rel u t := by
  rw [← h.1] at hm
  obtain ⟨a1, a2, a3⟩ := hx
  obtain ⟨b1, b2, b3⟩ := hm
  refine ⟨?_, Rel_Q h a3 b3⟩
  rcases Classical.em (1 ≤ x ∧ x ≤ 16) with c | c
  · obtain ⟨v, v1, v2⟩ := a2 c
    obtain ⟨z, z1, z2⟩ := b2 c
    exact v1.symm.trans ((congrArg iI (TF_uniq v2 z2)).trans z1)
  · exact (a1 c).symm.trans (b1 c)
theorem st_warp {σ τ u t : Nat → Int → Int} {r q : UInt32} (x : Int) (h : Rel σ τ) (hx : WV_ (σ 0) x r ∧ XQ_ σ u) (hm : WV_ (τ 0) x q ∧ MQ_ τ t) : r = q ∧ Rel u t := by
  rw [← h.1] at hm
  exact ⟨WV_uniq hx.1 hm.1, Rel_Q h hx.2 hm.2⟩
