theorem stp_0 {w : Int → Int} (T G : Int) (h : 1 ≤ w 74) : stp w T G 0 = 0 := (if_pos (by omega)).trans rfl
theorem stp_rng {w : Int → Int} (h : Inv w) {T G : Int} (hT : 0 ≤ T ∧ T ≤ 200000) (hG : 1 ≤ G) (hc : can_ w T G) {k : Int} (h0 : 0 ≤ k) (h1 : k < w 74) : k ≤ stp w T G k ∧ stp w T G k < G := by
  have := stq_ok h hT hG hc k.toNat (by omega)
  unfold stp
  rw [if_pos h1]
  omega
theorem can_le {w : Int → Int} (h : Inv w) {T G : Int} (hG : 1 ≤ G) (hc : can_ w T G) : w 74 ≤ G := by
  rcases Int.lt_or_le G (w 74) with q | q
  · exact absurd (bst_small h hG q) hc
  · exact q
theorem cv_can {w : Int → Int} {T G : Int} : cv_ (bst w T G (w 74 - 1).toNat 0) = -1 → bst w T G (w 74 - 1).toNat 0 ≠ FAR → bst w T G (w 74 - 1).toNat 0 = -1 := fun h q => by
  unfold cv_ at h
  rwa [if_neg q] at h
/-- the budgets of the present mode -/
def lay_ (w : Int → Int) : Prop := w 8 = 0 ∨ can_ w (w 6) (w 7)
def bud (w : Int → Int) : Int → Int := if w 8 = 0 then fbu w else gbu w (w 6) (w 7)
theorem bud_in {w : Int → Int} (h : Inv w) (hl : lay_ w) {k : Int} (h0 : 0 ≤ k) (h1 : k < w 74) : 0 ≤ bud w k ∧ bud w k ≤ 200001 := by
  have hi := h.1
  unfold bud
  split
  · have := fbu_in h h0 h1; omega
  · rename_i q
    have := gbu_in h (T := w 6) (G := w 7) (by omega) (by omega) (hl.elim (fun z => absurd z q) (fun z => z)) h0 h1
    omega
theorem bud_sum {w : Int → Int} (h : Inv w) : sumN (bud w) (w 74).toNat = w 6 := by
  have hi := h.1
  unfold bud
  split
  · exact fbu_sum h
  · exact gbu_sum h (by omega)
/-- a component that is put as it was, below another that is put -/
theorem sc_self5 {σ : Nat → Int → Int} {f14 f15 f16 f17 f21 : Int → Int} : sc (sc (sc (sc (sc (sc σ 14 f14) 15 f15) 16 f16) 17 f17) 18 (σ 18)) 21 f21 = sc (sc (sc (sc (sc σ 14 f14) 15 f15) 16 f16) 17 f17) 21 f21 := by
  have e : sc (sc (sc (sc (sc σ 14 f14) 15 f15) 16 f16) 17 f17) 18 (σ 18) = sc (sc (sc (sc σ 14 f14) 15 f15) 16 f16) 17 f17 := sc_self (sc (sc (sc (sc σ 14 f14) 15 f15) 16 f16) 17 f17) 18
  rw [e]
