/-! the reference's way to the same sums and steps -/
theorem bst_mid {w : Int → Int} {T G m : Int} (hm : 0 ≤ m ∧ m + 1 < w 74) (s : Int) : bst w T G (w 74 - 1 - m).toNat s = own_ w T G m s (raw_ w T G m (bst w T G (w 74 - 2 - m).toNat) s) := by
  have e1 : (w 74 - 1 - m).toNat = (w 74 - 2 - m).toNat + 1 := by omega
  have e2 : w 74 - 1 - ((((w 74 - 2 - m).toNat : Nat) : Int) + 1) = m := by omega
  rw [e1]
  show own_ w T G (w 74 - 1 - ((((w 74 - 2 - m).toNat : Nat) : Int) + 1)) _ (raw_ w T G (w 74 - 1 - ((((w 74 - 2 - m).toNat : Nat) : Int) + 1)) _ _) = _
  rw [e2]
theorem bst_end {w : Int → Int} {T G m : Int} (hm : m = w 74 - 1) (s : Int) : bst w T G (w 74 - 1 - m).toNat s = own_ w T G m s (if ln w m * w 4 / 100 ≤ T - po T G s ∧ T - po T G s ≤ ln w m * w 5 / 100 then 0 else FAR) := by
  subst hm
  rw [show (w 74 - 1 - (w 74 - 1)).toNat = 0 by omega]
  rfl
theorem mnf_at {g : Int → Int} {lo i : Int} (h : lo ≤ i) : mnf g lo (i + 1 - lo).toNat = if g i < mnf g lo (i - lo).toNat then g i else mnf g lo (i - lo).toNat := by
  rw [show (i + 1 - lo).toNat = (i - lo).toNat + 1 by omega]
  show (if g (lo + (((i - lo).toNat : Nat) : Int)) < mnf g lo (i - lo).toNat then g (lo + (((i - lo).toNat : Nat) : Int)) else mnf g lo (i - lo).toNat) = _
  rw [show lo + (((i - lo).toNat : Nat) : Int) = i by omega]
theorem bst_rng {w : Int → Int} (h : Inv w) {T G : Int} (hT : 0 ≤ T ∧ T ≤ 200000) (hG : 1 ≤ G) {d : Nat} {s : Int} (hd : (d : Int) < w 74) (h0 : 0 ≤ s) (h1 : s < G) : 0 ≤ bst w T G d s ∧ bst w T G d s ≤ FAR ∧ (bst w T G d s = FAR ∨ bst w T G d s ≤ 204800000) := by
  have hi := h.1
  have hf : FAR = 1152921504606846976 := rfl
  rcases bst_in h hT hG d s hd h0 h1 with q | q
  · omega
  · have : (d : Int) + 1 ≤ 16 := by omega
    omega
def RowM (w : Int → Int) (T G : Int) (f : Int → Int) (m : Int) : Prop := ∀ j, 0 ≤ j → j < G → (m = 0 → j = 0) → f (33 * m + j) = bst w T G (w 74 - 1 - m).toNat j
theorem stp_next {w : Int → Int} (h : Inv w) {T G : Int} (hT : 0 ≤ T ∧ T ≤ 200000) (hG : 1 ≤ G) (hc : can_ w T G) {k : Int} (hk : 0 ≤ k ∧ k + 1 < w 74) :
    stp w T G k < stp w T G (k + 1) ∧ stp w T G (k + 1) < G ∧ fits_ w k (po T G (stp w T G (k + 1)) - po T G (stp w T G k)) ∧ bst w T G (w 74 - 2 - k).toNat (stp w T G (k + 1)) = raw_ w T G k (bst w T G (w 74 - 2 - k).toNat) (stp w T G k) ∧
    bst w T G (w 74 - 1 - k).toNat (stp w T G k) = raw_ w T G k (bst w T G (w 74 - 2 - k).toNat) (stp w T G k) + of_ w T G k (stp w T G k) ∧
    ∀ j, stp w T G k < j → j < stp w T G (k + 1) → ¬ (fits_ w k (po T G j - po T G (stp w T G k)) ∧ bst w T G (w 74 - 2 - k).toNat j = raw_ w T G k (bst w T G (w 74 - 2 - k).toNat) (stp w T G k)) := by
  have h1 := stq_next h hT hG hc k.toNat (by omega)
  have h2 := stq_ok h hT hG hc (k.toNat + 1) (by omega)
  have e1 : stp w T G k = stq w T G k.toNat := if_pos (by omega)
  have e2 : stp w T G (k + 1) = stq w T G (k.toNat + 1) := by unfold stp; rw [if_pos (by omega), show (k + 1).toNat = k.toNat + 1 by omega]
  have e3 : ((k.toNat : Nat) : Int) = k := by omega
  rw [e3] at h1
  rw [e1, e2]
  exact ⟨h1.1, h2.2.1, h1.2.1, h1.2.2.1, h1.2.2.2.1, fun j j0 j1 q => h1.2.2.2.2 j j0 j1 ⟨q.1, Int.le_of_eq q.2⟩⟩
theorem sc_self56 {σ : Nat → Int → Int} {f2 f7 : Int → Int} : sc (sc (sc (sc σ 2 f2) 5 (σ 5)) 6 (σ 6)) 7 f7 = sc (sc σ 2 f2) 7 f7 := by
  have e1 : sc (sc σ 2 f2) 5 (σ 5) = sc σ 2 f2 := sc_self (sc σ 2 f2) 5
  have e2 : sc (sc σ 2 f2) 6 (σ 6) = sc σ 2 f2 := sc_self (sc σ 2 f2) 6
  rw [e1, e2]
