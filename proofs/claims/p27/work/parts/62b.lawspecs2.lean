/-! the law: more of what its questions are answered -/
def stb (w : Int → Int) (T G k : Int) : Int := if k = 0 then -1 else stp w T G (k - 1)
theorem stb_1 {w : Int → Int} {T G k : Int} (h : 0 ≤ k) : stb w T G (k + 1) = stp w T G k := by
  unfold stb
  rw [if_neg (by omega), show k + 1 - 1 = k by omega]
theorem stb_lt {w : Int → Int} (h : Inv w) {T G : Int} (hT : 0 ≤ T ∧ T ≤ 200000) (hG : 1 ≤ G) (hc : can_ w T G) {k : Int} (h0 : 0 ≤ k) (h1 : k < w 74) : -1 ≤ stb w T G k ∧ stb w T G k < stp w T G k := by
  unfold stb
  by_cases q : k = 0
  · rw [if_pos q]
    have := stp_in h hT hG hc h0
    omega
  · rw [if_neg q]
    have a := stp_lt h hT hG hc (k := k - 1) (by omega) (by omega)
    rw [show k - 1 + 1 = k by omega] at a
    have := stp_in h hT hG hc (k := k - 1) (by omega)
    omega
theorem SL3c {w : Int → Int} (h : Inv w) {x v : Int} (hv : SL_ w x 3 v) (hx : 0 ≤ x ∧ x < w 74) (l : lay_ w) : (w 8 = 0 ∧ v = -9) ∨ (w 8 ≠ 0 ∧ 0 ≤ v ∧ v ≤ 32) := by
  have hb := h.1
  by_cases q : w 8 = 0
  · exact Or.inl ⟨q, SL3n hv hx (fun z => z.2 q)⟩
  · right
    have e := SL3 hv hx ⟨l, q⟩
    have := stp_in h (T := w 6) (G := w 7) (by omega) (by omega) (can_lay l q) hx.1
    exact ⟨q, by omega, by omega⟩
theorem SR2c {a b v : Int} {P Q : Prop} (h : P ∧ Q ∧ ((2 : Int) = 2 → v = if a ≤ b then 1 else 0)) : (v = 1 ∧ a ≤ b) ∨ (v = 0 ∧ b < a) := by
  have e := h.2.2 rfl
  by_cases q : a ≤ b
  · rw [if_pos q] at e; exact Or.inl ⟨e, q⟩
  · rw [if_neg q] at e; exact Or.inr ⟨e, by omega⟩
theorem org_at {w b : Int → Int} {x i p j : Int} (hb : 0 < b x) (e : i - p = j) : org w b x (i - p) = fr w x * w 1 + j * ln w x / b x := by
  unfold org
  rw [if_pos hb, e]
theorem org_at0 {w b : Int → Int} {x p : Int} (hb : 0 < b x) : org w b x (p - p) = fr w x * w 1 := by
  rw [org_at hb (Int.sub_self p), Int.zero_mul, Int.zero_ediv, Int.add_zero]
theorem jq_in {j n b : Int} (hj : 0 ≤ j ∧ j < b) (hn : 0 ≤ n) : 0 ≤ j * n / b ∧ j * n / b ≤ n := by
  have h1 : 0 ≤ j * n := Int.mul_nonneg hj.1 hn
  have h2 : j * n ≤ b * n := Int.mul_le_mul_of_nonneg_right (by omega) hn
  have h3 : j * n / b ≤ b * n / b := Int.ediv_le_ediv (by omega) h2
  rw [Int.mul_ediv_cancel_left n (by omega)] at h3
  exact ⟨Int.ediv_nonneg h1 (by omega), h3⟩
theorem fc_m9 : Op.cmpValue (FP.fcmp 3239051264 3239051264) .l = 0 := fc_self (show (3239051264 : UInt32) &&& 0x7fffffff ≤ 0x7f800000 by decide) _
