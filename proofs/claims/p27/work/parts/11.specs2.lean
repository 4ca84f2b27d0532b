/-! the budgets: shared freely, or on the grid -/
theorem sumN_congr {f g : Int → Int} : ∀ n : Nat, (∀ k, 0 ≤ k → k < (n : Int) → f k = g k) → sumN f n = sumN g n
  | 0, _ => rfl
  | n + 1, h => by
    unfold sumN
    rw [sumN_congr n (fun k h0 h1 => h k h0 (by omega)), h n (by omega) (by omega)]
theorem sumN_add (f g : Int → Int) : ∀ n : Nat, sumN (fun k => f k + g k) n = sumN f n + sumN g n
  | 0 => rfl
  | n + 1 => by
    unfold sumN
    rw [sumN_add f g n]
    omega
theorem sumN_mul (f : Int → Int) (c : Int) : ∀ n : Nat, sumN (fun k => f k * c) n = sumN f n * c
  | 0 => by simp [sumN]
  | n + 1 => by
    unfold sumN
    rw [sumN_mul f c n, Int.add_mul]
theorem sumN_le {f g : Int → Int} : ∀ n : Nat, (∀ k, 0 ≤ k → k < (n : Int) → f k ≤ g k) → sumN f n ≤ sumN g n
  | 0, _ => Int.le_refl _
  | n + 1, h => by
    unfold sumN
    have h1 := sumN_le n (fun k h0 h1 => h k h0 (by omega))
    have h2 := h n (by omega) (by omega)
    omega
theorem sumN_tel (f : Int → Int) : ∀ n : Nat, sumN (fun k => f (k + 1) - f k) n = f n - f 0
  | 0 => by simp [sumN]
  | n + 1 => by
    unfold sumN
    rw [sumN_tel f n]
    have : ((n + 1 : Nat) : Int) = (n : Int) + 1 := by omega
    rw [this]
    omega
theorem sumN_c (c : Int) : ∀ n : Nat, sumN (fun _ => c) n = (n : Int) * c
  | 0 => by simp [sumN]
  | n + 1 => by
    unfold sumN
    rw [sumN_c c n, show ((n + 1 : Nat) : Int) = (n : Int) + 1 by omega, Int.add_mul]
    omega
theorem sumN_ups (f : Int → Int) (i v : Int) : ∀ n : Nat, 0 ≤ i → sumN (ups f i v) n = if i < (n : Int) then sumN f n - f i + v else sumN f n
  | 0, h => by rw [if_neg (by omega)]; rfl
  | n + 1, h => by
    unfold sumN
    rw [sumN_ups f i v n h]
    by_cases q : i = (n : Int)
    · rw [if_neg (by omega), if_pos (by omega), q, ups_s]
      omega
    · rw [ups_n _ _ (fun z => q z.symm)]
      by_cases q2 : i < (n : Int)
      · rw [if_pos q2, if_pos (by omega)]
        omega
      · rw [if_neg q2, if_neg (by omega)]
/-- a sum with one part less than the others could be -/
theorem sumN_ex {f : Int → Int} (n : Nat) (h : sumN f n < (n : Int)) (hf : ∀ k, 0 ≤ k → k < (n : Int) → f k = 0 ∨ f k = 1) : ∃ k, 0 ≤ k ∧ k < (n : Int) ∧ f k = 0 := by
  apply Classical.byContradiction
  intro hn
  have h1 : sumN f n = sumN (fun _ => 1) n := sumN_congr n (fun k h0 h1 => (hf k h0 h1).elim (fun q => absurd ⟨k, h0, h1, q⟩ hn) (fun q => q))
  rw [h1, sumN_c] at h
  omega
def b0_ (w : Int → Int) : Int → Int := fun k => ln w k * w 6 / (w 0 * w 1)
def rm_ (w : Int → Int) : Int → Int := fun k => ln w k * w 6 % (w 0 * w 1)
def left_ (w : Int → Int) : Int := w 6 - sumN (b0_ w) (w 74).toNat
/-- the first of the greatest among f 0 .. f n -/
def argx (f : Int → Int) : Nat → Int
  | 0 => 0
  | n + 1 => if f (argx f n) < f ((n : Int) + 1) then (n : Int) + 1 else argx f n
theorem argx_in (f : Int → Int) : ∀ n : Nat, 0 ≤ argx f n ∧ argx f n ≤ (n : Int) ∧ ∀ k, 0 ≤ k → k ≤ (n : Int) → f k ≤ f (argx f n)
  | 0 => ⟨Int.le_refl _, Int.le_refl _, fun k h0 h1 => by have : k = 0 := by omega
                                                          subst this; exact Int.le_refl _⟩
  | n + 1 => by
    obtain ⟨h1, h2, h3⟩ := argx_in f n
    unfold argx
    by_cases q : f (argx f n) < f ((n : Int) + 1)
    · rw [if_pos q]
      refine ⟨by omega, by omega, fun k k0 k1 => ?_⟩
      by_cases qk : k = (n : Int) + 1
      · rw [qk]; exact Int.le_refl _
      · have := h3 k k0 (by omega); omega
    · rw [if_neg q]
      refine ⟨h1, by omega, fun k k0 k1 => ?_⟩
      by_cases qk : k = (n : Int) + 1
      · rw [qk]; omega
      · exact h3 k k0 (by omega)
theorem argx_congr {f g : Int → Int} : ∀ n : Nat, (∀ k, 0 ≤ k → k ≤ (n : Int) → f k = g k) → argx f n = argx g n
  | 0, _ => rfl
  | n + 1, h => by
    have e := argx_congr n (fun k h0 h1 => h k h0 (by omega))
    obtain ⟨a1, a2, -⟩ := argx_in g n
    unfold argx
    rw [e, h (argx g n) a1 (by omega), h ((n : Int) + 1) (by omega) (by omega)]
/-- the remainders of those that have had no sample more -/
def rr_ (w sv : Int → Int) : Int → Int := fun k => if sv k = 1 then -1 else rm_ w k
/-- who has had a sample more, after n of them -/
def sv_ (w : Int → Int) : Nat → Int → Int
  | 0 => fun _ => 0
  | n + 1 => ups (sv_ w n) (argx (rr_ w (sv_ w n)) (w 74 - 1).toNat) 1
def fbu (w : Int → Int) : Int → Int := fun k => b0_ w k + sv_ w (left_ w).toNat k
theorem rm_in {w : Int → Int} (h : Inv w) (k : Int) : 0 ≤ rm_ w k ∧ rm_ w k < w 0 * w 1 := by
  have := h.wh_in
  exact ⟨Int.emod_nonneg _ (by omega), Int.emod_lt_of_pos _ (by omega)⟩
theorem sum_ln {w : Int → Int} (h : Inv w) : sumN (ln w) (w 74).toNat = w 0 * w 1 := by
  have hb := h.1
  have e : sumN (ln w) (w 74).toNat = sumN (fun k => (fr w (k + 1) - fr w k) * w 1) (w 74).toNat := rfl
  rw [e, sumN_mul (fun k => fr w (k + 1) - fr w k), sumN_tel, fr_ge (k := (((w 74).toNat : Nat) : Int)) (by omega), fr_lt (k := 0) (by omega), show (75 : Int) + 0 = 75 from rfl, hb.2.2.2.2.2.2.2.2.2.2.2]
  rw [Int.sub_zero]
theorem sum_b0 {w : Int → Int} (h : Inv w) : sumN (b0_ w) (w 74).toNat * (w 0 * w 1) + sumN (rm_ w) (w 74).toNat = w 6 * (w 0 * w 1) := by
  have e1 : sumN (fun k => b0_ w k * (w 0 * w 1) + rm_ w k) (w 74).toNat = sumN (fun k => ln w k * w 6) (w 74).toNat := sumN_congr _ (fun k _ _ => by
    unfold b0_ rm_
    have := Int.mul_ediv_add_emod (ln w k * w 6) (w 0 * w 1)
    rw [Int.mul_comm (ln w k * w 6 / (w 0 * w 1)) (w 0 * w 1)]
    exact this)
  rw [sumN_add, sumN_mul, sumN_mul, sum_ln h] at e1
  rw [e1, Int.mul_comm]
theorem b0_in {w : Int → Int} (h : Inv w) {k : Int} (h0 : 0 ≤ k) (h1 : k < w 74) : 0 ≤ b0_ w k ∧ b0_ w k ≤ w 6 := by
  have hl := h.ln_in h0 h1
  have hw := h.wh_in
  have hb := h.1
  have hm := mulb (a := ln w k) (b := w 6) (A := w 0 * w 1) (B := w 6) (by omega) (by omega) (by omega) (by omega)
  unfold b0_
  have h3 : ln w k * w 6 / (w 0 * w 1) ≤ w 0 * w 1 * w 6 / (w 0 * w 1) := Int.ediv_le_ediv (by omega) hm.2
  rw [Int.mul_ediv_cancel_left _ (by omega)] at h3
  exact ⟨Int.ediv_nonneg hm.1 (by omega), h3⟩
theorem left_in {w : Int → Int} (h : Inv w) : 0 ≤ left_ w ∧ left_ w < w 74 := by
  have hs := sum_b0 h
  have hw := h.wh_in
  have hb := h.1
  have r1 : sumN (fun _ => 0) (w 74).toNat ≤ sumN (rm_ w) (w 74).toNat := sumN_le _ (fun k _ _ => (rm_in h k).1)
  have r2 : sumN (rm_ w) (w 74).toNat ≤ sumN (fun _ => w 0 * w 1 - 1) (w 74).toNat := sumN_le _ (fun k _ _ => by have := (rm_in h k).2; omega)
  rw [sumN_c] at r1 r2
  have el : left_ w * (w 0 * w 1) = sumN (rm_ w) (w 74).toNat := by
    unfold left_
    rw [Int.sub_mul]
    omega
  constructor
  · apply Classical.byContradiction
    intro hn
    have : left_ w * (w 0 * w 1) < 0 := Int.mul_neg_of_neg_of_pos (by omega) (by omega)
    omega
  · apply Classical.byContradiction
    intro hn
    have h1 : w 74 * (w 0 * w 1) ≤ left_ w * (w 0 * w 1) := Int.mul_le_mul_of_nonneg_right (by omega) (by omega)
    have h2 : (((w 74).toNat : Nat) : Int) * (w 0 * w 1 - 1) = w 74 * (w 0 * w 1) - w 74 := by
      rw [show (((w 74).toNat : Nat) : Int) = w 74 by omega, Int.mul_sub, Int.mul_one]
    omega
theorem sv_in {w : Int → Int} (h : Inv w) : ∀ n : Nat, (n : Int) ≤ left_ w → sumN (sv_ w n) (w 74).toNat = (n : Int) ∧ ∀ k, sv_ w n k = 0 ∨ sv_ w n k = 1
  | 0, _ => ⟨sumN_0 _ _ (fun _ _ _ => rfl), fun _ => Or.inl rfl⟩
  | n + 1, hn => by
    obtain ⟨h1, h2⟩ := sv_in h n (by omega)
    have hl := left_in h
    have hb := h.1
    obtain ⟨a1, a2, a3⟩ := argx_in (rr_ w (sv_ w n)) (w 74 - 1).toNat
    obtain ⟨k, k0, k1, k2⟩ := sumN_ex (f := sv_ w n) (w 74).toNat (by omega) (fun k _ _ => h2 k)
    have k3 := a3 k k0 (by omega)
    have hs : sv_ w n (argx (rr_ w (sv_ w n)) (w 74 - 1).toNat) = 0 := by
      rcases h2 (argx (rr_ w (sv_ w n)) (w 74 - 1).toNat) with q | q
      · exact q
      · have e1 : rr_ w (sv_ w n) (argx (rr_ w (sv_ w n)) (w 74 - 1).toNat) = -1 := if_pos q
        have e2 : rr_ w (sv_ w n) k = rm_ w k := if_neg (by omega)
        have := (rm_in h k).1
        omega
    unfold sv_
    refine ⟨?_, fun j => ?_⟩
    · rw [sumN_ups _ _ _ _ a1, if_pos (by omega), hs]
      omega
    · by_cases q : j = argx (rr_ w (sv_ w n)) (w 74 - 1).toNat
      · rw [q, ups_s]; exact Or.inr rfl
      · rw [ups_n _ _ q]; exact h2 j
/-- the next one had none before -/
theorem sv_new {w : Int → Int} (h : Inv w) {n : Nat} (hn : (n : Int) < left_ w) : sv_ w n (argx (rr_ w (sv_ w n)) (w 74 - 1).toNat) = 0 := by
  obtain ⟨h1, h2⟩ := sv_in h n (by omega)
  have hl := left_in h
  have hb := h.1
  obtain ⟨a1, a2, a3⟩ := argx_in (rr_ w (sv_ w n)) (w 74 - 1).toNat
  obtain ⟨k, k0, k1, k2⟩ := sumN_ex (f := sv_ w n) (w 74).toNat (by omega) (fun k _ _ => h2 k)
  have k3 := a3 k k0 (by omega)
  rcases h2 (argx (rr_ w (sv_ w n)) (w 74 - 1).toNat) with q | q
  · exact q
  · have e1 : rr_ w (sv_ w n) (argx (rr_ w (sv_ w n)) (w 74 - 1).toNat) = -1 := if_pos q
    have e2 : rr_ w (sv_ w n) k = rm_ w k := if_neg (by omega)
    have := (rm_in h k).1
    omega
theorem fbu_in {w : Int → Int} (h : Inv w) {k : Int} (h0 : 0 ≤ k) (h1 : k < w 74) : 0 ≤ fbu w k ∧ fbu w k ≤ w 6 + 1 := by
  have hb := b0_in h h0 h1
  have hl := left_in h
  have hs := (sv_in h (left_ w).toNat (by omega)).2 k
  unfold fbu
  omega
theorem fbu_sum {w : Int → Int} (h : Inv w) : sumN (fbu w) (w 74).toNat = w 6 := by
  have hl := left_in h
  have hs := (sv_in h (left_ w).toNat (by omega)).1
  have e : sumN (fbu w) (w 74).toNat = sumN (fun k => b0_ w k + sv_ w (left_ w).toNat k) (w 74).toNat := rfl
  rw [e, sumN_add, hs]
  unfold left_ at hl ⊢
  omega
