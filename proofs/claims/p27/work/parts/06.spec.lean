/-! what the numbers of a loop mean: w 0 frames, w 1 .. w 9 the settings, w (10 + k) energies, w 74 how many marks, w (75 + k) marks, w (91 + k) the order -/
theorem mulb {a b A B : Int} (h1 : 0 ≤ a) (h2 : a ≤ A) (h3 : 0 ≤ b) (h4 : b ≤ B) : 0 ≤ a * b ∧ a * b ≤ A * B := ⟨Int.mul_nonneg h1 h3, Int.mul_le_mul h2 h4 h3 (by omega)⟩
theorem mz_lt (z : Int) : z < ((z.toNat + 1 : Nat) : Int) := by omega
def abI (a : Int) : Int := if 0 ≤ a then a else 0 - a
theorem iI_abs {a : Int} (h : -2147483648 < a ∧ a < 2147483648) : (if 0 ≤ iI a then iI a else 0 - iI a) = iI (abI a) := by
  have e : (0 ≤ iI a) ↔ 0 ≤ a := iI_le (a := 0) (b := a) ⟨by omega, by omega, by omega, by omega⟩
  unfold abI
  by_cases q : 0 ≤ a
  · rw [if_pos (e.mpr q), if_pos q]
  · rw [if_neg (fun z => q (e.mp z)), if_neg q]
    exact iI_sub 0 a
theorem iI_max {a b : Int} (h : -2147483648 ≤ a ∧ a < 2147483648 ∧ -2147483648 ≤ b ∧ b < 2147483648) : (if iI a < iI b then iI b else iI a) = iI (max a b) := by
  by_cases q : a < b
  · rw [if_pos ((iI_lt h).mpr q), show max a b = b by omega]
  · rw [if_neg (fun z => q ((iI_lt h).mp z)), show max a b = a by omega]
theorem iI_min {a b : Int} (h : -2147483648 ≤ a ∧ a < 2147483648 ∧ -2147483648 ≤ b ∧ b < 2147483648) : (if iI a ≤ iI b then iI a else iI b) = iI (min a b) := by
  have h2 := iI_le h
  by_cases q : a ≤ b
  · rw [if_pos (h2.mpr q), show min a b = a by omega]
  · rw [if_neg (fun z => q (h2.mp z)), show min a b = b by omega]
/-- sums over 0 .. n - 1 -/
def sumN (f : Int → Int) : Nat → Int
  | 0 => 0
  | n + 1 => sumN f n + f (n : Int)
/-- the order is one of all the slices: any sum over the places is the sum over the slices -/
def Perm (w : Int → Int) : Prop := (∀ k, 0 ≤ k → k < w 74 → 0 ≤ w (91 + k) ∧ w (91 + k) < w 74) ∧ ∀ f : Int → Int, sumN (fun k => f (w (91 + k))) (w 74).toNat = sumN f (w 74).toNat
def Inv (w : Int → Int) : Prop :=
  ((1 ≤ w 0 ∧ w 0 ≤ 64) ∧ (1 ≤ w 1 ∧ w 1 ≤ 1000) ∧ (1 ≤ w 2 ∧ w 2 ≤ 999) ∧ (1 ≤ w 3 ∧ w 3 ≤ 16) ∧ (10 ≤ w 4 ∧ w 4 ≤ 100) ∧ (100 ≤ w 5 ∧ w 5 ≤ 1000) ∧ (1 ≤ w 6 ∧ w 6 ≤ 200000) ∧ (1 ≤ w 7 ∧ w 7 ≤ 32) ∧ (0 ≤ w 8 ∧ w 8 ≤ 1) ∧ (0 ≤ w 9 ∧ w 9 ≤ 500) ∧ (1 ≤ w 74 ∧ w 74 ≤ 16) ∧ w 75 = 0) ∧
  (∀ k, 0 ≤ k → k < 64 → 0 ≤ w (10 + k) ∧ w (10 + k) ≤ 999) ∧ (∀ k, 0 ≤ k → k < w 74 → 0 ≤ w (75 + k) ∧ w (75 + k) < w 0) ∧ (∀ k, 0 ≤ k → k + 1 < w 74 → w (75 + k) < w (75 + (k + 1))) ∧ Perm w
def fr (w : Int → Int) (k : Int) : Int := if k < w 74 then w (75 + k) else w 0
def ln (w : Int → Int) (k : Int) : Int := (fr w (k + 1) - fr w k) * w 1
theorem fr_lt {w : Int → Int} {k : Int} (h : k < w 74) : fr w k = w (75 + k) := if_pos h
theorem fr_ge {w : Int → Int} {k : Int} (h : w 74 ≤ k) : fr w k = w 0 := if_neg (by omega)
theorem Inv.fr_up {w : Int → Int} (h : Inv w) {k : Int} (h0 : 0 ≤ k) (h1 : k < w 74) : fr w k < fr w (k + 1) := by
  obtain ⟨-, -, hm, hs, -⟩ := h
  rw [fr_lt h1]
  by_cases q : k + 1 < w 74
  · rw [fr_lt q]; exact hs k h0 q
  · rw [fr_ge (by omega)]; exact (hm k h0 h1).2
theorem Inv.fr_in {w : Int → Int} (h : Inv w) {k : Int} (h0 : 0 ≤ k) : 0 ≤ fr w k ∧ fr w k ≤ w 0 := by
  obtain ⟨hb, -, hm, hs, -⟩ := h
  by_cases q : k < w 74
  · rw [fr_lt q]; have := hm k h0 q; omega
  · rw [fr_ge (by omega)]; omega
theorem Inv.ln_in {w : Int → Int} (h : Inv w) {k : Int} (h0 : 0 ≤ k) (h1 : k < w 74) : 1 ≤ ln w k ∧ ln w k ≤ 64000 ∧ ln w k ≤ w 0 * w 1 := by
  have a1 := h.fr_up h0 h1
  have a2 := h.fr_in h0
  have a3 := h.fr_in (k := k + 1) (by omega)
  obtain ⟨hb, -⟩ := h
  have m1 := mulb (a := fr w (k + 1) - fr w k) (b := w 1) (A := 64) (B := 1000) (by omega) (by omega) (by omega) (by omega)
  have m2 := mulb (a := fr w (k + 1) - fr w k - 1) (b := w 1 - 1) (A := 64) (B := 1000) (by omega) (by omega) (by omega) (by omega)
  have m3 := mulb (a := w 0 - (fr w (k + 1) - fr w k)) (b := w 1) (A := 64) (B := 1000) (by omega) (by omega) (by omega) (by omega)
  unfold ln
  have e2 : (fr w (k + 1) - fr w k - 1) * (w 1 - 1) = (fr w (k + 1) - fr w k) * w 1 - (fr w (k + 1) - fr w k) - w 1 + 1 := by
    rw [Int.sub_mul, Int.mul_sub]; omega
  have e3 : (w 0 - (fr w (k + 1) - fr w k)) * w 1 = w 0 * w 1 - (fr w (k + 1) - fr w k) * w 1 := Int.sub_mul _ _ _
  omega
def po (T G i : Int) : Int := i * T / G
def fits_ (w : Int → Int) (k b : Int) : Prop := ln w k * w 4 / 100 ≤ b ∧ b ≤ ln w k * w 5 / 100
def of_ (w : Int → Int) (T G m s : Int) : Int := abI (po T G s * w 0 - fr w m * T)
theorem po_in {T G i : Int} (hT : 0 ≤ T ∧ T ≤ 200000) (hG : 1 ≤ G) (h : 0 ≤ i ∧ i ≤ G) : 0 ≤ po T G i ∧ po T G i ≤ T := by
  unfold po
  have h1 : 0 ≤ i * T := Int.mul_nonneg h.1 hT.1
  have h2 : i * T ≤ G * T := Int.mul_le_mul_of_nonneg_right h.2 hT.1
  have h3 : i * T / G ≤ G * T / G := Int.ediv_le_ediv (by omega) h2
  rw [Int.mul_ediv_cancel_left T (by omega)] at h3
  exact ⟨Int.ediv_nonneg h1 (by omega), h3⟩
theorem po_mono {T G i j : Int} (hT : 0 ≤ T) (hG : 1 ≤ G) (h : i ≤ j) : po T G i ≤ po T G j := by
  unfold po
  exact Int.ediv_le_ediv (by omega) (Int.mul_le_mul_of_nonneg_right h hT)
theorem abI_in {a B : Int} (h : -B ≤ a ∧ a ≤ B) : 0 ≤ abI a ∧ abI a ≤ B := by
  unfold abI
  split <;> omega
theorem Inv.wh_in {w : Int → Int} (h : Inv w) : 1 ≤ w 0 * w 1 ∧ w 0 * w 1 ≤ 64000 := by
  obtain ⟨hb, -⟩ := h
  have m := mulb (a := w 0) (b := w 1) (A := 64) (B := 1000) (by omega) (by omega) (by omega) (by omega)
  have p : 0 < w 0 * w 1 := Int.mul_pos (by omega) (by omega)
  omega
