/-- the fade at a place of the order, by the budgets b -/
def fad (w b : Int → Int) (p : Int) : Int := min (w 9) (min (b (w (91 + p)) / 4) (b (w (91 + (if p + 1 < w 74 then p + 1 else 0))) / 4))
/-- a sample of the slice x, j from its begin -/
def org (w b : Int → Int) (x j : Int) : Int := fr w x * w 1 + (if 0 < b x then j * ln w x / b x else 0)
/-- slices whose budgets are beyond the limits -/
def bey (w b : Int → Int) (k : Int) : Int := if b k < ln w k * w 4 / 100 ∨ ln w k * w 5 / 100 < b k then 1 else 0
theorem sumN_succ (f : Int → Int) (n : Nat) : sumN f (n + 1) = sumN f n + f (n : Int) := rfl
theorem sumN_at {f : Int → Int} {i : Int} (h : 0 ≤ i) : sumN f (i + 1).toNat = sumN f i.toNat + f i := by
  rw [show (i + 1).toNat = i.toNat + 1 by omega, sumN_succ, show ((i.toNat : Nat) : Int) = i by omega]
theorem sumN_pos {f : Int → Int} : ∀ n : Nat, (∀ k, 0 ≤ k → k < (n : Int) → 0 ≤ f k) → 0 ≤ sumN f n
  | 0, _ => Int.le_refl _
  | n + 1, h => by
    have h1 := sumN_pos n (fun k h0 h1 => h k h0 (by omega))
    have h2 := h n (by omega) (by omega)
    rw [sumN_succ]
    omega
theorem sumN_mono {f : Int → Int} : ∀ (n d : Nat), (∀ k, 0 ≤ k → k < ((n + d : Nat) : Int) → 0 ≤ f k) → sumN f n ≤ sumN f (n + d)
  | n, 0, _ => Int.le_refl _
  | n, d + 1, h => by
    have h1 := sumN_mono n d (fun k h0 h1 => h k h0 (by omega))
    have h2 := h ((n + d : Nat) : Int) (by omega) (by omega)
    show _ ≤ sumN f ((n + d) + 1)
    rw [sumN_succ]
    omega
theorem argx_at {f : Int → Int} {i : Int} (h : 1 ≤ i) : argx f i.toNat = if f (argx f (i - 1).toNat) < f i then i else argx f (i - 1).toNat := by
  have e : i.toNat = (i - 1).toNat + 1 := by omega
  have e2 : (((i - 1).toNat : Nat) : Int) + 1 = i := by omega
  rw [e]
  show (if f (argx f (i - 1).toNat) < f ((((i - 1).toNat : Nat) : Int) + 1) then (((i - 1).toNat : Nat) : Int) + 1 else argx f (i - 1).toNat) = _
  rw [e2]
theorem sc_self2 {σ : Nat → Int → Int} {f14 f15 f16 f17 f18 f21 : Int → Int} : sc (sc (sc (sc (sc (sc (sc (sc σ 14 f14) 15 f15) 16 f16) 17 f17) 18 f18) 19 (σ 19)) 20 (σ 20)) 21 f21 = sc (sc (sc (sc (sc (sc σ 14 f14) 15 f15) 16 f16) 17 f17) 18 f18) 21 f21 := by
  have e1 : sc (sc (sc (sc (sc (sc σ 14 f14) 15 f15) 16 f16) 17 f17) 18 f18) 19 (σ 19) = sc (sc (sc (sc (sc σ 14 f14) 15 f15) 16 f16) 17 f17) 18 f18 := sc_self _ 19
  have e2 : sc (sc (sc (sc (sc (sc σ 14 f14) 15 f15) 16 f16) 17 f17) 18 f18) 20 (σ 20) = sc (sc (sc (sc (sc σ 14 f14) 15 f15) 16 f16) 17 f17) 18 f18 := sc_self _ 20
  rw [e1, e2]
theorem sc_self1 {σ : Nat → Int → Int} {f14 f15 f16 f17 f18 f19 f21 : Int → Int} : sc (sc (sc (sc (sc (sc (sc (sc σ 14 f14) 15 f15) 16 f16) 17 f17) 18 f18) 19 f19) 20 (σ 20)) 21 f21 = sc (sc (sc (sc (sc (sc (sc σ 14 f14) 15 f15) 16 f16) 17 f17) 18 f18) 19 f19) 21 f21 := by
  have e2 : sc (sc (sc (sc (sc (sc (sc σ 14 f14) 15 f15) 16 f16) 17 f17) 18 f18) 19 f19) 20 (σ 20) = sc (sc (sc (sc (sc (sc σ 14 f14) 15 f15) 16 f16) 17 f17) 18 f18) 19 f19 := sc_self _ 20
  rw [e2]
theorem iI_min2 {a b : Int} (h : -2147483648 ≤ a ∧ a < 2147483648 ∧ -2147483648 ≤ b ∧ b < 2147483648) : (if iI b < iI a then iI b else iI a) = iI (min a b) := by
  have h2 := iI_lt (a := b) (b := a) ⟨h.2.2.1, h.2.2.2, h.1, h.2.1⟩
  by_cases q : b < a
  · rw [if_pos (h2.mpr q), show min a b = b by omega]
  · rw [if_neg (fun z => q (h2.mp z)), show min a b = a by omega]
