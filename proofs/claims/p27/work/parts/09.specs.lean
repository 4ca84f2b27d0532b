/-! what the changes make of a loop's numbers -/
def spo (w : Int → Int) : Int → Int := fun k => if 91 ≤ k ∧ k < 107 then k - 91 else w k
def spc (w : Int → Int) (F : Int) : Int → Int := fun k => if k = 0 then F else if 10 ≤ k ∧ k < 74 then 0 else if k = 74 then 1 else if k = 75 then 0 else if 91 ≤ k ∧ k < 107 then k - 91 else w k
def spx (w : Int → Int) (i j : Int) : Int → Int := ups (ups w (91 + i) (w (91 + j))) (91 + j) (w (91 + i))
def spi (w : Int → Int) (n f : Int) : Int → Int := fun k => if k = 74 then w 74 + 1 else if 75 + n < k ∧ k ≤ 75 + w 74 then w (k - 1) else if k = 75 + n then f else if 91 ≤ k ∧ k < 107 then k - 91 else w k
def spr (w : Int → Int) (n : Int) : Int → Int := fun k => if k = 74 then w 74 - 1 else if 75 + n ≤ k ∧ k < 75 + (w 74 - 1) then w (k + 1) else if 91 ≤ k ∧ k < 107 then k - 91 else w k
/-- the loudest of the frames a .. a + n, the first of several -/
def ldn (w : Int → Int) (a : Int) : Nat → Int
  | 0 => a
  | n + 1 => if w (10 + ldn w a n) < w (10 + (a + (n : Int) + 1)) then a + (n : Int) + 1 else ldn w a n
/-- marks found by a threshold t among the frames 1 .. n: how many, and where each lies (over a row b) -/
def fbn (w : Int → Int) (t : Int) (b : Int → Int) : Nat → Int × (Int → Int)
  | 0 => (1, ups b 0 0)
  | n + 1 => if (fbn w t b n).1 < 16 ∧ t ≤ w (10 + ((n : Int) + 1)) - w (10 + (n : Int)) ∧ w 3 ≤ (n : Int) + 1 - (fbn w t b n).2 ((fbn w t b n).1 - 1) then ((fbn w t b n).1 + 1, ups (fbn w t b n).2 (fbn w t b n).1 ((n : Int) + 1)) else fbn w t b n
theorem ldn_in (w : Int → Int) (a : Int) : ∀ n : Nat, a ≤ ldn w a n ∧ ldn w a n ≤ a + (n : Int)
  | 0 => by simp [ldn]
  | n + 1 => by
    have := ldn_in w a n
    unfold ldn
    split <;> omega
theorem fbn_in (w : Int → Int) (t : Int) (b : Int → Int) : ∀ n : Nat, 1 ≤ (fbn w t b n).1 ∧ (fbn w t b n).1 ≤ 16 ∧ (fbn w t b n).1 ≤ (n : Int) + 1 ∧ (fbn w t b n).2 0 = 0 ∧ ∀ k, 0 ≤ k → k < (fbn w t b n).1 → 0 ≤ (fbn w t b n).2 k ∧ (fbn w t b n).2 k ≤ (n : Int)
  | 0 => by
    refine ⟨by simp [fbn], by simp [fbn], by simp [fbn], by simp [fbn, ups], fun k h0 h1 => ?_⟩
    have : k = 0 := by simp [fbn] at h1; omega
    subst this
    simp [fbn, ups]
  | n + 1 => by
    obtain ⟨h1, h2, h3, h4, h5⟩ := fbn_in w t b n
    unfold fbn
    split
    · rename_i hc
      refine ⟨by show 1 ≤ (fbn w t b n).1 + 1; omega, by show (fbn w t b n).1 + 1 ≤ 16; omega, by show (fbn w t b n).1 + 1 ≤ ((n + 1 : Nat) : Int) + 1; omega, ?_, fun k h0 hk => ?_⟩
      · show ups _ _ _ _ = 0
        rw [ups_n _ _ (by omega)]; exact h4
      · show 0 ≤ ups _ _ _ _ ∧ ups _ _ _ _ ≤ _
        by_cases hq : k = (fbn w t b n).1
        · rw [hq, ups_s]; omega
        · rw [ups_n _ _ hq]
          have hk' : k < (fbn w t b n).1 + 1 := hk
          have := h5 k h0 (by omega)
          omega
    · refine ⟨h1, h2, by omega, h4, fun k h0 hk => ?_⟩
      have := h5 k h0 hk
      omega
/-- p is the place of the slice x in the order -/
def Plc (w : Int → Int) (x p : Int) : Prop := 0 ≤ p ∧ p < w 74 ∧ (∀ k, 0 ≤ k → k < p → w (91 + k) ≠ x) ∧ w (91 + p) = x
/-- p marks lie before the frame x -/
def Bef (w : Int → Int) (x p : Int) : Prop := 0 ≤ p ∧ p ≤ w 74 ∧ (∀ k, 0 ≤ k → k < p → w (75 + k) < x) ∧ (p < w 74 → x ≤ w (75 + p))
theorem sumN_0 (f : Int → Int) : ∀ n : Nat, (∀ k, 0 ≤ k → k < (n : Int) → f k = 0) → sumN f n = 0
  | 0, _ => rfl
  | n + 1, h => by
    unfold sumN
    rw [sumN_0 f n (fun k h0 h1 => h k h0 (by omega)), h n (by omega) (by omega)]
    rfl
theorem sumN_1 (x : Int) : ∀ n : Nat, 0 ≤ x → x < (n : Int) → sumN (fun k => if k = x then 1 else 0) n = 1
  | 0, h0, h1 => by omega
  | n + 1, h0, h1 => by
    unfold sumN
    by_cases h : x = (n : Int)
    · rw [sumN_0 _ n (fun k _ h2 => if_neg (by omega)), if_pos h.symm]
      rfl
    · rw [sumN_1 x n h0 (by omega), if_neg (fun q => h q.symm)]
      rfl
theorem Inv.plc {w : Int → Int} (h : Inv w) {x : Int} (hx : 0 ≤ x ∧ x < w 74) : ∃ p, 0 ≤ p ∧ p < w 74 ∧ w (91 + p) = x := by
  have hp := h.2.2.2.2.2 (fun k => if k = x then 1 else 0)
  rw [sumN_1 x _ hx.1 (by omega)] at hp
  apply Classical.byContradiction
  intro hn
  rw [sumN_0 _ _ (fun k h0 h1 => if_neg (fun q => hn ⟨k, h0, by omega, q⟩))] at hp
  exact absurd hp (by decide)
theorem Plc.uniq {w : Int → Int} {x p q : Int} (h : Plc w x p) (h' : Plc w x q) : p = q := by
  obtain ⟨a1, a2, a3, a4⟩ := h
  obtain ⟨b1, b2, b3, b4⟩ := h'
  rcases Int.lt_trichotomy p q with z | z | z
  · exact absurd a4 (b3 p a1 z)
  · exact z
  · exact absurd b4 (a3 q b1 z)
theorem Bef.uniq {w : Int → Int} {x p q : Int} (h : Bef w x p) (h' : Bef w x q) : p = q := by
  obtain ⟨a1, a2, a3, a4⟩ := h
  obtain ⟨b1, b2, b3, b4⟩ := h'
  rcases Int.lt_trichotomy p q with z | z | z
  · have := b3 p a1 z; have := a4 (by omega); omega
  · exact z
  · have := a3 q b1 z; have := b4 (by omega); omega
theorem fbn_y {w : Int → Int} {t : Int} {b : Int → Int} {n : Nat} (h : (fbn w t b n).1 < 16 ∧ t ≤ w (10 + ((n : Int) + 1)) - w (10 + (n : Int)) ∧ w 3 ≤ (n : Int) + 1 - (fbn w t b n).2 ((fbn w t b n).1 - 1)) : fbn w t b (n + 1) = ((fbn w t b n).1 + 1, ups (fbn w t b n).2 (fbn w t b n).1 ((n : Int) + 1)) := if_pos h
theorem fbn_n {w : Int → Int} {t : Int} {b : Int → Int} {n : Nat} (h : ¬ ((fbn w t b n).1 < 16 ∧ t ≤ w (10 + ((n : Int) + 1)) - w (10 + (n : Int)) ∧ w 3 ≤ (n : Int) + 1 - (fbn w t b n).2 ((fbn w t b n).1 - 1))) : fbn w t b (n + 1) = fbn w t b n := if_neg h
theorem fbn_stop {w : Int → Int} {t : Int} {b : Int → Int} {n : Nat} (h : 16 ≤ (fbn w t b n).1) : ∀ d : Nat, fbn w t b (n + d) = fbn w t b n
  | 0 => rfl
  | d + 1 => by
    have e := fbn_stop h d
    rw [show n + (d + 1) = (n + d) + 1 from rfl, fbn_n (by rw [e]; omega), e]
theorem fbn_end {w : Int → Int} {t : Int} {b : Int → Int} {n N : Nat} (h : 16 ≤ (fbn w t b n).1 ∨ n = N) (hn : n ≤ N) : fbn w t b N = fbn w t b n := by
  rcases h with h | h
  · have e := fbn_stop h (N - n)
    rwa [show n + (N - n) = N by omega] at e
  · rw [h]
theorem fbn_0 (w : Int → Int) (t : Int) (b : Int → Int) : fbn w t b 0 = (1, ups b 0 0) := rfl
theorem plc_last {w : Int → Int} {x q i : Int} (hw : ∀ k, 0 ≤ k → k < i → w (91 + k) ≠ x) (h0 : 0 ≤ q) (h1 : q < w 74) (h2 : w (91 + q) = x) (h3 : w 74 - 1 ≤ i) : w (91 + i) = x := by
  rcases Int.lt_or_le q i with h | h
  · exact absurd h2 (hw q h0 h)
  · rw [show i = q by omega]; exact h2
