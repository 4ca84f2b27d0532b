/-! which rises matter to the threshold -/
def ris_ (w : Int → Int) (i : Int) : Int := w (10 + i) - w (10 + (i - 1))
theorem fbn_cong (w : Int → Int) (t t' : Int) (b : Int → Int) : ∀ n : Nat, (∀ i : Int, 1 ≤ i → i ≤ (n : Int) → (t ≤ ris_ w i ↔ t' ≤ ris_ w i)) → fbn w t b n = fbn w t' b n
  | 0, _ => rfl
  | n + 1, h => by
    have ih := fbn_cong w t t' b n (fun i h1 h2 => h i h1 (by omega))
    have hq := h ((n : Int) + 1) (by omega) (by omega)
    unfold ris_ at hq
    rw [show (n : Int) + 1 - 1 = (n : Int) by omega] at hq
    by_cases hc : (fbn w t b n).1 < 16 ∧ t ≤ w (10 + ((n : Int) + 1)) - w (10 + (n : Int)) ∧ w 3 ≤ (n : Int) + 1 - (fbn w t b n).2 ((fbn w t b n).1 - 1)
    · rw [fbn_y hc, fbn_y (t := t') (by rw [← ih]; exact ⟨hc.1, hq.mp hc.2.1, hc.2.2⟩), ih]
    · rw [fbn_n hc, fbn_n (t := t') (by rw [← ih]; exact fun h2 => hc ⟨h2.1, hq.mpr h2.2.1, h2.2.2⟩), ih]
theorem fbn_least (w : Int → Int) (t : Int) (b : Int → Int) : ∀ n : Nat, ((fbn w t b n).1 = 1 ∧ ∀ i : Int, 1 ≤ i → i ≤ (n : Int) → ris_ w i < t) ∨ ∃ m : Int, 1 ≤ m ∧ m ≤ (n : Int) ∧ t ≤ ris_ w m ∧ ∀ i : Int, 1 ≤ i → i ≤ (n : Int) → t ≤ ris_ w i → ris_ w m ≤ ris_ w i
  | 0 => Or.inl ⟨rfl, fun i h1 h2 => by omega⟩
  | n + 1 => by
    by_cases hr : t ≤ ris_ w ((n : Int) + 1)
    · refine Or.inr ?_
      rcases fbn_least w t b n with ⟨-, h2⟩ | ⟨m, m1, m2, m3, m4⟩
      · refine ⟨(n : Int) + 1, by omega, by omega, hr, fun i h1 h3 h4 => ?_⟩
        by_cases hi : i = (n : Int) + 1
        · rw [hi]; exact Int.le_refl _
        · have := h2 i h1 (by omega); omega
      · by_cases hm : ris_ w m ≤ ris_ w ((n : Int) + 1)
        · refine ⟨m, m1, by omega, m3, fun i h1 h3 h4 => ?_⟩
          by_cases hi : i = (n : Int) + 1
          · rw [hi]; exact hm
          · exact m4 i h1 (by omega) h4
        · refine ⟨(n : Int) + 1, by omega, by omega, hr, fun i h1 h3 h4 => ?_⟩
          by_cases hi : i = (n : Int) + 1
          · rw [hi]; exact Int.le_refl _
          · have := m4 i h1 (by omega) h4; omega
    · rcases fbn_least w t b n with ⟨h1, h2⟩ | ⟨m, m1, m2, m3, m4⟩
      · refine Or.inl ⟨?_, fun i h3 h4 => ?_⟩
        · rw [fbn_n (fun hc => hr (by unfold ris_; rw [show (n : Int) + 1 - 1 = (n : Int) by omega]; exact hc.2.1))]
          exact h1
        · by_cases hi : i = (n : Int) + 1
          · rw [hi]; omega
          · exact h2 i h3 (by omega)
      · refine Or.inr ⟨m, m1, by omega, m3, fun i h3 h4 h5 => ?_⟩
        by_cases hi : i = (n : Int) + 1
        · rw [hi] at h5; exact absurd h5 hr
        · exact m4 i h3 (by omega) h5
theorem fnd_rise {w : Int → Int} {t : Int} (h : fnd w t ≠ 1) : ∃ m : Int, 1 ≤ m ∧ m < w 0 ∧ t ≤ ris_ w m ∧ fnd w (ris_ w m) = fnd w t := by
  rcases fbn_least w t (fun k => w (75 + k)) (w 0 - 1).toNat with ⟨h1, -⟩ | ⟨m, m1, m2, m3, m4⟩
  · exact absurd h1 h
  · refine ⟨m, m1, by omega, m3, ?_⟩
    unfold fnd
    rw [fbn_cong w (ris_ w m) t (fun k => w (75 + k)) (w 0 - 1).toNat (fun i h1 h2 => ⟨fun h3 => by omega, fun h3 => m4 i h1 h2 h3⟩)]
theorem fnd_one (w : Int → Int) (t : Int) : 1 ≤ fnd w t := (fbn_in w t (fun k => w (75 + k)) (w 0 - 1).toNat).1
/-- the scan along the rises ends with the greatest threshold -/
theorem tf_scan {w : Int → Int} {x b : Int} (h9 : fnd w 999 < x) (h : ∀ i : Int, 1 ≤ i → i < w 0 → b < ris_ w i → fnd w (ris_ w i) < x) : ∀ t : Int, b < t → t ≤ 999 → fnd w t < x := by
  intro t h1 h2
  have h3 := fnd_one w 999
  by_cases hc : fnd w t < x
  · exact hc
  · obtain ⟨m, m1, m2, m3, m4⟩ := fnd_rise (w := w) (t := t) (by omega)
    have := h m m1 m2 (by omega)
    omega
