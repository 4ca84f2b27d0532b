/-! who is served next, as the reference looks for it; places by the order -/
def PK (w : Int → Int) (n : Nat) (i t : Int) : Prop := (t = -9 ∧ ∀ k, 0 ≤ k → k < i → sv_ w n k = 1) ∨ (0 ≤ t ∧ t < i ∧ sv_ w n t = 0 ∧ t = argx (rr_ w (sv_ w n)) (i - 1).toNat)
theorem rr_s {w sv : Int → Int} {k : Int} (h : sv k = 1) : rr_ w sv k = -1 := if_pos h
theorem rr_u {w sv : Int → Int} {k : Int} (h : sv k = 0) : rr_ w sv k = rm_ w k := if_neg (by omega)
theorem PK_s {w : Int → Int} (h : Inv w) {n : Nat} {i t : Int} (hi : 0 ≤ i) (hp : PK w n i t) (hs : sv_ w n i = 1) : PK w n (i + 1) t := by
  rcases hp with ⟨a1, a2⟩ | ⟨a1, a2, a3, a4⟩
  · exact Or.inl ⟨a1, fun k k0 k1 => if hq : k = i then (by rw [hq]; exact hs) else a2 k k0 (by omega)⟩
  · refine Or.inr ⟨a1, by omega, a3, ?_⟩
    rw [show i + 1 - 1 = i by omega, argx_at (by omega), ← a4, rr_s hs, rr_u a3]
    have := (rm_in h t).1
    rw [if_neg (by omega)]
theorem PK_n {w : Int → Int} (h : Inv w) {n : Nat} {i : Int} (hi : 0 ≤ i) (hp : PK w n i (-9)) (hs : sv_ w n i = 0) : PK w n (i + 1) i := by
  rcases hp with ⟨a1, a2⟩ | ⟨a1, a2, a3, a4⟩
  · refine Or.inr ⟨hi, by omega, hs, ?_⟩
    rw [show i + 1 - 1 = i by omega]
    by_cases q : i = 0
    · rw [q]; rfl
    · have hx := argx_in (rr_ w (sv_ w n)) (i - 1).toNat
      rw [argx_at (by omega), rr_s (a2 _ hx.1 (by omega)), rr_u hs]
      have := (rm_in h i).1
      rw [if_pos (by omega)]
  · omega
theorem PK_gt {w : Int → Int} {n : Nat} {i t : Int} (hi : 0 ≤ i) (hp : PK w n i t) (ht : t ≠ -9) (hs : sv_ w n i = 0) (hr : rm_ w t < rm_ w i) : PK w n (i + 1) i := by
  rcases hp with ⟨a1, a2⟩ | ⟨a1, a2, a3, a4⟩
  · exact absurd a1 ht
  · refine Or.inr ⟨hi, by omega, hs, ?_⟩
    rw [show i + 1 - 1 = i by omega, argx_at (by omega), ← a4, rr_u hs, rr_u a3, if_pos hr]
theorem PK_le {w : Int → Int} {n : Nat} {i t : Int} (hp : PK w n i t) (ht : t ≠ -9) (hs : sv_ w n i = 0) (hr : rm_ w i ≤ rm_ w t) : PK w n (i + 1) t := by
  rcases hp with ⟨a1, a2⟩ | ⟨a1, a2, a3, a4⟩
  · exact absurd a1 ht
  · refine Or.inr ⟨a1, by omega, a3, ?_⟩
    rw [show i + 1 - 1 = i by omega, argx_at (by omega), ← a4, rr_u hs, rr_u a3, if_neg (by omega)]
theorem PK_rng {w : Int → Int} {n : Nat} {i t : Int} (hp : PK w n i t) : t = -9 ∨ (0 ≤ t ∧ t < i) := hp.elim (fun h => Or.inl h.1) (fun h => Or.inr ⟨h.1, h.2.1⟩)
theorem PK_end {w : Int → Int} (h : Inv w) {n : Nat} (hn : (n : Int) < left_ w) {t : Int} (hp : PK w n (w 74) t) : 0 ≤ t ∧ t < w 74 ∧ t = argx (rr_ w (sv_ w n)) (w 74 - 1).toNat := by
  have hi := h.1
  have hl := left_in h
  obtain ⟨s1, s2⟩ := sv_in h n (by omega)
  obtain ⟨k, k0, k1, k2⟩ := sumN_ex (f := sv_ w n) (w 74).toNat (by omega) (fun k _ _ => s2 k)
  rcases hp with ⟨a1, a2⟩ | ⟨a1, a2, a3, a4⟩
  · have := a2 k k0 (by omega)
    omega
  · exact ⟨a1, a2, a4⟩
noncomputable def plcf (w : Int → Int) (x : Int) : Int := Classical.epsilon (fun p => Plc w x p)
theorem plcf_eq {w : Int → Int} {x p : Int} (h : Plc w x p) : plcf w x = p := Plc.uniq (Classical.epsilon_spec ⟨p, h⟩) h
theorem sumN_two {f : Int → Int} {p q : Int} (hpq : p < q) (hp : 0 ≤ p) (hf : ∀ k, 0 ≤ f k) (h1 : f p = 1) (h2 : f q = 1) : ∀ n : Nat, q < (n : Int) → 2 ≤ sumN f n
  | 0, h => by omega
  | n + 1, h => by
    rw [sumN_succ]
    by_cases z : q = (n : Int)
    · have hs : 1 ≤ sumN f n := by
        have a := sumN_mono (f := f) (p + 1).toNat (n - (p + 1).toNat) (fun k _ _ => hf k)
        rw [show (p + 1).toNat + (n - (p + 1).toNat) = n by omega, sumN_at hp, h1] at a
        have b := sumN_pos (f := f) p.toNat (fun k _ _ => hf k)
        omega
      rw [← z, h2]
      omega
    · have := sumN_two hpq hp hf h1 h2 n (by omega)
      have := hf (n : Int)
      omega
theorem Inv.inj {w : Int → Int} (h : Inv w) {p q : Int} (hp : 0 ≤ p) (hpq : p < q) (hq : q < w 74) : w (91 + p) ≠ w (91 + q) := by
  intro e
  have hx := h.2.2.2.2.1 q (by omega) hq
  have hs := h.2.2.2.2.2 (fun k => if k = w (91 + q) then 1 else 0)
  rw [sumN_1 _ _ hx.1 (by omega)] at hs
  have := sumN_two (f := fun k => (fun z => if z = w (91 + q) then 1 else 0) (w (91 + k))) hpq hp (fun k => by dsimp only; split <;> omega) (if_pos e) (if_pos rfl) (w 74).toNat (by omega)
  exact absurd (Int.le_trans this (Int.le_of_eq hs)) (by decide)
theorem Inv.at_plc {w : Int → Int} (h : Inv w) {p : Int} (hp : 0 ≤ p ∧ p < w 74) : Plc w (w (91 + p)) p := ⟨hp.1, hp.2, fun k k0 k1 => h.inj k0 k1 hp.2, rfl⟩
/-- a sum over the slices by their places is the sum over the places -/
theorem Inv.sum_plc {w : Int → Int} (h : Inv w) (f : Int → Int) : sumN (fun k => f (plcf w k)) (w 74).toNat = sumN f (w 74).toNat := by
  have hi := h.1
  rw [← h.2.2.2.2.2 (fun k => f (plcf w k))]
  exact sumN_congr _ (fun k k0 k1 => congrArg f (plcf_eq (h.at_plc ⟨k0, by omega⟩)))
def nxp (w : Int → Int) (p : Int) : Int := if p + 1 < w 74 then p + 1 else 0
theorem nxp_in {w : Int → Int} {p : Int} (h : 0 ≤ p ∧ p < w 74) : 0 ≤ nxp w p ∧ nxp w p < w 74 := by unfold nxp; split <;> omega
theorem nxp_mod {w : Int → Int} {p : Int} (h : 0 ≤ p ∧ p < w 74) : (p + 1) % w 74 = nxp w p := by
  unfold nxp
  split
  · exact Int.emod_eq_of_lt (by omega) (by omega)
  · rw [show p + 1 = w 74 by omega]; exact Int.emod_self
theorem sc_self267 {σ : Nat → Int → Int} {f5 f8 : Int → Int} : sc (sc (sc (sc (sc σ 2 (σ 2)) 5 f5) 6 (σ 6)) 7 (σ 7)) 8 f8 = sc (sc σ 5 f5) 8 f8 := by
  have e1 : sc (sc σ 5 f5) 6 (σ 6) = sc σ 5 f5 := sc_self (sc σ 5 f5) 6
  have e2 : sc (sc σ 5 f5) 7 (σ 7) = sc σ 5 f5 := sc_self (sc σ 5 f5) 7
  rw [sc_self, e1, e2]
