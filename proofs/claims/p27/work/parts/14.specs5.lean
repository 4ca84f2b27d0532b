/-! steps of the walk for the next step, and what a row of sums becomes -/
theorem sc_self (σ : Nat → Int → Int) (c : Nat) : sc σ c (σ c) = σ := by
  funext d
  by_cases h : d = c
  · subst h; exact sc_s _ _ _
  · exact sc_d _ _ h
theorem BN_exit {S : Int → Int} {F : Int → Prop} {lo hi i b : Int} (h : BN S F lo (i - 1) b) (h1 : hi < i) (h2 : i ≤ max lo (hi + 1)) : BN S F lo hi b := by
  rcases h with ⟨a1, a2⟩ | ⟨a1, a2, a3, a4, a5, a6⟩
  · exact Or.inl ⟨a1, fun j j0 j1 => a2 j j0 (by omega)⟩
  · exact Or.inr ⟨a1, by omega, a3, a4, fun j j0 j1 => a5 j j0 (by omega), a6⟩
theorem BN_cut {S : Int → Int} {F : Int → Prop} {lo hi i b : Int} (h : BN S F lo (i - 1) b) (h1 : i ≤ hi) (h2 : ∀ j, i ≤ j → ¬ F j) : BN S F lo hi b := by
  rcases h with ⟨a1, a2⟩ | ⟨a1, a2, a3, a4, a5, a6⟩
  · exact Or.inl ⟨a1, fun j j0 j1 f => by
      rcases Int.lt_or_le j i with q | q
      · exact a2 j j0 (by omega) f
      · exact absurd f (h2 j q)⟩
  · exact Or.inr ⟨a1, by omega, a3, a4, fun j j0 j1 f => by
      rcases Int.lt_or_le j i with q | q
      · exact a5 j j0 (by omega) f
      · exact absurd f (h2 j q), a6⟩
theorem BN_skip {S : Int → Int} {F : Int → Prop} {lo i b : Int} (h : BN S F lo (i - 1) b) (h2 : F i → S i = -1) : BN S F lo (i + 1 - 1) b := by
  rcases h with ⟨a1, a2⟩ | ⟨a1, a2, a3, a4, a5, a6⟩
  · exact Or.inl ⟨a1, fun j j0 j1 f => by
      by_cases q : j = i
      · rw [q] at f ⊢; exact h2 f
      · exact a2 j j0 (by omega) f⟩
  · exact Or.inr ⟨a1, by omega, a3, a4, fun j j0 j1 f s => by
      by_cases q : j = i
      · rw [q] at f s; exact absurd (h2 f) s
      · exact a5 j j0 (by omega) f s, a6⟩
theorem BN_take {S : Int → Int} {F : Int → Prop} {lo i b : Int} (h : BN S F lo (i - 1) b) (hl : lo ≤ i) (f : F i) (s : S i ≠ -1) (h2 : b = -1 ∨ S i < S b) (hlo : 0 ≤ lo) : BN S F lo (i + 1 - 1) i := by
  rcases h with ⟨a1, a2⟩ | ⟨a1, a2, a3, a4, a5, a6⟩
  · exact Or.inr ⟨hl, by omega, f, s, fun j j0 j1 fj sj => by
      by_cases q : j = i
      · rw [q]; exact Int.le_refl _
      · exact absurd (a2 j j0 (by omega) fj) sj, fun j j0 j1 fj sj => absurd (a2 j j0 (by omega) fj) sj⟩
  · have hlt : S i < S b := by
      rcases h2 with q | q
      · omega
      · exact q
    exact Or.inr ⟨hl, by omega, f, s, fun j j0 j1 fj sj => by
      by_cases q : j = i
      · rw [q]; exact Int.le_refl _
      · have := a5 j j0 (by omega) fj sj; omega, fun j j0 j1 fj sj => by have := a5 j j0 (by omega) fj sj; omega⟩
theorem BN_keep {S : Int → Int} {F : Int → Prop} {lo i b : Int} (h : BN S F lo (i - 1) b) (hb : b ≠ -1) (h2 : S b ≤ S i) : BN S F lo (i + 1 - 1) b := by
  rcases h with ⟨a1, a2⟩ | ⟨a1, a2, a3, a4, a5, a6⟩
  · exact absurd a1 hb
  · exact Or.inr ⟨a1, by omega, a3, a4, fun j j0 j1 fj sj => by
      by_cases q : j = i
      · rw [q]; exact h2
      · exact a5 j j0 (by omega) fj sj, a6⟩
theorem BN_rng {S : Int → Int} {F : Int → Prop} {lo hi b : Int} (h : BN S F lo hi b) : b = -1 ∨ (lo ≤ b ∧ b ≤ hi) := h.elim (fun q => Or.inl q.1) (fun q => Or.inr ⟨q.1, q.2.1⟩)
theorem Rw_congr {w : Int → Int} {T G : Int} {f g : Int → Int} {m : Int} (hG : 1 ≤ G ∧ G ≤ 32) (hm : 0 ≤ m ∧ m ≤ w 74) (h : ∀ i, m * 33 ≤ i → i < m * 33 + 33 → f i = g i) (hR : Rw w T G f m) : Rw w T G g m := by
  unfold Rw at hR ⊢
  by_cases q : m = w 74
  · rw [if_pos q] at hR ⊢
    rw [← h _ (by omega) (by omega)]; exact hR
  · rw [if_neg q] at hR ⊢
    intro j j0 j1
    have hj : j ≤ G := by
      by_cases z : m = 0
      · rw [z] at j1; unfold lst_ at j1; rw [if_pos rfl] at j1; omega
      · rw [lst_in (by omega)] at j1; omega
    rw [← h _ (by omega) (by omega)]
    exact hR j j0 j1
/-- what can be read of the row behind a mark -/
theorem Rw_rng {w : Int → Int} (h : Inv w) {T G : Int} (hT : 0 ≤ T ∧ T ≤ 200000) (hG : 1 ≤ G ∧ G ≤ 32) {f : Int → Int} {m : Int} (hm : 0 ≤ m ∧ m < w 74) (hR : Rw w T G f (m + 1)) {j lo : Int} (h0 : max lo (fst_ w G (m + 1)) ≤ j) (h1 : j ≤ lst_ w G (m + 1)) : -1 ≤ f ((m + 1) * 33 + j) ∧ f ((m + 1) * 33 + j) ≤ 204800000 := by
  have hi := h.1
  rw [lst_in (by omega)] at h1
  unfold Rw at hR
  unfold fst_ at h0
  by_cases q : m + 1 = w 74
  · rw [if_neg (by omega)] at h0
    rw [if_pos q] at hR
    rw [show j = G by omega, hR]
    omega
  · rw [if_pos (by omega)] at h0
    rw [if_neg q] at hR
    rw [hR j (by omega) (by rw [lst_in (by omega)]; exact h1)]
    have := cv_in h hT hG.1 (d := (w 74 - 1 - (m + 1)).toNat) (s := j) (by omega) (by omega) (by omega)
    omega
/-- the sum from a mark at a step on, by the step that was found behind it -/
theorem fill_val {w : Int → Int} (h : Inv w) {T G m s : Int} (hT : 0 ≤ T ∧ T ≤ 200000) (hG : 1 ≤ G ∧ G ≤ 32) (hm : 0 ≤ m ∧ m < w 74) (hs : m ≤ s ∧ s < G) {f : Int → Int} (hR : Rw w T G f (m + 1)) {b : Int}
    (hb : BN (fun j => f ((m + 1) * 33 + j)) (fun j => fits_ w m (po T G j - po T G s)) (max (s + 1) (fst_ w G (m + 1))) (lst_ w G (m + 1)) b) :
    (b = -1 ∧ bst w T G (w 74 - 1 - m).toNat s = FAR) ∨ (s < b ∧ b ≤ G ∧ bst w T G (w 74 - 1 - m).toNat s = f ((m + 1) * 33 + b) + of_ w T G m s ∧ bst w T G (w 74 - 1 - m).toNat s ≠ FAR ∧ 0 ≤ f ((m + 1) * 33 + b) ∧ f ((m + 1) * 33 + b) ≤ 204800000) := by
  have hi := h.1
  have ho := of_in h hT hG.1 hm.1 (show 0 ≤ s ∧ s ≤ G by omega)
  have hf : FAR = 1152921504606846976 := rfl
  by_cases q : m + 1 = w 74
  · have em : m = w 74 - 1 := by omega
    subst em
    rw [show (w 74 - 1 - (w 74 - 1)).toNat = 0 by omega]
    rw [show w 74 - 1 + 1 = w 74 by omega] at hR
    have hbs : ∀ c : Prop, ∀ _ : Decidable c, True := fun _ _ => trivial
    rcases nx_last h hG (by omega) hR hb with ⟨z1, z2⟩ | ⟨z1, z2, z3⟩
    · refine Or.inl ⟨z1, ?_⟩
      show own_ w T G (w 74 - 1) s _ = FAR
      unfold own_
      rw [if_pos]
      exact if_neg z2
    · refine Or.inr ⟨by omega, by omega, ?_, ?_, by omega, by omega⟩
      · show own_ w T G (w 74 - 1) s _ = _
        rw [show (if ln w (w 74 - 1) * w 4 / 100 ≤ T - po T G s ∧ T - po T G s ≤ ln w (w 74 - 1) * w 5 / 100 then (0 : Int) else FAR) = 0 from if_pos z2]
        unfold own_
        rw [if_neg (by omega), z3]
      · show own_ w T G (w 74 - 1) s _ ≠ FAR
        rw [show (if ln w (w 74 - 1) * w 4 / 100 ≤ T - po T G s ∧ T - po T G s ≤ ln w (w 74 - 1) * w 5 / 100 then (0 : Int) else FAR) = 0 from if_pos z2]
        unfold own_
        rw [if_neg (by omega)]
        omega
  · have e1 : (w 74 - 1 - m).toNat = (w 74 - 2 - m).toNat + 1 := by omega
    have e2 : w 74 - 1 - ((((w 74 - 2 - m).toNat : Nat) : Int) + 1) = m := by omega
    have hu : bst w T G (w 74 - 1 - m).toNat s = own_ w T G m s (raw_ w T G m (bst w T G (w 74 - 2 - m).toNat) s) := by
      rw [e1]
      show own_ w T G (w 74 - 1 - ((((w 74 - 2 - m).toNat : Nat) : Int) + 1)) _ (raw_ w T G (w 74 - 1 - ((((w 74 - 2 - m).toNat : Nat) : Int) + 1)) _ _) = _
      rw [e2]
    rw [hu]
    unfold own_
    rcases nx_in h hT hG (by omega) hs hR hb with ⟨z1, z2⟩ | ⟨z1, z2, z3, z4, z5, z6, z7, z8⟩
    · exact Or.inl ⟨z1, if_pos z2⟩
    · have hz := Rw_rng h hT hG hm hR (j := b) (lo := s + 1) (by
        rcases BN_rng hb with y | y
        · omega
        · exact y.1) z3
      refine Or.inr ⟨z1, by omega, ?_, ?_, z6, hz.2⟩
      · rw [z4, if_neg (by omega)]
      · rw [z4, if_neg (by omega)]
        omega
def Ready (σ : Nat → Int → Int) (T G : Int) : Prop := Ms σ T G ∧ ∀ m, 0 ≤ m → m ≤ σ 0 74 → Rw (σ 0) T G (σ 17) m
theorem bst_small {w : Int → Int} (h : Inv w) {T G : Int} (hG : 1 ≤ G) (hk : G < w 74) : bst w T G (w 74 - 1).toNat 0 = FAR := by
  have hi := h.1
  exact bst_out _ _ (by omega) (by omega)
theorem none_row {w : Int → Int} (h : Inv w) {T G m : Int} (hG : 1 ≤ G) (hm : 0 ≤ m ∧ m < w 74) (hz : ¬ ∃ j, m ≤ j ∧ j ≤ lst_ w G m ∧ bst w T G (w 74 - 1 - m).toNat j ≠ FAR) : bst w T G (w 74 - 1).toNat 0 = FAR := by
  have hi := h.1
  have hz' : ∀ j, m ≤ j → j ≤ lst_ w G m → bst w T G (w 74 - 1 - m).toNat j = FAR := fun j j0 j1 => Classical.byContradiction fun q => hz ⟨j, j0, j1, q⟩
  by_cases q : m = 0
  · have := hz' 0 (by omega) (by unfold lst_; rw [if_pos q]; omega)
    rw [q] at this
    rwa [show w 74 - 1 - 0 = w 74 - 1 by omega] at this
  · have := none_up h (T := T) (G := G) m.toNat (by omega) (fun j j0 j1 => by
      rw [show ((m.toNat : Nat) : Int) = m by omega]
      rcases Int.lt_or_le (lst_ w G m) j with z | z
      · rw [lst_in (by omega)] at z
        exact bst_out _ _ (by omega) (by omega)
      · exact hz' j (by omega) z) hG
    exact this
theorem lst_ge {w : Int → Int} {G m : Int} (hm : 0 ≤ m ∧ m < w 74) (hG : w 74 ≤ G) : m ≤ lst_ w G m ∧ lst_ w G m < G := by
  unfold lst_
  split <;> omega
/-- along the steps that are taken, the next one is the one that is found -/
theorem draw_next {w : Int → Int} (h : Inv w) {T G : Int} (hT : 0 ≤ T ∧ T ≤ 200000) (hG : 1 ≤ G ∧ G ≤ 32) (hc : can_ w T G) {m : Int} (hm : 0 ≤ m ∧ m < w 74) {f : Int → Int} (hR : Rw w T G f (m + 1)) {b : Int}
    (hb : BN (fun j => f ((m + 1) * 33 + j)) (fun j => fits_ w m (po T G j - po T G (stp w T G m))) (max (stp w T G m + 1) (fst_ w G (m + 1))) (lst_ w G (m + 1)) b) : b = stp w T G (m + 1) := by
  have hi := h.1
  have hk := stq_ok h hT hG.1 hc m.toNat (by omega)
  have es : stp w T G m = stq w T G m.toNat := if_pos hm.2
  rw [es] at hb
  have em : ((m.toNat : Nat) : Int) = m := by omega
  rw [em] at hk
  by_cases q : m + 1 = w 74
  · have e2 : m = w 74 - 1 := by omega
    have hR' : Rw w T G f (w 74) := by rw [← q]; exact hR
    have eG : stp w T G (m + 1) = G := if_neg (by omega)
    rw [eG]
    have hfv := fill_val h hT hG hm (s := stq w T G m.toNat) (by omega) hR hb
    generalize stq w T G m.toNat = s0 at hk hb hfv
    have hb' := hb
    rw [e2] at hb'
    rcases nx_last h hG (by omega) hR' hb' with ⟨z1, z2⟩ | ⟨z1, z2, z3⟩
    · rcases hfv with ⟨y1, y2⟩ | ⟨y1, y2, y3, y4, y5, y6⟩
      · exact absurd y2 (by omega)
      · omega
    · exact z1
  · have eS : stp w T G (m + 1) = stq w T G (m + 1).toNat := if_pos (by omega)
    rw [eS, show (m + 1).toNat = m.toNat + 1 by omega]
    rcases nx_in h hT hG (by omega) (s := stq w T G m.toNat) (by omega) hR hb with ⟨z1, z2⟩ | ⟨z1, z2, z3, z4, z5, z6, z7, z8⟩
    · have hn := (stq_next h hT hG.1 hc m.toNat (by omega))
      rw [em] at hn
      have := hn.2.2.1
      have hlt := stq_ok h hT hG.1 hc (m.toNat + 1) (by omega)
      have e5 : w 74 - 1 - ((m.toNat + 1 : Nat) : Int) = w 74 - 2 - m := by omega
      rw [e5] at hlt
      omega
    · rw [z8]
      show _ = argm _ _ _
      rw [em]
