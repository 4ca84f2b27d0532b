/-! the grid: the least sums from a mark on, and the steps that are taken -/
def FAR : Int := 1152921504606846976
/-- the least of g lo .. g (lo + n - 1), FAR if none is less -/
def mnf (g : Int → Int) (lo : Int) : Nat → Int
  | 0 => FAR
  | n + 1 => if g (lo + (n : Int)) < mnf g lo n then g (lo + (n : Int)) else mnf g lo n
/-- where it is first -/
def argm (g : Int → Int) (lo : Int) : Nat → Int
  | 0 => lo
  | n + 1 => if g (lo + (n : Int)) < mnf g lo n then lo + (n : Int) else argm g lo n
theorem mnf_le (g : Int → Int) (lo : Int) : ∀ n : Nat, mnf g lo n ≤ FAR
  | 0 => Int.le_refl _
  | n + 1 => by
    have := mnf_le g lo n
    unfold mnf
    split <;> omega
theorem mnf_lo (g : Int → Int) (lo : Int) : ∀ (n : Nat) (j : Int), lo ≤ j → j < lo + (n : Int) → mnf g lo n ≤ g j
  | 0, j, h0, h1 => by omega
  | n + 1, j, h0, h1 => by
    unfold mnf
    by_cases q : j = lo + (n : Int)
    · rw [q]; split <;> omega
    · have := mnf_lo g lo n j h0 (by omega)
      split <;> omega
theorem mnf_congr {g g' : Int → Int} (lo : Int) : ∀ n : Nat, (∀ j, lo ≤ j → j < lo + (n : Int) → g j = g' j) → mnf g lo n = mnf g' lo n
  | 0, _ => rfl
  | n + 1, h => by
    unfold mnf
    rw [mnf_congr lo n (fun j h0 h1 => h j h0 (by omega)), h (lo + (n : Int)) (by omega) (by omega)]
theorem argm_ok (g : Int → Int) (lo : Int) : ∀ n : Nat, mnf g lo n < FAR → lo ≤ argm g lo n ∧ argm g lo n < lo + (n : Int) ∧ g (argm g lo n) = mnf g lo n ∧ ∀ j, lo ≤ j → j < argm g lo n → mnf g lo n < g j
  | 0, h => absurd h (Int.lt_irrefl _)
  | n + 1, h => by
    unfold mnf at h
    unfold mnf argm
    by_cases q : g (lo + (n : Int)) < mnf g lo n
    · rw [if_pos q, if_pos q]
      exact ⟨by omega, by omega, rfl, fun j h0 h1 => by have := mnf_lo g lo n j h0 h1; omega⟩
    · rw [if_neg q] at h
      rw [if_neg q, if_neg q]
      obtain ⟨h1, h2, h3, h4⟩ := argm_ok g lo n h
      exact ⟨h1, by omega, h3, h4⟩
theorem mnf_far {g : Int → Int} {lo : Int} (n : Nat) (h : ∀ j, lo ≤ j → j < lo + (n : Int) → FAR ≤ g j) : mnf g lo n = FAR := by
  have h1 := mnf_le g lo n
  rcases Int.lt_or_le (mnf g lo n) FAR with q | q
  · obtain ⟨a1, a2, a3, -⟩ := argm_ok g lo n q
    have := h _ a1 a2
    omega
  · omega
/-- the marks behind a mark are d: the sum from that mark on, without its own, and with it -/
def raw_ (w : Int → Int) (T G : Int) (m : Int) (nxt : Int → Int) (step : Int) : Int :=
  mnf (fun j => if ln w m * w 4 / 100 ≤ po T G j - po T G step ∧ po T G j - po T G step ≤ ln w m * w 5 / 100 then nxt j else FAR) (step + 1) (G - 1 - step).toNat
def own_ (w : Int → Int) (T G : Int) (m : Int) (step x : Int) : Int := if x = FAR then FAR else x + of_ w T G m step
def bst (w : Int → Int) (T G : Int) : Nat → Int → Int
  | 0 => fun step => own_ w T G (w 74 - 1) step (if ln w (w 74 - 1) * w 4 / 100 ≤ T - po T G step ∧ T - po T G step ≤ ln w (w 74 - 1) * w 5 / 100 then 0 else FAR)
  | d + 1 => fun step => own_ w T G (w 74 - 1 - ((d : Int) + 1)) step (raw_ w T G (w 74 - 1 - ((d : Int) + 1)) (bst w T G d) step)
theorem of_in {w : Int → Int} (h : Inv w) {T G m s : Int} (hT : 0 ≤ T ∧ T ≤ 200000) (hG : 1 ≤ G) (hm : 0 ≤ m) (hs : 0 ≤ s ∧ s ≤ G) : 0 ≤ of_ w T G m s ∧ of_ w T G m s ≤ 12800000 := by
  have h1 := po_in hT hG hs
  have h2 := h.fr_in hm
  have hb := h.1
  have m1 := mulb (a := po T G s) (b := w 0) (A := 200000) (B := 64) (by omega) (by omega) (by omega) (by omega)
  have m2 := mulb (a := fr w m) (b := T) (A := 64) (B := 200000) (by omega) (by omega) (by omega) (by omega)
  exact abI_in (by omega)
theorem bst_in {w : Int → Int} (h : Inv w) {T G : Int} (hT : 0 ≤ T ∧ T ≤ 200000) (hG : 1 ≤ G) : ∀ (d : Nat) (s : Int), (d : Int) < w 74 → 0 ≤ s → s < G → bst w T G d s = FAR ∨ (0 ≤ bst w T G d s ∧ bst w T G d s ≤ ((d : Int) + 1) * 12800000)
  | 0, s, hd, h0, h1 => by
    have ho := of_in h (T := T) (G := G) (m := w 74 - 1) (s := s) hT hG (by omega) (by omega)
    unfold bst own_
    by_cases q : ln w (w 74 - 1) * w 4 / 100 ≤ T - po T G s ∧ T - po T G s ≤ ln w (w 74 - 1) * w 5 / 100
    · rw [if_pos q, if_neg (by unfold FAR; omega)]
      exact Or.inr ⟨by omega, by omega⟩
    · rw [if_neg q, if_pos rfl]
      exact Or.inl rfl
  | d + 1, s, hd, h0, h1 => by
    have ho := of_in h (T := T) (G := G) (m := w 74 - 1 - ((d : Int) + 1)) (s := s) hT hG (by omega) (by omega)
    unfold bst own_
    by_cases q : raw_ w T G (w 74 - 1 - ((d : Int) + 1)) (bst w T G d) s = FAR
    · rw [if_pos q]; exact Or.inl rfl
    · rw [if_neg q]
      have hle : raw_ w T G (w 74 - 1 - ((d : Int) + 1)) (bst w T G d) s ≤ FAR := mnf_le _ _ _
      obtain ⟨a1, a2, a3, -⟩ := argm_ok _ _ _ (show raw_ w T G (w 74 - 1 - ((d : Int) + 1)) (bst w T G d) s < FAR by omega)
      have hr : raw_ w T G (w 74 - 1 - ((d : Int) + 1)) (bst w T G d) s = mnf (fun j => if ln w (w 74 - 1 - ((d : Int) + 1)) * w 4 / 100 ≤ po T G j - po T G s ∧ po T G j - po T G s ≤ ln w (w 74 - 1 - ((d : Int) + 1)) * w 5 / 100 then bst w T G d j else FAR) (s + 1) (G - 1 - s).toNat := rfl
      rw [← hr] at a3
      have a3' : (if ln w (w 74 - 1 - ((d : Int) + 1)) * w 4 / 100 ≤ po T G (argm (fun j => if ln w (w 74 - 1 - ((d : Int) + 1)) * w 4 / 100 ≤ po T G j - po T G s ∧ po T G j - po T G s ≤ ln w (w 74 - 1 - ((d : Int) + 1)) * w 5 / 100 then bst w T G d j else FAR) (s + 1) (G - 1 - s).toNat) - po T G s ∧ po T G (argm (fun j => if ln w (w 74 - 1 - ((d : Int) + 1)) * w 4 / 100 ≤ po T G j - po T G s ∧ po T G j - po T G s ≤ ln w (w 74 - 1 - ((d : Int) + 1)) * w 5 / 100 then bst w T G d j else FAR) (s + 1) (G - 1 - s).toNat) - po T G s ≤ ln w (w 74 - 1 - ((d : Int) + 1)) * w 5 / 100 then bst w T G d (argm (fun j => if ln w (w 74 - 1 - ((d : Int) + 1)) * w 4 / 100 ≤ po T G j - po T G s ∧ po T G j - po T G s ≤ ln w (w 74 - 1 - ((d : Int) + 1)) * w 5 / 100 then bst w T G d j else FAR) (s + 1) (G - 1 - s).toNat) else FAR) = raw_ w T G (w 74 - 1 - ((d : Int) + 1)) (bst w T G d) s := a3
      revert a1 a2 a3'
      generalize argm (fun j => if ln w (w 74 - 1 - ((d : Int) + 1)) * w 4 / 100 ≤ po T G j - po T G s ∧ po T G j - po T G s ≤ ln w (w 74 - 1 - ((d : Int) + 1)) * w 5 / 100 then bst w T G d j else FAR) (s + 1) (G - 1 - s).toNat = jm
      intro a1 a2 a3'
      split at a3'
      · rcases bst_in h hT hG d jm (by omega) (by omega) (by omega) with z | z
        · rw [z] at a3'; exact absurd a3'.symm q
        · rw [a3'] at z
          refine Or.inr ⟨by omega, ?_⟩
          rw [show (((d + 1 : Nat) : Int) + 1) * 12800000 = ((d : Int) + 1) * 12800000 + 12800000 by omega]
          omega
      · exact absurd a3'.symm q
/-- no room for the marks behind: no way -/
theorem bst_out {w : Int → Int} {T G : Int} : ∀ (d : Nat) (s : Int), G - 1 - (d : Int) < s → 1 ≤ d → bst w T G d s = FAR
  | 0, s, _, h => absurd h (by decide)
  | d + 1, s, h, _ => by
    unfold bst own_
    rw [if_pos]
    refine mnf_far _ (fun j h0 h1 => ?_)
    show FAR ≤ if _ then bst w T G d j else FAR
    split
    · rw [bst_out d j (by omega) (by
        rcases Nat.eq_zero_or_pos d with q | q
        · subst q; omega
        · exact q)]
      exact Int.le_refl _
    · exact Int.le_refl _
/-- the step of a mark -/
def stq (w : Int → Int) (T G : Int) : Nat → Int
  | 0 => 0
  | m + 1 => argm (fun j => if ln w (m : Int) * w 4 / 100 ≤ po T G j - po T G (stq w T G m) ∧ po T G j - po T G (stq w T G m) ≤ ln w (m : Int) * w 5 / 100 then bst w T G (w 74 - 2 - (m : Int)).toNat j else FAR) (stq w T G m + 1) (G - 1 - stq w T G m).toNat
def stp (w : Int → Int) (T G : Int) (k : Int) : Int := if k < w 74 then stq w T G k.toNat else G
def gbu (w : Int → Int) (T G : Int) : Int → Int := fun k => po T G (stp w T G (k + 1)) - po T G (stp w T G k)
def can_ (w : Int → Int) (T G : Int) : Prop := bst w T G (w 74 - 1).toNat 0 ≠ FAR
/-- along the steps that are taken there is always a way -/
theorem stq_ok {w : Int → Int} (h : Inv w) {T G : Int} (hT : 0 ≤ T ∧ T ≤ 200000) (hG : 1 ≤ G) (hc : can_ w T G) : ∀ m : Nat, (m : Int) < w 74 → (m : Int) ≤ stq w T G m ∧ stq w T G m < G ∧ bst w T G (w 74 - 1 - (m : Int)).toNat (stq w T G m) < FAR
  | 0, hm => by
    have hle : bst w T G (w 74 - 1).toNat 0 ≤ FAR := by
      rcases bst_in h hT hG (w 74 - 1).toNat 0 (by omega) (by omega) (by omega) with q | q
      · omega
      · have hb := h.1
        have : (((w 74 - 1).toNat : Nat) : Int) + 1 ≤ 16 := by omega
        unfold FAR
        omega
    unfold can_ at hc
    rw [show w 74 - 1 - ((0 : Nat) : Int) = w 74 - 1 by omega]
    exact ⟨by unfold stq; omega, by unfold stq; omega, by unfold stq; omega⟩
  | m + 1, hm => by
    obtain ⟨h1, h2, h3⟩ := stq_ok h hT hG hc m (by omega)
    have hb := h.1
    have e1 : (w 74 - 1 - (m : Int)).toNat = (w 74 - 2 - (m : Int)).toNat + 1 := by omega
    have e2 : w 74 - 1 - ((((w 74 - 2 - (m : Int)).toNat : Nat) : Int) + 1) = (m : Int) := by omega
    rw [e1] at h3
    unfold bst own_ at h3
    rw [e2] at h3
    by_cases q : raw_ w T G (m : Int) (bst w T G (w 74 - 2 - (m : Int)).toNat) (stq w T G m) = FAR
    · rw [if_pos q] at h3; exact absurd h3 (Int.lt_irrefl _)
    · have hle : raw_ w T G (m : Int) (bst w T G (w 74 - 2 - (m : Int)).toNat) (stq w T G m) ≤ FAR := mnf_le _ _ _
      have hlt : raw_ w T G (m : Int) (bst w T G (w 74 - 2 - (m : Int)).toNat) (stq w T G m) < FAR := by omega
      obtain ⟨a1, a2, a3, -⟩ := argm_ok _ _ _ hlt
      have hst : stq w T G (m + 1) = argm (fun j => if ln w (m : Int) * w 4 / 100 ≤ po T G j - po T G (stq w T G m) ∧ po T G j - po T G (stq w T G m) ≤ ln w (m : Int) * w 5 / 100 then bst w T G (w 74 - 2 - (m : Int)).toNat j else FAR) (stq w T G m + 1) (G - 1 - stq w T G m).toNat := rfl
      rw [← hst] at a1 a2 a3
      refine ⟨by omega, by omega, ?_⟩
      rw [show w 74 - 1 - ((m + 1 : Nat) : Int) = w 74 - 2 - (m : Int) by omega]
      have hlt2 : mnf (fun j => if ln w (m : Int) * w 4 / 100 ≤ po T G j - po T G (stq w T G m) ∧ po T G j - po T G (stq w T G m) ≤ ln w (m : Int) * w 5 / 100 then bst w T G (w 74 - 2 - (m : Int)).toNat j else FAR) (stq w T G m + 1) (G - 1 - stq w T G m).toNat < FAR := hlt
      rw [← a3] at hlt2
      by_cases q2 : ln w (m : Int) * w 4 / 100 ≤ po T G (stq w T G (m + 1)) - po T G (stq w T G m) ∧ po T G (stq w T G (m + 1)) - po T G (stq w T G m) ≤ ln w (m : Int) * w 5 / 100
      · simp only [if_pos q2] at hlt2
        exact hlt2
      · simp only [if_neg q2] at hlt2
        exact absurd hlt2 (Int.lt_irrefl _)
/-- the step that is taken next: it fits, it is on the least way, and none before it is -/
theorem stq_next {w : Int → Int} (h : Inv w) {T G : Int} (hT : 0 ≤ T ∧ T ≤ 200000) (hG : 1 ≤ G) (hc : can_ w T G) (m : Nat) (hm : (m : Int) + 1 < w 74) :
    stq w T G m < stq w T G (m + 1) ∧ fits_ w (m : Int) (po T G (stq w T G (m + 1)) - po T G (stq w T G m)) ∧ bst w T G (w 74 - 2 - (m : Int)).toNat (stq w T G (m + 1)) = raw_ w T G (m : Int) (bst w T G (w 74 - 2 - (m : Int)).toNat) (stq w T G m) ∧
    bst w T G (w 74 - 1 - (m : Int)).toNat (stq w T G m) = raw_ w T G (m : Int) (bst w T G (w 74 - 2 - (m : Int)).toNat) (stq w T G m) + of_ w T G (m : Int) (stq w T G m) ∧
    (∀ j, stq w T G m < j → j < stq w T G (m + 1) → ¬ (fits_ w (m : Int) (po T G j - po T G (stq w T G m)) ∧ bst w T G (w 74 - 2 - (m : Int)).toNat j ≤ raw_ w T G (m : Int) (bst w T G (w 74 - 2 - (m : Int)).toNat) (stq w T G m))) := by
  obtain ⟨h1, h2, h3⟩ := stq_ok h hT hG hc m (by omega)
  have hb := h.1
  have e1 : (w 74 - 1 - (m : Int)).toNat = (w 74 - 2 - (m : Int)).toNat + 1 := by omega
  have e2 : w 74 - 1 - ((((w 74 - 2 - (m : Int)).toNat : Nat) : Int) + 1) = (m : Int) := by omega
  rw [e1] at h3 ⊢
  have hu : bst w T G ((w 74 - 2 - (m : Int)).toNat + 1) (stq w T G m) = own_ w T G (m : Int) (stq w T G m) (raw_ w T G (m : Int) (bst w T G (w 74 - 2 - (m : Int)).toNat) (stq w T G m)) := by
    show own_ w T G (w 74 - 1 - ((((w 74 - 2 - (m : Int)).toNat : Nat) : Int) + 1)) _ (raw_ w T G (w 74 - 1 - ((((w 74 - 2 - (m : Int)).toNat : Nat) : Int) + 1)) _ _) = _
    rw [e2]
  rw [hu] at h3 ⊢
  unfold own_ at h3 ⊢
  by_cases q : raw_ w T G (m : Int) (bst w T G (w 74 - 2 - (m : Int)).toNat) (stq w T G m) = FAR
  · rw [if_pos q] at h3; exact absurd h3 (Int.lt_irrefl _)
  · have hle : raw_ w T G (m : Int) (bst w T G (w 74 - 2 - (m : Int)).toNat) (stq w T G m) ≤ FAR := mnf_le _ _ _
    have hlt : raw_ w T G (m : Int) (bst w T G (w 74 - 2 - (m : Int)).toNat) (stq w T G m) < FAR := by omega
    obtain ⟨a1, a2, a3, a4⟩ := argm_ok _ _ _ hlt
    have hst : stq w T G (m + 1) = argm (fun j => if ln w (m : Int) * w 4 / 100 ≤ po T G j - po T G (stq w T G m) ∧ po T G j - po T G (stq w T G m) ≤ ln w (m : Int) * w 5 / 100 then bst w T G (w 74 - 2 - (m : Int)).toNat j else FAR) (stq w T G m + 1) (G - 1 - stq w T G m).toNat := rfl
    rw [← hst] at a1 a2 a3 a4
    have a3' : (if ln w (m : Int) * w 4 / 100 ≤ po T G (stq w T G (m + 1)) - po T G (stq w T G m) ∧ po T G (stq w T G (m + 1)) - po T G (stq w T G m) ≤ ln w (m : Int) * w 5 / 100 then bst w T G (w 74 - 2 - (m : Int)).toNat (stq w T G (m + 1)) else FAR) = raw_ w T G (m : Int) (bst w T G (w 74 - 2 - (m : Int)).toNat) (stq w T G m) := a3
    by_cases q2 : ln w (m : Int) * w 4 / 100 ≤ po T G (stq w T G (m + 1)) - po T G (stq w T G m) ∧ po T G (stq w T G (m + 1)) - po T G (stq w T G m) ≤ ln w (m : Int) * w 5 / 100
    · rw [if_pos q2] at a3'
      refine ⟨by omega, q2, a3', by rw [if_neg q], fun j j0 j1 z => ?_⟩
      have := a4 j (by omega) j1
      have e : (if ln w (m : Int) * w 4 / 100 ≤ po T G j - po T G (stq w T G m) ∧ po T G j - po T G (stq w T G m) ≤ ln w (m : Int) * w 5 / 100 then bst w T G (w 74 - 2 - (m : Int)).toNat j else FAR) = bst w T G (w 74 - 2 - (m : Int)).toNat j := if_pos z.1
      have z2 := z.2
      have h5 : raw_ w T G (m : Int) (bst w T G (w 74 - 2 - (m : Int)).toNat) (stq w T G m) < (if ln w (m : Int) * w 4 / 100 ≤ po T G j - po T G (stq w T G m) ∧ po T G j - po T G (stq w T G m) ≤ ln w (m : Int) * w 5 / 100 then bst w T G (w 74 - 2 - (m : Int)).toNat j else FAR) := this
      rw [e] at h5
      omega
    · rw [if_neg q2] at a3'
      exact absurd a3'.symm q
theorem stp_in {w : Int → Int} (h : Inv w) {T G : Int} (hT : 0 ≤ T ∧ T ≤ 200000) (hG : 1 ≤ G) (hc : can_ w T G) {k : Int} (h0 : 0 ≤ k) : 0 ≤ stp w T G k ∧ stp w T G k ≤ G := by
  unfold stp
  split
  · have := stq_ok h hT hG hc k.toNat (by omega); omega
  · omega
theorem stp_lt {w : Int → Int} (h : Inv w) {T G : Int} (hT : 0 ≤ T ∧ T ≤ 200000) (hG : 1 ≤ G) (hc : can_ w T G) {k : Int} (h0 : 0 ≤ k) (h1 : k < w 74) : stp w T G k < stp w T G (k + 1) := by
  unfold stp
  rw [if_pos h1]
  split
  · have := (stq_next h hT hG hc k.toNat (by omega)).1
    rw [show (k + 1).toNat = k.toNat + 1 by omega]
    exact this
  · exact (stq_ok h hT hG hc k.toNat (by omega)).2.1
theorem gbu_in {w : Int → Int} (h : Inv w) {T G : Int} (hT : 0 ≤ T ∧ T ≤ 200000) (hG : 1 ≤ G) (hc : can_ w T G) {k : Int} (h0 : 0 ≤ k) (h1 : k < w 74) : 0 ≤ gbu w T G k ∧ gbu w T G k ≤ T := by
  have a := stp_in h hT hG hc h0
  have b := stp_in h hT hG hc (k := k + 1) (by omega)
  have c := stp_lt h hT hG hc h0 h1
  have p1 := po_in hT hG a
  have p2 := po_in hT hG b
  have p3 := po_mono (T := T) (G := G) hT.1 hG (Int.le_of_lt c)
  unfold gbu
  omega
theorem gbu_sum {w : Int → Int} (h : Inv w) {T G : Int} (hG : 1 ≤ G) : sumN (gbu w T G) (w 74).toNat = T := by
  have hb := h.1
  have e : sumN (gbu w T G) (w 74).toNat = po T G (stp w T G (((w 74).toNat : Nat) : Int)) - po T G (stp w T G 0) := sumN_tel (fun z => po T G (stp w T G z)) (w 74).toNat
  rw [e]
  have e1 : stp w T G (((w 74).toNat : Nat) : Int) = G := by unfold stp; exact if_neg (by omega)
  have e2 : stp w T G 0 = 0 := by unfold stp; rw [if_pos (by omega)]; rfl
  rw [e1, e2]
  unfold po
  rw [Int.mul_ediv_cancel_left _ (by omega), Int.zero_mul, Int.zero_ediv]
  omega
