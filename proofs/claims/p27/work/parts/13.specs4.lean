/-! the program's way to the least sums: windows of steps, -1 for no way -/
def fst_ (w : Int → Int) (G m : Int) : Int := if m < w 74 then m else G
def lst_ (w : Int → Int) (G m : Int) : Int := if m = 0 then 0 else G - (w 74 - m)
def cv_ (x : Int) : Int := if x = FAR then -1 else x
/-- b is the step with the least of S among lo .. hi of which F holds and S isn't -1, the first of several; -1 if there is none -/
def BN (S : Int → Int) (F : Int → Prop) (lo hi b : Int) : Prop :=
  (b = -1 ∧ ∀ j, lo ≤ j → j ≤ hi → F j → S j = -1) ∨ (lo ≤ b ∧ b ≤ hi ∧ F b ∧ S b ≠ -1 ∧ (∀ j, lo ≤ j → j ≤ hi → F j → S j ≠ -1 → S b ≤ S j) ∧ ∀ j, lo ≤ j → j < b → F j → S j ≠ -1 → S b < S j)
/-- the loop's grid is measured for the target T and the grid G -/
def Ms (σ : Nat → Int → Int) (T G : Int) : Prop := σ 21 0 = T ∧ σ 21 1 = G ∧ (∀ i, 0 ≤ i → i ≤ G → σ 14 i = po T G i) ∧ (∀ k, 0 ≤ k → k < σ 0 74 → σ 15 k = ln (σ 0) k * σ 0 4 / 100) ∧ ∀ k, 0 ≤ k → k < σ 0 74 → σ 16 k = ln (σ 0) k * σ 0 5 / 100
/-- the row of sums of the mark m is right -/
def Rw (w : Int → Int) (T G : Int) (f : Int → Int) (m : Int) : Prop := if m = w 74 then f (m * 33 + G) = 0 else ∀ j, m ≤ j → j ≤ lst_ w G m → f (m * 33 + j) = cv_ (bst w T G (w 74 - 1 - m).toNat j)
theorem cv_in {w : Int → Int} (h : Inv w) {T G : Int} (hT : 0 ≤ T ∧ T ≤ 200000) (hG : 1 ≤ G) {d : Nat} {s : Int} (hd : (d : Int) < w 74) (h0 : 0 ≤ s) (h1 : s < G) : -1 ≤ cv_ (bst w T G d s) ∧ cv_ (bst w T G d s) ≤ 204800000 ∧ (cv_ (bst w T G d s) = -1 ↔ bst w T G d s = FAR) ∧ (bst w T G d s ≠ FAR → cv_ (bst w T G d s) = bst w T G d s) := by
  have hb := h.1
  have h2 := bst_in h hT hG d s hd h0 h1
  unfold cv_
  rcases h2 with z | z
  · rw [if_pos z]
    exact ⟨by omega, by omega, ⟨fun _ => z, fun _ => rfl⟩, fun q => absurd z q⟩
  · have hd2 : ((d : Int) + 1) ≤ 16 := by omega
    have hf : FAR = 1152921504606846976 := rfl
    rw [if_neg (by omega)]
    exact ⟨by omega, by omega, ⟨fun q => by omega, fun q => by omega⟩, fun _ => rfl⟩
theorem lst_in {w : Int → Int} {G m : Int} (hm : 1 ≤ m) : lst_ w G m = G - (w 74 - m) := if_neg (by omega)
/-- the steps behind one, of a mark that isn't the last -/
theorem nx_in {w : Int → Int} (h : Inv w) {T G m s : Int} (hT : 0 ≤ T ∧ T ≤ 200000) (hG : 1 ≤ G ∧ G ≤ 32) (hm : 0 ≤ m ∧ m + 1 < w 74) (hs : m ≤ s ∧ s < G) {f : Int → Int} (hR : Rw w T G f (m + 1)) {b : Int}
    (hb : BN (fun j => f ((m + 1) * 33 + j)) (fun j => fits_ w m (po T G j - po T G s)) (max (s + 1) (fst_ w G (m + 1))) (lst_ w G (m + 1)) b) :
    (b = -1 ∧ raw_ w T G m (bst w T G (w 74 - 2 - m).toNat) s = FAR) ∨ (s < b ∧ b < G ∧ b ≤ lst_ w G (m + 1) ∧ raw_ w T G m (bst w T G (w 74 - 2 - m).toNat) s = f ((m + 1) * 33 + b) ∧ f ((m + 1) * 33 + b) < FAR ∧ 0 ≤ f ((m + 1) * 33 + b) ∧ bst w T G (w 74 - 2 - m).toNat b = f ((m + 1) * 33 + b) ∧
      b = argm (fun j => if ln w m * w 4 / 100 ≤ po T G j - po T G s ∧ po T G j - po T G s ≤ ln w m * w 5 / 100 then bst w T G (w 74 - 2 - m).toNat j else FAR) (s + 1) (G - 1 - s).toNat) := by
  have hi := h.1
  have e1 : fst_ w G (m + 1) = m + 1 := if_pos hm.2
  have e2 : lst_ w G (m + 1) = G - (w 74 - (m + 1)) := lst_in (by omega)
  have e3 : (w 74 - 1 - (m + 1)).toNat = (w 74 - 2 - m).toNat := by omega
  unfold Rw at hR
  rw [if_neg (by omega), e3] at hR
  rw [e1, show max (s + 1) (m + 1) = s + 1 by omega] at hb
  have hf : FAR = 1152921504606846976 := rfl
  have hcv : ∀ j, s + 1 ≤ j → j ≤ lst_ w G (m + 1) → f ((m + 1) * 33 + j) = cv_ (bst w T G (w 74 - 2 - m).toNat j) ∧ -1 ≤ cv_ (bst w T G (w 74 - 2 - m).toNat j) ∧ cv_ (bst w T G (w 74 - 2 - m).toNat j) ≤ 204800000 ∧ (cv_ (bst w T G (w 74 - 2 - m).toNat j) = -1 ↔ bst w T G (w 74 - 2 - m).toNat j = FAR) ∧ (bst w T G (w 74 - 2 - m).toNat j ≠ FAR → cv_ (bst w T G (w 74 - 2 - m).toNat j) = bst w T G (w 74 - 2 - m).toNat j) :=
    fun j h0 h1 => ⟨hR j (by omega) h1, cv_in h hT hG.1 (by omega) (by omega) (by omega)⟩
  have hout : ∀ j, lst_ w G (m + 1) < j → j < G → bst w T G (w 74 - 2 - m).toNat j = FAR := fun j h0 h1 => bst_out _ _ (by omega) (by omega)
  rcases hb with ⟨hb0, hb1⟩ | ⟨hb0, hb1, hb2, hb3, hb4, hb5⟩
  · refine Or.inl ⟨hb0, mnf_far _ (fun j h0 h1 => ?_)⟩
    show FAR ≤ if ln w m * w 4 / 100 ≤ po T G j - po T G s ∧ po T G j - po T G s ≤ ln w m * w 5 / 100 then bst w T G (w 74 - 2 - m).toNat j else FAR
    split
    · rename_i hfit
      rcases Int.lt_or_le (lst_ w G (m + 1)) j with q | q
      · rw [hout j q (by omega)]; exact Int.le_refl _
      · have z := hb1 j h0 q hfit
        have c := hcv j h0 q
        have z2 : f ((m + 1) * 33 + j) = -1 := z
        rw [c.1] at z2
        rw [c.2.2.2.1.mp z2]; exact Int.le_refl _
    · exact Int.le_refl _
  · have cb := hcv b hb0 hb1
    have hb3' : f ((m + 1) * 33 + b) ≠ -1 := hb3
    have hnf : bst w T G (w 74 - 2 - m).toNat b ≠ FAR := fun q => hb3' (by rw [cb.1]; exact cb.2.2.2.1.mpr q)
    have heq : f ((m + 1) * 33 + b) = bst w T G (w 74 - 2 - m).toNat b := cb.1.trans (cb.2.2.2.2 hnf)
    have hgb : (if ln w m * w 4 / 100 ≤ po T G b - po T G s ∧ po T G b - po T G s ≤ ln w m * w 5 / 100 then bst w T G (w 74 - 2 - m).toNat b else FAR) = f ((m + 1) * 33 + b) := (if_pos hb2).trans heq.symm
    have hle := mnf_lo (fun j => if ln w m * w 4 / 100 ≤ po T G j - po T G s ∧ po T G j - po T G s ≤ ln w m * w 5 / 100 then bst w T G (w 74 - 2 - m).toNat j else FAR) (s + 1) (G - 1 - s).toNat b (by omega) (by omega)
    have hle' : raw_ w T G m (bst w T G (w 74 - 2 - m).toNat) s ≤ f ((m + 1) * 33 + b) := by rw [← hgb]; exact hle
    have hlt : raw_ w T G m (bst w T G (w 74 - 2 - m).toNat) s < FAR := by omega
    obtain ⟨a1, a2, a3, a4⟩ := argm_ok _ _ _ (show mnf (fun j => if ln w m * w 4 / 100 ≤ po T G j - po T G s ∧ po T G j - po T G s ≤ ln w m * w 5 / 100 then bst w T G (w 74 - 2 - m).toNat j else FAR) (s + 1) (G - 1 - s).toNat < FAR from hlt)
    have a3' : (if ln w m * w 4 / 100 ≤ po T G (argm (fun j => if ln w m * w 4 / 100 ≤ po T G j - po T G s ∧ po T G j - po T G s ≤ ln w m * w 5 / 100 then bst w T G (w 74 - 2 - m).toNat j else FAR) (s + 1) (G - 1 - s).toNat) - po T G s ∧ po T G (argm (fun j => if ln w m * w 4 / 100 ≤ po T G j - po T G s ∧ po T G j - po T G s ≤ ln w m * w 5 / 100 then bst w T G (w 74 - 2 - m).toNat j else FAR) (s + 1) (G - 1 - s).toNat) - po T G s ≤ ln w m * w 5 / 100 then bst w T G (w 74 - 2 - m).toNat (argm (fun j => if ln w m * w 4 / 100 ≤ po T G j - po T G s ∧ po T G j - po T G s ≤ ln w m * w 5 / 100 then bst w T G (w 74 - 2 - m).toNat j else FAR) (s + 1) (G - 1 - s).toNat) else FAR) = raw_ w T G m (bst w T G (w 74 - 2 - m).toNat) s := a3
    have a4' : ∀ j, s + 1 ≤ j → j < argm (fun j => if ln w m * w 4 / 100 ≤ po T G j - po T G s ∧ po T G j - po T G s ≤ ln w m * w 5 / 100 then bst w T G (w 74 - 2 - m).toNat j else FAR) (s + 1) (G - 1 - s).toNat → raw_ w T G m (bst w T G (w 74 - 2 - m).toNat) s < if ln w m * w 4 / 100 ≤ po T G j - po T G s ∧ po T G j - po T G s ≤ ln w m * w 5 / 100 then bst w T G (w 74 - 2 - m).toNat j else FAR := a4
    revert a1 a2 a3' a4'
    generalize argm (fun j => if ln w m * w 4 / 100 ≤ po T G j - po T G s ∧ po T G j - po T G s ≤ ln w m * w 5 / 100 then bst w T G (w 74 - 2 - m).toNat j else FAR) (s + 1) (G - 1 - s).toNat = jm
    intro a1 a2 a3' a4'
    have hfit : ln w m * w 4 / 100 ≤ po T G jm - po T G s ∧ po T G jm - po T G s ≤ ln w m * w 5 / 100 := by
      apply Classical.byContradiction
      intro hn
      rw [if_neg hn] at a3'
      omega
    rw [if_pos hfit] at a3'
    have hjl : jm ≤ lst_ w G (m + 1) := by
      rcases Int.lt_or_le (lst_ w G (m + 1)) jm with q | q
      · rw [hout jm q (by omega)] at a3'; omega
      · exact q
    have cj := hcv jm a1 hjl
    have hjn : bst w T G (w 74 - 2 - m).toNat jm ≠ FAR := by omega
    have hje : f ((m + 1) * 33 + jm) = bst w T G (w 74 - 2 - m).toNat jm := cj.1.trans (cj.2.2.2.2 hjn)
    have hj1 : f ((m + 1) * 33 + jm) ≠ -1 := by rw [cj.1]; exact fun q => hjn (cj.2.2.2.1.mp q)
    have hmin : f ((m + 1) * 33 + b) ≤ f ((m + 1) * 33 + jm) := hb4 jm a1 hjl hfit hj1
    have hraw : raw_ w T G m (bst w T G (w 74 - 2 - m).toNat) s = f ((m + 1) * 33 + b) := by omega
    refine Or.inr ⟨by omega, by omega, hb1, hraw, by omega, ?_, heq.symm, ?_⟩
    · rw [cb.1]; have := cb.2.1; have := fun q => hb3' (cb.1.trans q); omega
    · rcases Int.lt_trichotomy b jm with q | q | q
      · have := a4' b hb0 q
        rw [hgb] at this
        omega
      · exact q
      · have : f ((m + 1) * 33 + b) < f ((m + 1) * 33 + jm) := hb5 jm a1 q hfit hj1
        omega
/-- the end behind the last mark -/
theorem nx_last {w : Int → Int} (h : Inv w) {T G s : Int} (hG : 1 ≤ G ∧ G ≤ 32) (hs : 0 ≤ s ∧ s < G) {f : Int → Int} (hR : Rw w T G f (w 74)) {b : Int}
    (hb : BN (fun j => f ((w 74 - 1 + 1) * 33 + j)) (fun j => fits_ w (w 74 - 1) (po T G j - po T G s)) (max (s + 1) (fst_ w G (w 74 - 1 + 1))) (lst_ w G (w 74 - 1 + 1)) b) :
    (b = -1 ∧ ¬ fits_ w (w 74 - 1) (T - po T G s)) ∨ (b = G ∧ fits_ w (w 74 - 1) (T - po T G s) ∧ f ((w 74 - 1 + 1) * 33 + b) = 0) := by
  have hi := h.1
  have e0 : w 74 - 1 + 1 = w 74 := by omega
  have e1 : fst_ w G (w 74) = G := if_neg (by omega)
  have e2 : lst_ w G (w 74) = G := by rw [lst_in (by omega)]; omega
  have e3 : po T G G = T := by unfold po; exact Int.mul_ediv_cancel_left _ (by omega)
  unfold Rw at hR
  rw [if_pos rfl] at hR
  rw [e0, e1, e2, show max (s + 1) G = G by omega] at hb
  rw [e0]
  rcases hb with ⟨hb0, hb1⟩ | ⟨hb0, hb1, hb2, hb3, -, -⟩
  · refine Or.inl ⟨hb0, fun q => ?_⟩
    have := hb1 G (Int.le_refl _) (Int.le_refl _) (by show fits_ w (w 74 - 1) (po T G G - po T G s); rw [e3]; exact q)
    have h2 : f (w 74 * 33 + G) = -1 := this
    omega
  · have eb : b = G := by omega
    subst eb
    refine Or.inr ⟨rfl, ?_, hR⟩
    have : fits_ w (w 74 - 1) (po T b b - po T b s) := hb2
    rwa [e3] at this
/-- a mark without a way: none from the first mark on -/
theorem none_up {w : Int → Int} (h : Inv w) {T G : Int} : ∀ m : Nat, (m : Int) < w 74 → (∀ j, (m : Int) ≤ j → j < G → bst w T G (w 74 - 1 - (m : Int)).toNat j = FAR) → 1 ≤ G → bst w T G (w 74 - 1).toNat 0 = FAR
  | 0, hm, hz, hG => by
    have := hz 0 (by omega) (by omega)
    rwa [show w 74 - 1 - ((0 : Nat) : Int) = w 74 - 1 by omega] at this
  | m + 1, hm, hz, hG => by
    refine none_up h m (by omega) (fun j h0 h1 => ?_) hG
    have e1 : (w 74 - 1 - (m : Int)).toNat = (w 74 - 1 - ((m + 1 : Nat) : Int)).toNat + 1 := by omega
    rw [e1]
    unfold bst own_
    rw [if_pos]
    refine mnf_far _ (fun i i0 i1 => ?_)
    show FAR ≤ if _ then bst w T G (w 74 - 1 - ((m + 1 : Nat) : Int)).toNat i else FAR
    split
    · rw [hz i (by omega) (by omega)]; exact Int.le_refl _
    · exact Int.le_refl _
