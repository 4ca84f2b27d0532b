/-! the law: what the answers to its questions are; what lies behind a question is what was there ahead of it -/
theorem XQ_rf {σ : Nat → Int → Int} : XQ_ σ σ := ⟨rfl, rfl, rfl, rfl, rfl, rfl⟩
theorem XQ_tr {σ u t : Nat → Int → Int} (h : XQ_ σ u) (g : XQ_ u t) : XQ_ σ t := ⟨g.1.trans h.1, g.2.1.trans h.2.1, g.2.2.1.trans h.2.2.1, g.2.2.2.1.trans h.2.2.2.1, g.2.2.2.2.1.trans h.2.2.2.2.1, g.2.2.2.2.2.trans h.2.2.2.2.2⟩
theorem XQ_sy {σ u : Nat → Int → Int} (h : XQ_ σ u) : XQ_ u σ := ⟨h.1.symm, h.2.1.symm, h.2.2.1.symm, h.2.2.2.1.symm, h.2.2.2.2.1.symm, h.2.2.2.2.2.symm⟩
theorem XQ_I {σ u : Nat → Int → Int} (h : XQ_ σ u) (hI : Inv (σ 0)) : Inv (u 0) := by rw [h.1]; exact hI
theorem XQ_hs {σ u : Nat → Int → Int} (h : XQ_ σ u) (hs : (0 ≤ σ 12 0 ∧ σ 12 0 ≤ 7) ∧ (0 ≤ σ 12 1 ∧ σ 12 1 ≤ 8)) : (0 ≤ u 12 0 ∧ u 12 0 ≤ 7) ∧ (0 ≤ u 12 1 ∧ u 12 1 ≤ 8) := by rw [h.2.2.1, h.2.2.2.1]; exact hs
theorem XQ_fk {σ u : Nat → Int → Int} (h : XQ_ σ u) (hf : ∀ i, 0 ≤ i → i ≤ 1 → σ 11 i = 0 ∨ σ 11 i = 1) : ∀ i, 0 ≤ i → i ≤ 1 → u 11 i = 0 ∨ u 11 i = 1 := by rw [h.2.2.2.2.2]; exact hf
section TSL
variable {w : Int → Int} {z x v : Int}
theorem TD0 (h : TD_ w z 0 v) : v = w 0 := h.1 rfl
theorem TD1 (h : TD_ w z 1 v) : v = w 0 * w 1 := h.2.1 rfl
theorem TD2 (h : TD_ w z 2 v) : v = w 74 := h.2.2.1 rfl
theorem TD3 (h : TD_ w z 3 v) : (lay_ w ∧ v = 1) ∨ (¬ lay_ w ∧ v = 0) := (Classical.em (lay_ w)).elim (fun c => Or.inl ⟨c, (h.2.2.2.1 rfl).1 c⟩) (fun c => Or.inr ⟨c, (h.2.2.2.1 rfl).2 c⟩)
theorem TD4 (h : TD_ w z 4 v) (l : lay_ w) : v = sumN (bey w (bud w)) (w 74).toNat := (h.2.2.2.2.1 rfl).1 l
theorem TD4n (h : TD_ w z 4 v) (l : ¬ lay_ w) : v = -9 := (h.2.2.2.2.1 rfl).2 l
theorem TD5 (h : TD_ w z 5 v) (l : lay_ w) : v = sumN (fad w (bud w)) (w 74).toNat := (h.2.2.2.2.2.1 rfl).1 l
theorem TD5n (h : TD_ w z 5 v) (l : ¬ lay_ w) : v = -9 := (h.2.2.2.2.2.1 rfl).2 l
theorem SLb (h : SL_ w x 0 v) (hx : ¬ (0 ≤ x ∧ x < w 74)) : v = -1 := h.1 (fun q => hx q.1)
theorem SL0 (h : SL_ w x 0 v) (hx : 0 ≤ x ∧ x < w 74) : v = fr w x := (h.2 hx).1 rfl
theorem SL1 (h : SL_ w x 1 v) (hx : 0 ≤ x ∧ x < w 74) : v = ln w x := (h.2 hx).2.1 rfl
theorem SL2 (h : SL_ w x 2 v) (hx : 0 ≤ x ∧ x < w 74) (l : lay_ w) : v = bud w x := ((h.2 hx).2.2.1 rfl).1 l
theorem SL2n (h : SL_ w x 2 v) (hx : 0 ≤ x ∧ x < w 74) (l : ¬ lay_ w) : v = -9 := ((h.2 hx).2.2.1 rfl).2 l
theorem SL3 (h : SL_ w x 3 v) (hx : 0 ≤ x ∧ x < w 74) (l : lay_ w ∧ w 8 ≠ 0) : v = stp w (w 6) (w 7) x := ((h.2 hx).2.2.2.1 rfl).1 l
theorem SL3n (h : SL_ w x 3 v) (hx : 0 ≤ x ∧ x < w 74) (l : ¬ (lay_ w ∧ w 8 ≠ 0)) : v = -9 := ((h.2 hx).2.2.2.1 rfl).2 l
theorem SL4 (h : SL_ w x 4 v) (hx : 0 ≤ x ∧ x < w 74) (l : lay_ w) : v = par_ w (plcf w x) := ((h.2 hx).2.2.2.2.1 rfl).1 l
theorem SL5 (h : SL_ w x 5 v) (hx : 0 ≤ x ∧ x < w 74) : v = plcf w x := (h.2 hx).2.2.2.2.2.1 rfl
theorem SL6 (h : SL_ w x 6 v) (hx : 0 ≤ x ∧ x < w 74) (l : lay_ w) : v = fad w (bud w) (plcf w x) := ((h.2 hx).2.2.2.2.2.2.1 rfl).1 l
theorem SL7 (h : SL_ w x 7 v) (hx : 0 ≤ x ∧ x < w 74) : v = ldn w (fr w x) (fr w (x + 1) - fr w x - 1).toNat := (h.2 hx).2.2.2.2.2.2.2 rfl
end TSL
theorem Inv.at_ord {w : Int → Int} (h : Inv w) {p : Int} (hp : 0 ≤ p ∧ p < w 74) : 0 ≤ w (91 + p) ∧ w (91 + p) < w 74 := h.2.2.2.2.1 p hp.1 hp.2
theorem Inv.plc_ord {w : Int → Int} (h : Inv w) {p : Int} (hp : 0 ≤ p ∧ p < w 74) : plcf w (w (91 + p)) = p := plcf_eq (h.at_plc hp)
theorem Inv.ord_plc {w : Int → Int} (h : Inv w) {x : Int} (hx : 0 ≤ x ∧ x < w 74) : (0 ≤ plcf w x ∧ plcf w x < w 74) ∧ w (91 + plcf w x) = x := by
  obtain ⟨p, p0, p1, p2⟩ := h.plc hx
  have e := h.plc_ord ⟨p0, p1⟩
  rw [p2] at e
  rw [e]
  exact ⟨⟨p0, p1⟩, p2⟩
/-- the slices' numbers as bits -/
def bsN (w : Int → Int) : Nat → Nat
  | 0 => 0
  | n + 1 => bsN w n ||| 2 ^ (w (91 + (n : Int))).toNat
def bsI (w : Int → Int) (k : Int) : Int := ((bsN w k.toNat : Nat) : Int)
def p2I (k : Int) : Int := ((2 ^ k.toNat : Nat) : Int)
theorem shl_iI {x : Int} (hx : 0 ≤ x ∧ x ≤ 16) : iI 1 <<< (iI x &&& 31) = iI (p2I x) := by
  have h : x = 0 ∨ x = 1 ∨ x = 2 ∨ x = 3 ∨ x = 4 ∨ x = 5 ∨ x = 6 ∨ x = 7 ∨ x = 8 ∨ x = 9 ∨ x = 10 ∨ x = 11 ∨ x = 12 ∨ x = 13 ∨ x = 14 ∨ x = 15 ∨ x = 16 := by omega
  rcases h with rfl | rfl | rfl | rfl | rfl | rfl | rfl | rfl | rfl | rfl | rfl | rfl | rfl | rfl | rfl | rfl | rfl <;> decide
theorem or_iI (a b : Nat) : iI (a : Int) ||| iI (b : Int) = iI ((a ||| b : Nat) : Int) := by
  apply Int32.toBitVec_inj.mp
  rw [Int32.toBitVec_or]
  show BitVec.ofInt 32 (a : Int) ||| BitVec.ofInt 32 (b : Int) = BitVec.ofInt 32 ((a ||| b : Nat) : Int)
  rw [BitVec.ofInt_natCast, BitVec.ofInt_natCast, BitVec.ofInt_natCast]
  apply BitVec.eq_of_toNat_eq
  rw [BitVec.toNat_or, BitVec.toNat_ofNat, BitVec.toNat_ofNat, BitVec.toNat_ofNat]
  exact Nat.or_mod_two_pow.symm
theorem bs_step {w : Int → Int} (h : Inv w) {k : Int} (hk : 0 ≤ k ∧ k < w 74) : iI (bsI w k) ||| (iI 1 <<< (iI (w (91 + k)) &&& 31)) = iI (bsI w (k + 1)) := by
  have ho := h.at_ord hk
  have hb := h.1
  rw [shl_iI (by omega)]
  unfold bsI p2I
  rw [or_iI, show (k + 1).toNat = k.toNat + 1 by omega]
  show _ = iI ((bsN w k.toNat ||| 2 ^ (w (91 + (k.toNat : Int))).toNat : Nat) : Int)
  rw [show ((k.toNat : Nat) : Int) = k by omega]
theorem bsN_bit (w : Int → Int) (i : Nat) : ∀ n : Nat, (bsN w n).testBit i = true ↔ ∃ k : Int, 0 ≤ k ∧ k < (n : Int) ∧ (w (91 + k)).toNat = i
  | 0 => ⟨fun h => (by rw [show bsN w 0 = 0 from rfl, Nat.zero_testBit] at h; cases h), fun ⟨k, k0, k1, _⟩ => (by omega)⟩
  | n + 1 => by
    show (bsN w n ||| 2 ^ (w (91 + (n : Int))).toNat).testBit i = true ↔ _
    rw [Nat.testBit_or, Bool.or_eq_true, bsN_bit w i n, Nat.testBit_two_pow, decide_eq_true_iff]
    constructor
    · rintro (⟨k, k0, k1, k2⟩ | q)
      · exact ⟨k, k0, by omega, k2⟩
      · exact ⟨n, by omega, by omega, q⟩
    · rintro ⟨k, k0, k1, k2⟩
      by_cases q : k = (n : Int)
      · right; rw [← q]; exact k2
      · left; exact ⟨k, k0, by omega, k2⟩
theorem bs_all {w : Int → Int} (h : Inv w) : bsI w (w 74) = p2I (w 74) - 1 := by
  have hb := h.1
  have e : bsN w (w 74).toNat = 2 ^ (w 74).toNat - 1 := by
    apply Nat.eq_of_testBit_eq
    intro i
    rw [Nat.testBit_two_pow_sub_one]
    by_cases q : i < (w 74).toNat
    · rw [decide_eq_true q]
      obtain ⟨p, p0, p1, p2⟩ := h.plc (x := (i : Int)) (by omega)
      exact (bsN_bit w i _).mpr ⟨p, p0, by omega, by rw [p2]; omega⟩
    · rw [decide_eq_false q]
      apply Bool.eq_false_iff.mpr
      intro c
      obtain ⟨k, k0, k1, k2⟩ := (bsN_bit w i _).mp c
      have := h.at_ord (p := k) (by omega)
      omega
  have hp : 1 ≤ 2 ^ (w 74).toNat := Nat.one_le_two_pow
  unfold bsI p2I
  rw [e]
  omega
theorem p2I_in {k : Int} (h : 1 ≤ k ∧ k ≤ 16) : 2 ≤ p2I k ∧ p2I k ≤ 65536 := by
  have h : k = 1 ∨ k = 2 ∨ k = 3 ∨ k = 4 ∨ k = 5 ∨ k = 6 ∨ k = 7 ∨ k = 8 ∨ k = 9 ∨ k = 10 ∨ k = 11 ∨ k = 12 ∨ k = 13 ∨ k = 14 ∨ k = 15 ∨ k = 16 := by omega
  rcases h with rfl | rfl | rfl | rfl | rfl | rfl | rfl | rfl | rfl | rfl | rfl | rfl | rfl | rfl | rfl | rfl <;> decide
/-- the loudest frame -/
theorem ldn_max (w : Int → Int) (a : Int) : ∀ (n : Nat) (f : Int), a ≤ f → f ≤ a + (n : Int) → (f < ldn w a n → w (10 + f) < w (10 + ldn w a n)) ∧ w (10 + f) ≤ w (10 + ldn w a n)
  | 0, f, h1, h2 => by
    have e : f = a := by omega
    subst e
    exact ⟨fun q => absurd q (Int.lt_irrefl _), Int.le_refl _⟩
  | n + 1, f, h1, h2 => by
    have hin := ldn_in w a n
    by_cases c : w (10 + ldn w a n) < w (10 + (a + (n : Int) + 1))
    · have e : ldn w a (n + 1) = a + (n : Int) + 1 := if_pos c
      rw [e]
      by_cases q : f = a + (n : Int) + 1
      · rw [q]; exact ⟨fun z => absurd z (Int.lt_irrefl _), Int.le_refl _⟩
      · have := (ldn_max w a n f h1 (by omega)).2
        exact ⟨fun _ => by omega, by omega⟩
    · have e : ldn w a (n + 1) = ldn w a n := if_neg c
      rw [e]
      by_cases q : f = a + (n : Int) + 1
      · rw [q]; exact ⟨fun z => by omega, by omega⟩
      · exact ldn_max w a n f h1 (by omega)
/-- samples of the result -/
theorem par_0 (w : Int → Int) : par_ w 0 = 0 := rfl
theorem SR_at {w : Int → Int} (h : Inv w) (hl : lay_ w) {p x y v : Int} (hp : 0 ≤ p ∧ p < w 74) (hx : par_ w p ≤ x ∧ x < par_ w (p + 1)) (hy : 0 ≤ y ∧ y ≤ 2) (hr : SR_ w x y v) : (y = 0 → v = w (91 + p)) ∧ (y = 1 → v = org w (bud w) (w (91 + p)) (x - par_ w p)) ∧ (y = 2 → v = if bud w (w (91 + p)) - fad w (bud w) p ≤ x - par_ w p then 1 else 0) := by
  have h0 := par_mono h hl (p := 0) (q := p) (by omega) hp.1 (by omega)
  have h1 := par_mono h hl (p := p + 1) (q := w 74) (by omega) (by omega) (by omega)
  rw [par_0] at h0
  rw [par_end h] at h1
  obtain ⟨p', b1, ⟨b2, b3⟩, b4⟩ := (hr.2 ⟨by omega, hy⟩).2 hl
  have e : p' = p := by
    rcases Int.lt_trichotomy p' p with q | q | q
    · have := par_mono h hl (p := p' + 1) (q := p) (by omega) (by omega) (by omega)
      omega
    · exact q
    · have := par_mono h hl (p := p + 1) (q := p') (by omega) (by omega) (by omega)
      omega
  rw [e] at b4
  exact b4
theorem par_in {w : Int → Int} (h : Inv w) (hl : lay_ w) {p : Int} (hp : 0 ≤ p ∧ p ≤ w 74) : 0 ≤ par_ w p ∧ par_ w p ≤ w 6 := by
  have h0 := par_mono h hl (p := 0) (q := p) (by omega) hp.1 hp.2
  have h1 := par_mono h hl (p := p) (q := w 74) hp.1 hp.2 (by omega)
  rw [par_0] at h0
  rw [par_end h] at h1
  exact ⟨h0, h1⟩
theorem fad_in {w : Int → Int} (h : Inv w) (hl : lay_ w) {p : Int} (hp : 0 ≤ p ∧ p < w 74) : 0 ≤ fad w (bud w) p ∧ fad w (bud w) p ≤ 500 := by
  have hb := h.1
  have o1 := h.at_ord hp
  have o2 := h.at_ord (nxp_in hp)
  have b1 := bud_in h hl o1.1 o1.2
  have b2 := bud_in h hl o2.1 o2.2
  have e : fad w (bud w) p = min (w 9) (min (bud w (w (91 + p)) / 4) (bud w (w (91 + nxp w p)) / 4)) := rfl
  rw [e]
  omega
theorem bey_in (w b : Int → Int) (k : Int) : 0 ≤ bey w b k ∧ bey w b k ≤ 1 := by unfold bey; split <;> omega
theorem sum_01 {f : Int → Int} (hf : ∀ k, 0 ≤ f k ∧ f k ≤ 1) : ∀ n : Nat, 0 ≤ sumN f n ∧ sumN f n ≤ (n : Int)
  | 0 => ⟨Int.le_refl _, Int.le_refl _⟩
  | n + 1 => by
    have h1 := sum_01 hf n
    have h2 := hf (n : Int)
    show 0 ≤ sumN f n + f (n : Int) ∧ sumN f n + f (n : Int) ≤ ((n + 1 : Nat) : Int)
    omega
theorem sum_fad {w : Int → Int} (h : Inv w) (hl : lay_ w) : ∀ n : Nat, (n : Int) ≤ w 74 → 0 ≤ sumN (fad w (bud w)) n ∧ sumN (fad w (bud w)) n ≤ (n : Int) * 500
  | 0, _ => ⟨Int.le_refl _, Int.le_refl _⟩
  | n + 1, hn => by
    have h1 := sum_fad h hl n (by omega)
    have h2 := fad_in h hl (p := (n : Int)) (by omega)
    show 0 ≤ sumN (fad w (bud w)) n + fad w (bud w) (n : Int) ∧ sumN (fad w (bud w)) n + fad w (bud w) (n : Int) ≤ ((n + 1 : Nat) : Int) * 500
    omega
/-- beyond the limits, counted along the order -/
def bey_o (w : Int → Int) : Int → Int := fun q => bey w (bud w) (w (91 + q))
theorem bey_sum {w : Int → Int} (h : Inv w) : sumN (bey_o w) (w 74).toNat = sumN (bey w (bud w)) (w 74).toNat := h.2.2.2.2.2 (bey w (bud w))
theorem can_lay {w : Int → Int} (hl : lay_ w) (h8 : w 8 ≠ 0) : can_ w (w 6) (w 7) := hl.elim (fun q => absurd q h8) id
theorem gbu_fits {w : Int → Int} (h : Inv w) {T G : Int} (hT : 0 ≤ T ∧ T ≤ 200000) (hG : 1 ≤ G) (hc : can_ w T G) {k : Int} (hk : 0 ≤ k ∧ k < w 74) : fits_ w k (gbu w T G k) := by
  by_cases q : k + 1 < w 74
  · exact (stp_next h hT hG hc ⟨hk.1, q⟩).2.2.1
  · have e1 : stp w T G (k + 1) = G := if_neg (by omega)
    have e2 : stp w T G k = stq w T G k.toNat := if_pos hk.2
    have e3 : po T G G = T := by unfold po; rw [Int.mul_comm, Int.mul_ediv_cancel T (by omega)]
    have h3 := (stq_ok h hT hG hc k.toNat (by omega)).2.2
    rw [show ((k.toNat : Nat) : Int) = k by omega, bst_end (m := k) (by omega)] at h3
    unfold gbu
    rw [e1, e3, e2]
    unfold fits_
    by_cases c : ln w k * w 4 / 100 ≤ T - po T G (stq w T G k.toNat) ∧ T - po T G (stq w T G k.toNat) ≤ ln w k * w 5 / 100
    · exact c
    · rw [if_neg c] at h3
      unfold own_ at h3
      rw [if_pos rfl] at h3
      exact absurd h3 (Int.lt_irrefl _)
theorem bey_0 {w : Int → Int} (h : Inv w) (hl : lay_ w) (h8 : w 8 ≠ 0) {k : Int} (hk : 0 ≤ k ∧ k < w 74) : bey w (bud w) k = 0 := by
  have hb := h.1
  have f := gbu_fits h (T := w 6) (G := w 7) (by omega) (by omega) (can_lay hl h8) hk
  have e : bud w = gbu w (w 6) (w 7) := if_neg h8
  unfold fits_ at f
  unfold bey
  rw [e]
  exact if_neg (by omega)
theorem bey_all {w : Int → Int} (h : Inv w) (hl : lay_ w) (h8 : w 8 ≠ 0) : sumN (bey_o w) (w 74).toNat = 0 := by
  have hb := h.1
  exact sumN_0 _ _ (fun k k0 k1 => bey_0 h hl h8 (h.at_ord (by omega)))
/-- the least sum is that of the steps that are taken -/
def ofs (w : Int → Int) (T G : Int) : Int → Int := fun k => of_ w T G k (stp w T G k)
theorem ofs_go {w : Int → Int} (h : Inv w) {T G : Int} (hT : 0 ≤ T ∧ T ≤ 200000) (hG : 1 ≤ G) (hc : can_ w T G) : ∀ n : Nat, (n : Int) < w 74 → sumN (ofs w T G) n + bst w T G (w 74 - 1 - (n : Int)).toNat (stp w T G (n : Int)) = bst w T G (w 74 - 1).toNat 0
  | 0, hn => by
    show (0 : Int) + bst w T G (w 74 - 1 - ((0 : Nat) : Int)).toNat (stp w T G ((0 : Nat) : Int)) = _
    rw [Int.zero_add, show w 74 - 1 - ((0 : Nat) : Int) = w 74 - 1 by omega]
    have e : stp w T G ((0 : Nat) : Int) = 0 := if_pos hn
    rw [e]
  | n + 1, hn => by
    have ih := ofs_go h hT hG hc n (by omega)
    obtain ⟨-, -, -, a4, a5, -⟩ := stp_next h hT hG hc (k := (n : Int)) (by omega)
    rw [a5, ← a4] at ih
    show sumN (ofs w T G) n + of_ w T G (n : Int) (stp w T G (n : Int)) + _ = _
    rw [show w 74 - 1 - ((n + 1 : Nat) : Int) = w 74 - 2 - (n : Int) by omega, show ((n + 1 : Nat) : Int) = (n : Int) + 1 by omega, ← ih]
    omega
theorem ofs_all {w : Int → Int} (h : Inv w) {T G : Int} (hT : 0 ≤ T ∧ T ≤ 200000) (hG : 1 ≤ G) (hc : can_ w T G) : sumN (ofs w T G) (w 74).toNat = bst w T G (w 74 - 1).toNat 0 := by
  have hb := h.1
  obtain ⟨n, hn⟩ : ∃ n : Nat, (w 74).toNat = n + 1 := ⟨(w 74 - 1).toNat, by omega⟩
  have ih := ofs_go h hT hG hc n (by omega)
  have h3 := (stq_ok h hT hG hc n (by omega)).2.2
  have e2 : stp w T G (n : Int) = stq w T G n := if_pos (by omega)
  rw [← e2] at h3
  rw [bst_end (m := (n : Int)) (by omega)] at h3 ih
  rw [hn, ← ih]
  show sumN (ofs w T G) n + of_ w T G (n : Int) (stp w T G (n : Int)) = _
  by_cases c : ln w (n : Int) * w 4 / 100 ≤ T - po T G (stp w T G (n : Int)) ∧ T - po T G (stp w T G (n : Int)) ≤ ln w (n : Int) * w 5 / 100
  · rw [if_pos c]
    unfold own_
    rw [if_neg (show ¬ ((0 : Int) = FAR) by decide)]
    omega
  · rw [if_neg c] at h3
    unfold own_ at h3
    rw [if_pos rfl] at h3
    exact absurd h3 (Int.lt_irrefl _)
theorem ofs_in {w : Int → Int} (h : Inv w) {T G : Int} (hT : 0 ≤ T ∧ T ≤ 200000) (hG : 1 ≤ G) (hc : can_ w T G) {k : Int} (hk : 0 ≤ k) : 0 ≤ ofs w T G k ∧ ofs w T G k ≤ 12800000 := of_in h hT hG hk (stp_in h hT hG hc hk)
theorem bst_can {w : Int → Int} (h : Inv w) {T G : Int} (hT : 0 ≤ T ∧ T ≤ 200000) (hG : 1 ≤ G) : 0 ≤ bst w T G (w 74 - 1).toNat 0 ∧ (can_ w T G → bst w T G (w 74 - 1).toNat 0 ≤ 204800000) := by
  have hb := h.1
  have := bst_rng h hT hG (d := (w 74 - 1).toNat) (s := 0) (by omega) (by omega) (by omega)
  exact ⟨this.1, fun c => this.2.2.elim (fun q => absurd q c) id⟩
theorem LG_at {w : Int → Int} {v : Int} (hv : LG_ w v) (h7 : 1 ≤ w 7 ∧ w 7 ≤ 32) (hc : can_ w (w 6) (w 7)) : 1 ≤ v ∧ v ≤ w 7 := by
  rcases hv with ⟨a1, a2⟩ | ⟨a1, a2, a3, a4⟩
  · exact absurd hc (a2 _ h7.1 h7.2)
  · refine ⟨a1, ?_⟩
    rcases Int.lt_or_le (w 7) v with q | q
    · exact absurd hc (a4 _ h7.1 q)
    · exact q
theorem NT_at {w : Int → Int} {v : Int} (hv : NT_ w 0 v) (h6 : 1 ≤ w 6 ∧ w 6 ≤ 200000) (hc : can_ w (w 6) (w 7)) : v = w 6 := by
  have ok : okT w (w 6 - 0) := by rw [Int.sub_zero]; exact ⟨h6, hc⟩
  rcases hv with ⟨a1, a2⟩ | ⟨d, d0, d1, d2, d3⟩
  · exact absurd ok (a2 0 (by omega) (by omega)).1
  · have e : d = 0 := by omega
    subst e
    rcases d3 with ⟨f1, f2⟩ | ⟨f1, f2⟩
    · omega
    · exact absurd ok f1
theorem TF_at {w : Int → Int} {x v t : Int} (hv : TF_ w x v) (ht : 1 ≤ t ∧ t ≤ 999) (hx : x ≤ fnd w t) : t ≤ v ∧ v ≤ 999 ∧ x ≤ fnd w v := by
  rcases hv with ⟨a1, a2⟩ | ⟨a1, a2, a3, a4⟩
  · have := a2 t ht.1 ht.2; omega
  · refine ⟨?_, a2, a3⟩
    rcases Int.lt_or_le v t with q | q
    · have := a4 t q ht.2; omega
    · exact q
theorem fnd_16 (w : Int → Int) (t : Int) : 1 ≤ fnd w t ∧ fnd w t ≤ 16 := ⟨(fbn_in w t (fun k => w (75 + k)) (w 0 - 1).toNat).1, (fbn_in w t (fun k => w (75 + k)) (w 0 - 1).toNat).2.1⟩
/-- the law's own choice of a number -/
def lwv (v : Int32) : Int := (v &&& iI 2147483647).toInt
def lowF (v : Int32) (n : Int) : Int := lwv v % n
theorem lwv_in (v : Int32) : 0 ≤ lwv v ∧ lwv v < 2147483648 := by
  have h : (v &&& iI 2147483647).toBitVec.msb = false := by
    rw [Int32.toBitVec_and, BitVec.msb_and, show (iI 2147483647).toBitVec.msb = false from by decide, Bool.and_false]
  refine ⟨?_, (iI_rng _).2⟩
  show 0 ≤ (v &&& iI 2147483647).toBitVec.toInt
  rw [BitVec.toInt_eq_msb_cond, h]
  simp
theorem lowF_in (v : Int32) {n : Int} (h : 1 ≤ n) : 0 ≤ lowF v n ∧ lowF v n < n := ⟨Int.emod_nonneg _ (by omega), Int.emod_lt_of_pos _ (by omega)⟩
theorem fc_self {x : UInt32} (h : vf_n32 x) (o : CmpOp) : Op.cmpValue (FP.fcmp x x) o = 0 := Jvm.RoadKit.fcmpV_eq rfl h o
