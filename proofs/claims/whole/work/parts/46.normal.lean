/-! a state with one mark: the order behind the first place counts for nothing: the program has zeros there at its start, the reference the places; fx, fxb, Nx: such a state, a row of states, the program's numbers with the places written there -/
def fx (w : Int → Int) : Int → Int := fun k => if w 74 = 1 ∧ 92 ≤ k ∧ k ≤ 106 then k - 91 else w k
def fxb (f : Int → Int) : Int → Int := fun k => if f (107 * (k / 107) + 74) = 1 ∧ 92 ≤ k % 107 then k % 107 - 91 else f k
def Nx (σ : Nat → Int → Int) : Nat → Int → Int := fun c => if c = 0 then fx (σ 0) else if c = 1 then fxb (σ 1) else if c = 9 then fxb (σ 9) else σ c
theorem fx_o (w : Int → Int) {k : Int} (h : k < 92 ∨ 106 < k) : fx w k = w k := if_neg (by omega)
theorem fx_p {w : Int → Int} {k : Int} (h : w 74 = 1 ∧ 92 ≤ k ∧ k ≤ 106) : fx w k = k - 91 := if_pos h
theorem fx_n {w : Int → Int} {k : Int} (h : ¬ (w 74 = 1 ∧ 92 ≤ k ∧ k ≤ 106)) : fx w k = w k := if_neg h
theorem fxb_p {f : Int → Int} {k : Int} (h : f (107 * (k / 107) + 74) = 1 ∧ 92 ≤ k % 107) : fxb f k = k % 107 - 91 := if_pos h
theorem fxb_n {f : Int → Int} {k : Int} (h : ¬ (f (107 * (k / 107) + 74) = 1 ∧ 92 ≤ k % 107)) : fxb f k = f k := if_neg h
theorem fx_of {w : Int → Int} (h : w 74 ≠ 1) : fx w = w := funext fun k => if_neg (fun q => h q.1)
theorem fx_id {w : Int → Int} (h : ∀ k, 92 ≤ k → k ≤ 106 → w k = k - 91) : fx w = w := funext fun k => by
  unfold fx
  by_cases q : w 74 = 1 ∧ 92 ≤ k ∧ k ≤ 106
  · rw [if_pos q]; exact (h k q.2.1 q.2.2).symm
  · rw [if_neg q]
theorem fx_91 (w : Int → Int) {k : Int} (h0 : 0 ≤ k) (h1 : k < w 74) : fx w (91 + k) = w (91 + k) := if_neg (by omega)
theorem fx_75 (w : Int → Int) {k : Int} (h1 : k < w 74) : fx w (75 + k) = w (75 + k) := if_neg (by omega)
theorem fr_fx (w : Int → Int) : fr (fx w) = fr w := funext fun k => by
  unfold fr
  rw [fx_o w (k := 74) (by omega), fx_o w (k := 0) (by omega)]
  by_cases h : k < w 74
  · rw [if_pos h, if_pos h]; exact fx_75 w h
  · rw [if_neg h, if_neg h]
theorem ln_fx (w : Int → Int) : ln (fx w) = ln w := funext fun k => by
  unfold ln
  rw [fr_fx, fx_o w (k := 1) (by omega)]
theorem of_fx (w : Int → Int) : of_ (fx w) = of_ w := by
  funext T G m s
  unfold of_
  rw [fr_fx, fx_o w (k := 0) (by omega)]
theorem raw_fx (w : Int → Int) : raw_ (fx w) = raw_ w := by
  funext T G m nxt step
  unfold raw_
  rw [ln_fx, fx_o w (k := 4) (by omega), fx_o w (k := 5) (by omega)]
theorem own_fx (w : Int → Int) : own_ (fx w) = own_ w := by
  funext T G m step x
  unfold own_
  rw [of_fx]
theorem bst_fx (w : Int → Int) (T G : Int) : ∀ n : Nat, bst (fx w) T G n = bst w T G n
  | 0 => by
    funext step
    unfold bst
    rw [own_fx, ln_fx, fx_o w (k := 74) (by omega), fx_o w (k := 4) (by omega), fx_o w (k := 5) (by omega)]
  | d + 1 => by
    funext step
    unfold bst
    rw [own_fx, raw_fx, bst_fx w T G d, fx_o w (k := 74) (by omega)]
theorem stq_fx (w : Int → Int) (T G : Int) : ∀ n : Nat, stq (fx w) T G n = stq w T G n
  | 0 => rfl
  | m + 1 => by
    unfold stq
    rw [stq_fx w T G m, ln_fx, fx_o w (k := 74) (by omega), fx_o w (k := 4) (by omega), fx_o w (k := 5) (by omega), bst_fx]
theorem stp_fx (w : Int → Int) : stp (fx w) = stp w := by
  funext T G k
  unfold stp
  rw [fx_o w (k := 74) (by omega), stq_fx]
theorem gbu_fx (w : Int → Int) : gbu (fx w) = gbu w := by
  funext T G
  unfold gbu
  rw [stp_fx]
theorem can_fx (w : Int → Int) : can_ (fx w) = can_ w := by
  funext T G
  unfold can_
  rw [bst_fx, fx_o w (k := 74) (by omega)]
theorem b0_fx (w : Int → Int) : b0_ (fx w) = b0_ w := by
  unfold b0_
  rw [ln_fx, fx_o w (k := 6) (by omega), fx_o w (k := 0) (by omega), fx_o w (k := 1) (by omega)]
theorem rm_fx (w : Int → Int) : rm_ (fx w) = rm_ w := by
  unfold rm_
  rw [ln_fx, fx_o w (k := 6) (by omega), fx_o w (k := 0) (by omega), fx_o w (k := 1) (by omega)]
theorem left_fx (w : Int → Int) : left_ (fx w) = left_ w := by
  unfold left_
  rw [b0_fx, fx_o w (k := 6) (by omega), fx_o w (k := 74) (by omega)]
theorem rr_fx (w : Int → Int) : rr_ (fx w) = rr_ w := by
  funext sv
  unfold rr_
  rw [rm_fx]
theorem sv_fx (w : Int → Int) : ∀ n : Nat, sv_ (fx w) n = sv_ w n
  | 0 => rfl
  | n + 1 => by
    unfold sv_
    rw [sv_fx w n, rr_fx, fx_o w (k := 74) (by omega)]
theorem fbu_fx (w : Int → Int) : fbu (fx w) = fbu w := by
  unfold fbu
  rw [b0_fx, left_fx, sv_fx]
theorem lay_fx (w : Int → Int) : lay_ (fx w) = lay_ w := by
  unfold lay_
  rw [can_fx, fx_o w (k := 8) (by omega), fx_o w (k := 6) (by omega), fx_o w (k := 7) (by omega)]
theorem bud_fx (w : Int → Int) : bud (fx w) = bud w := by
  unfold bud
  rw [fbu_fx, gbu_fx, fx_o w (k := 8) (by omega), fx_o w (k := 6) (by omega), fx_o w (k := 7) (by omega)]
theorem bey_fx (w : Int → Int) : bey (fx w) = bey w := by
  funext b k
  unfold bey
  rw [ln_fx, fx_o w (k := 4) (by omega), fx_o w (k := 5) (by omega)]
theorem org_fx (w : Int → Int) : org (fx w) = org w := by
  funext b x j
  unfold org
  rw [ln_fx, fr_fx, fx_o w (k := 1) (by omega)]
theorem fad_fx (w b : Int → Int) {p : Int} (h0 : 0 ≤ p) (h1 : p < w 74) : fad (fx w) b p = fad w b p := by
  unfold fad
  have e := fx_91 w (k := if p + 1 < w 74 then p + 1 else 0) (by split <;> omega) (by split <;> omega)
  rw [fx_o w (k := 74) (by omega), fx_o w (k := 9) (by omega), fx_91 w h0 h1, e]
theorem Plc_fx (w : Int → Int) (x p : Int) : Plc (fx w) x p = Plc w x p := by
  unfold Plc
  rw [fx_o w (k := 74) (by omega)]
  refine propext ⟨fun h => ?_, fun h => ?_⟩
  · obtain ⟨a, b, c, d⟩ := h
    refine ⟨a, b, fun k k0 k1 => ?_, ?_⟩
    · have := c k k0 k1
      rw [fx_91 w k0 (by omega)] at this
      exact this
    · rw [fx_91 w a b] at d
      exact d
  · obtain ⟨a, b, c, d⟩ := h
    refine ⟨a, b, fun k k0 k1 => ?_, ?_⟩
    · rw [fx_91 w k0 (by omega)]
      exact c k k0 k1
    · rw [fx_91 w a b]
      exact d
theorem plcf_fx (w : Int → Int) (x : Int) : plcf (fx w) x = plcf w x := by
  unfold plcf
  rw [show (fun p => Plc (fx w) x p) = (fun p => Plc w x p) from funext fun p => Plc_fx w x p]
theorem par_fx (w : Int → Int) {p : Int} (h : p ≤ w 74) : par_ (fx w) p = par_ w p := by
  unfold par_
  rw [bud_fx]
  refine sumN_congr _ (fun k k0 k1 => ?_)
  show bud w (fx w (91 + k)) = bud w (w (91 + k))
  rw [fx_91 w k0 (by omega)]
theorem ldn_fx (w : Int → Int) (a : Int) : ∀ n : Nat, a + (n : Int) ≤ 80 → ldn (fx w) a n = ldn w a n
  | 0, _ => rfl
  | n + 1, h => by
    have e := ldn_fx w a n (by omega)
    have i := ldn_in w a n
    unfold ldn
    rw [e, fx_o w (k := 10 + ldn w a n) (by omega), fx_o w (k := 10 + (a + (n : Int) + 1)) (by omega)]
theorem fbn_fx (w : Int → Int) (t : Int) (b b' : Int → Int) (hb : ∀ k, k < 17 → b' k = b k) : ∀ n : Nat, (n : Int) ≤ 80 → (fbn (fx w) t b' n).1 = (fbn w t b n).1 ∧ ∀ k, k < 17 → (fbn (fx w) t b' n).2 k = (fbn w t b n).2 k
  | 0, _ => ⟨rfl, fun k hk => by
      rw [fbn_0, fbn_0]
      show ups b' 0 0 k = ups b 0 0 k
      unfold ups
      rw [hb k hk]⟩
  | n + 1, h => by
    obtain ⟨e1, e2⟩ := fbn_fx w t b b' hb n (by omega)
    obtain ⟨h1, h2, -⟩ := fbn_in w t b n
    have ec : ((fbn (fx w) t b' n).1 < 16 ∧ t ≤ fx w (10 + ((n : Int) + 1)) - fx w (10 + (n : Int)) ∧ fx w 3 ≤ (n : Int) + 1 - (fbn (fx w) t b' n).2 ((fbn (fx w) t b' n).1 - 1)) = ((fbn w t b n).1 < 16 ∧ t ≤ w (10 + ((n : Int) + 1)) - w (10 + (n : Int)) ∧ w 3 ≤ (n : Int) + 1 - (fbn w t b n).2 ((fbn w t b n).1 - 1)) := by
      rw [e1, fx_o w (k := 10 + ((n : Int) + 1)) (by omega), fx_o w (k := 10 + (n : Int)) (by omega), fx_o w (k := 3) (by omega), e2 ((fbn w t b n).1 - 1) (by omega)]
    by_cases c : (fbn w t b n).1 < 16 ∧ t ≤ w (10 + ((n : Int) + 1)) - w (10 + (n : Int)) ∧ w 3 ≤ (n : Int) + 1 - (fbn w t b n).2 ((fbn w t b n).1 - 1)
    · rw [fbn_y c, fbn_y (ec.mpr c)]
      refine ⟨congrArg (· + 1) e1, fun k hk => ?_⟩
      show ups (fbn (fx w) t b' n).2 (fbn (fx w) t b' n).1 ((n : Int) + 1) k = ups (fbn w t b n).2 (fbn w t b n).1 ((n : Int) + 1) k
      rw [e1]
      unfold ups
      rw [e2 k hk]
    · rw [fbn_n c, fbn_n (fun q => c (ec.mp q))]
      exact ⟨e1, e2⟩
theorem fnd_fx {w : Int → Int} (h : w 0 ≤ 64) (t : Int) : fnd (fx w) t = fnd w t := by
  unfold fnd
  rw [fx_o w (k := 0) (by omega)]
  exact (fbn_fx w t (fun k => w (75 + k)) (fun k => fx w (75 + k)) (fun k hk => fx_o w (by omega)) (w 0 - 1).toNat (by omega)).1
theorem spF_fx {w : Int → Int} (h : w 0 ≤ 64) : spF (fx w) = spF w := funext fun k => by
  unfold spF
  rw [fx_o w (k := 2) (by omega), fnd_fx h, fx_o w (k := 0) (by omega)]
  by_cases h1 : k = 74
  · rw [if_pos h1, if_pos h1]
  · rw [if_neg h1, if_neg h1]
    by_cases h2 : 75 ≤ k ∧ k < 91
    · rw [if_pos h2, if_pos h2]
      exact (fbn_fx w (w 2) (fun k => w (75 + k)) (fun k => fx w (75 + k)) (fun k hk => fx_o w (by omega)) (w 0 - 1).toNat (by omega)).2 (k - 75) (by omega)
    · rw [if_neg h2, if_neg h2]
      by_cases h3 : 91 ≤ k ∧ k < 107
      · rw [if_pos h3, if_pos h3]
      · rw [if_neg h3, if_neg h3]; exact fx_o w (by omega)
theorem fx_spF (w : Int → Int) : fx (spF w) = spF w := fx_id fun k h0 h1 => by
  unfold spF
  rw [if_neg (by omega), if_neg (by omega), if_pos (by omega)]
theorem fx_spc (w : Int → Int) (F : Int) : fx (spc w F) = spc w F := fx_id fun k h0 h1 => by
  unfold spc
  rw [if_neg (by omega), if_neg (by omega), if_neg (by omega), if_neg (by omega), if_pos (by omega)]
theorem spc_fx (w : Int → Int) (F : Int) : spc (fx w) F = spc w F := funext fun k => by
  unfold spc
  by_cases h : 91 ≤ k ∧ k < 107
  · rw [if_neg (by omega), if_neg (by omega), if_neg (by omega), if_neg (by omega), if_pos h, if_neg (by omega), if_neg (by omega), if_neg (by omega), if_neg (by omega), if_pos h]
  · rw [fx_o w (k := k) (by omega)]
theorem fx_spi {w : Int → Int} {n : Int} (f : Int) (h0 : 0 ≤ n) (h1 : n ≤ w 74) (h2 : w 74 < 16) : fx (spi w n f) = spi w n f := fx_id fun k k0 k1 => by
  unfold spi
  rw [if_neg (by omega), if_neg (by omega), if_neg (by omega), if_pos (by omega)]
theorem spi_fx {w : Int → Int} {n : Int} (f : Int) (h0 : 0 ≤ n) (h1 : n ≤ w 74) (h2 : w 74 < 16) : spi (fx w) n f = spi w n f := funext fun k => by
  unfold spi
  rw [fx_o w (k := 74) (by omega)]
  by_cases hk : k ≤ 91
  · rw [fx_o w (k := k - 1) (by omega), fx_o w (k := k) (by omega)]
  · by_cases h3 : 91 ≤ k ∧ k < 107
    · rw [if_neg (by omega), if_neg (by omega), if_neg (by omega), if_pos h3, if_neg (by omega), if_neg (by omega), if_neg (by omega), if_pos h3]
    · rw [if_neg (by omega), if_neg (by omega), if_neg (by omega), if_neg h3, if_neg (by omega), if_neg (by omega), if_neg (by omega), if_neg h3]
      exact fx_o w (by omega)
theorem fx_spr {w : Int → Int} {n : Int} (h0 : 1 ≤ n) (h1 : w 74 ≤ 16) : fx (spr w n) = spr w n := fx_id fun k k0 k1 => by
  unfold spr
  rw [if_neg (by omega), if_neg (by omega), if_pos (by omega)]
theorem fx_spM {w : Int → Int} {m : Int} (y : Int) (h0 : 0 ≤ m) (h1 : w 74 ≠ 1) : fx (spM w m y) = spM w m y := fx_of (by
  unfold spM
  rw [ups_n _ _ (by omega)]
  exact h1)
theorem spx_s (w : Int → Int) (x : Int) : spx w x x = w := funext fun k => by
  unfold spx ups
  by_cases q : k = 91 + x
  · rw [if_pos q, q]
  · rw [if_neg q, if_neg q]
theorem fx_spx {w : Int → Int} {x y : Int} (hx : 0 ≤ x ∧ x < w 74) (hy : 0 ≤ y ∧ y < w 74) : fx (spx w x y) = spx (fx w) x y := by
  by_cases h : w 74 = 1
  · have e1 : x = 0 := by omega
    have e2 : y = 0 := by omega
    rw [e1, e2, spx_s, spx_s]
  · rw [fx_of h]
    refine fx_of ?_
    unfold spx
    rw [ups_n _ _ (by omega), ups_n _ _ (by omega)]
    exact h
theorem spV_1 {w : Int → Int} (h : w 74 = 1) : spV w = w := funext fun k => by
  unfold spV
  by_cases q : 91 ≤ k ∧ k < 91 + w 74
  · rw [if_pos q]; exact congrArg w (by omega)
  · rw [if_neg q]
theorem fx_spV (w : Int → Int) : fx (spV w) = spV (fx w) := by
  by_cases h : w 74 = 1
  · rw [spV_1 h, spV_1 ((fx_o w (by omega)).trans h)]
  · rw [fx_of h]
    refine fx_of ?_
    unfold spV
    rw [if_neg (by omega)]
    exact h
theorem fx_spS {w : Int → Int} {x y : Int} (e : Int) (hx : 0 ≤ x) (hy : y ≤ 63) : fx (spS w x y e) = spS (fx w) x y e := funext fun k => by
  have h74 : spS w x y e 74 = w 74 := if_neg (by omega)
  by_cases q : w 74 = 1 ∧ 92 ≤ k ∧ k ≤ 106
  · rw [fx_p (by rw [h74]; exact q)]
    unfold spS
    rw [if_neg (by omega), fx_p q]
  · rw [fx_n (by rw [h74]; exact q)]
    unfold spS
    by_cases p : 10 + x ≤ k ∧ k ≤ 10 + y
    · rw [if_pos p, if_pos p]
    · rw [if_neg p, if_neg p, fx_n q]
theorem fx_ups {w : Int → Int} {x : Int} (v : Int) (h : 0 ≤ x ∧ x ≤ 8) : fx (ups w (1 + x) v) = ups (fx w) (1 + x) v := funext fun k => by
  have h74 : ups w (1 + x) v 74 = w 74 := ups_n _ _ (by omega)
  by_cases q : w 74 = 1 ∧ 92 ≤ k ∧ k ≤ 106
  · rw [fx_p (by rw [h74]; exact q)]
    unfold ups
    rw [if_neg (by omega), fx_p q]
  · rw [fx_n (by rw [h74]; exact q)]
    unfold ups
    by_cases p : k = 1 + x
    · rw [if_pos p, if_pos p]
    · rw [if_neg p, if_neg p, fx_n q]
theorem smE_fx {w : Int → Int} {x n : Int} (hx : x + n ≤ 64) : smE (fx w) x n = smE w x n := by
  unfold smE
  refine sumN_congr _ (fun k k0 k1 => ?_)
  show fx w (10 + (x + k)) = w (10 + (x + k))
  exact fx_o w (by omega)
theorem Bef_fx {w : Int → Int} {x p : Int} (h : Bef w x p) : Bef (fx w) x p := by
  obtain ⟨a, b, c, d⟩ := h
  refine ⟨a, by rw [fx_o w (k := 74) (by omega)]; exact b, fun k k0 k1 => ?_, fun q => ?_⟩
  · rw [fx_75 w (by omega)]; exact c k k0 k1
  · rw [fx_o w (k := 74) (by omega)] at q
    rw [fx_75 w q]; exact d q
theorem Inv_unfx {w : Int → Int} (h : Inv (fx w)) : Inv w := by
  obtain ⟨hB, hE, hM, hA, hP⟩ := h
  have o : ∀ k : Int, k < 92 → fx w k = w k := fun k hk => fx_o w (Or.inl hk)
  rw [o 0 (by omega), o 1 (by omega), o 2 (by omega), o 3 (by omega), o 4 (by omega), o 5 (by omega), o 6 (by omega), o 7 (by omega), o 8 (by omega), o 9 (by omega), o 74 (by omega), o 75 (by omega)] at hB
  rw [o 74 (by omega)] at hM hA
  rw [o 0 (by omega)] at hM
  refine ⟨hB, fun k k0 k1 => ?_, fun k k0 k1 => ?_, fun k k0 k1 => ?_, Perm_of hP (o 74 (by omega)) (fun k k0 k1 => ?_)⟩
  · have := hE k k0 k1
    rw [o (10 + k) (by omega)] at this
    exact this
  · have := hM k k0 k1
    rw [fx_75 w k1] at this
    exact this
  · have := hA k k0 k1
    rw [fx_75 w (by omega), fx_75 w k1] at this
    exact this
  · rw [o 74 (by omega)] at k1
    exact fx_91 w k0 k1
theorem fxb_at (f : Int → Int) (i : Int) {k : Int} (h0 : 0 ≤ k) (h1 : k < 92) : fxb f (107 * i + k) = f (107 * i + k) := if_neg (by omega)
theorem cpi_p {f w : Int → Int} {o k : Int} (h : o ≤ k ∧ k < o + 107) : cpi f w o k = w (k - o) := if_pos h
theorem cpi_n {f w : Int → Int} {o k : Int} (h : ¬ (o ≤ k ∧ k < o + 107)) : cpi f w o k = f k := if_neg h
theorem cpo_p {w f : Int → Int} {o k : Int} (h : 0 ≤ k ∧ k < 107) : cpo w f o k = f (o + k) := if_pos h
theorem cpo_n {w f : Int → Int} {o k : Int} (h : ¬ (0 ≤ k ∧ k < 107)) : cpo w f o k = w k := if_neg h
theorem fxb_cpi (f w : Int → Int) (i : Int) : fxb (cpi f w (107 * i)) = cpi (fxb f) (fx w) (107 * i) := funext fun k => by
  by_cases h : 107 * i ≤ k ∧ k < 107 * i + 107
  · have e : k / 107 = i := by omega
    have e2 : k % 107 = k - 107 * i := by omega
    have e3 : cpi f w (107 * i) (107 * (k / 107) + 74) = w 74 := by
      rw [e, cpi_p (by omega)]; exact congrArg w (by omega)
    rw [cpi_p h]
    by_cases q : w 74 = 1 ∧ 92 ≤ k - 107 * i
    · rw [fxb_p (by rw [e3, e2]; exact q), fx_p ⟨q.1, q.2, by omega⟩, e2]
    · rw [fxb_n (by rw [e3, e2]; exact q), cpi_p h, fx_n (fun z => q ⟨z.1, z.2.1⟩)]
  · have e3 : cpi f w (107 * i) (107 * (k / 107) + 74) = f (107 * (k / 107) + 74) := cpi_n (by omega)
    rw [cpi_n h]
    by_cases q : f (107 * (k / 107) + 74) = 1 ∧ 92 ≤ k % 107
    · rw [fxb_p (by rw [e3]; exact q), fxb_p q]
    · rw [fxb_n (by rw [e3]; exact q), cpi_n h, fxb_n q]
theorem fx_cpo (w f : Int → Int) (i : Int) : fx (cpo w f (107 * i)) = cpo (fx w) (fxb f) (107 * i) := funext fun k => by
  have e3 : cpo w f (107 * i) 74 = f (107 * i + 74) := cpo_p (by omega)
  by_cases h : 0 ≤ k ∧ k < 107
  · rw [cpo_p h]
    have e : (107 * i + k) / 107 = i := by omega
    have e2 : (107 * i + k) % 107 = k := by omega
    by_cases q : f (107 * i + 74) = 1 ∧ 92 ≤ k
    · rw [fx_p (by rw [e3]; exact ⟨q.1, q.2, by omega⟩), fxb_p (by rw [e, e2]; exact q), e2]
    · rw [fx_n (by rw [e3]; exact fun z => q ⟨z.1, z.2.1⟩), cpo_p h, fxb_n (by rw [e, e2]; exact q)]
  · rw [cpo_n h, fx_n (by omega), cpo_n h, fx_n (by omega)]
theorem XQ_nx {σ u : Nat → Int → Int} (h : XQ_ σ u) : XQ_ (Nx σ) (Nx u) := by
  obtain ⟨x0, x1, x2, x3, x4, x5⟩ := h
  exact ⟨congrArg fx x0, congrArg fxb x1, x2, x3, congrArg fxb x4, x5⟩
theorem XC_nx {σ u : Nat → Int → Int} {w w' : Int → Int} (h : XC_ σ u w) (e : fx w = w') : XC_ (Nx σ) (Nx u) w' := by
  subst e
  obtain ⟨x0, x1, x2, x3, x4, x5⟩ := h
  exact ⟨congrArg fx x0, (congrArg fxb x1).trans (fxb_cpi _ _ _), x2, x3, congrArg fxb x4, x5⟩
