/-! the program's answers and changes, told of the numbers with the places written behind one mark (wip/gen/nx.py) -/
theorem nx_CH {σ u : Nat → Int → Int} {C C' : Prop} {R R' E : Int} {W W' : Int → Int} {r : Int32} (eC : C' ↔ C) (eR : C → R' = R) (eW : C → fx W = W') (hx : (C → iI R = r ∧ XC_ σ u W) ∧ (¬ C → iI E = r ∧ XQ_ σ u)) : (C' → iI R' = r ∧ XC_ (Nx σ) (Nx u) W') ∧ (¬ C' → iI E = r ∧ XQ_ (Nx σ) (Nx u)) :=
  ⟨fun c => ⟨(congrArg iI (eR (eC.mp c))).trans (hx.1 (eC.mp c)).1, XC_nx (hx.1 (eC.mp c)).2 (eW (eC.mp c))⟩, fun c => ⟨(hx.2 (fun q => c (eC.mpr q))).1, XQ_nx (hx.2 (fun q => c (eC.mpr q))).2⟩⟩
theorem nx_QR {σ u : Nat → Int → Int} {C C' : Prop} {R R' E : Int} {r : Int32} (eC : C' ↔ C) (eR : C → R' = R) (hx : (C → iI R = r) ∧ (¬ C → iI E = r) ∧ XQ_ σ u) : (C' → iI R' = r) ∧ (¬ C' → iI E = r) ∧ XQ_ (Nx σ) (Nx u) :=
  ⟨fun c => (congrArg iI (eR (eC.mp c))).trans (hx.1 (eC.mp c)), fun c => hx.2.1 (fun q => c (eC.mpr q)), XQ_nx hx.2.2⟩
theorem fx74 (w : Int → Int) : fx w 74 = w 74 := fx_o w (by omega)
theorem fx0 (w : Int → Int) : fx w 0 = w 0 := fx_o w (by omega)
theorem sumf_fx (w : Int → Int) : sumN (fad (fx w) (bud w)) (w 74).toNat = sumN (fad w (bud w)) (w 74).toNat := sumN_congr _ (fun k k0 k1 => fad_fx w (bud w) k0 (by omega))
theorem TD_fx (w : Int → Int) (z x v : Int) : TD_ (fx w) z x v = TD_ w z x v := by
  unfold TD_
  rw [lay_fx, bey_fx, bud_fx, fx74, fx0, fx_o w (k := 1) (by omega), sumf_fx]
theorem SL_fx {w : Int → Int} (hI : Inv w) {x y v : Int} (h : SL_ w x y v) : SL_ (fx w) x y v := by
  unfold SL_ at h ⊢
  rw [lay_fx, bud_fx, fr_fx, ln_fx, stp_fx, plcf_fx, fx74, fx_o w (k := 6) (by omega), fx_o w (k := 7) (by omega), fx_o w (k := 8) (by omega)]
  by_cases c : 0 ≤ x ∧ x < w 74
  · obtain ⟨p, pa, pb, pc⟩ := hI.plc c
    have hp := hI.at_plc ⟨pa, pb⟩
    rw [pc] at hp
    have ep := plcf_eq hp
    obtain ⟨p0, p1, -, -⟩ := hp
    have a1 := hI.fr_in (k := x) c.1
    have a2 := hI.fr_up c.1 c.2
    have a3 := hI.fr_in (k := x + 1) (by omega)
    have a0 : w 0 ≤ 64 := hI.1.1.2
    have e1 : sumN (fun k => bud w (fx w (91 + k))) (plcf w x).toNat = sumN (fun k => bud w (w (91 + k))) (plcf w x).toNat := sumN_congr _ (fun k k0 k1 => by
      show bud w (fx w (91 + k)) = bud w (w (91 + k))
      rw [fx_91 w k0 (by omega)])
    have e2 : fad (fx w) (bud w) (plcf w x) = fad w (bud w) (plcf w x) := fad_fx w (bud w) (by omega) (by omega)
    have e3 : ldn (fx w) (fr w x) (fr w (x + 1) - fr w x - 1).toNat = ldn w (fr w x) (fr w (x + 1) - fr w x - 1).toNat := ldn_fx w _ _ (by omega)
    rw [e1, e2, e3]
    exact h
  · exact ⟨h.1, fun c' => absurd c' c⟩
theorem SR_fx {w : Int → Int} {x y v : Int} (h : SR_ w x y v) : SR_ (fx w) x y v := by
  unfold SR_ at h ⊢
  rw [lay_fx, bud_fx, org_fx, fx74, fx_o w (k := 6) (by omega)]
  refine ⟨h.1, fun c => ⟨(h.2 c).1, fun l => ?_⟩⟩
  obtain ⟨p, hp, hq, g0, g1, g2⟩ := (h.2 c).2 l
  refine ⟨p, hp, ?_, ?_, ?_, ?_⟩
  · rw [par_fx w (by omega), par_fx w (by omega)]; exact hq
  · rw [fx_91 w hp.1 hp.2]; exact g0
  · rw [fx_91 w hp.1 hp.2, par_fx w (by omega)]; exact g1
  · rw [fx_91 w hp.1 hp.2, par_fx w (by omega), fad_fx w (bud w) hp.1 hp.2]; exact g2
theorem WV_fx (w : Int → Int) (x : Int) (r : UInt32) : WV_ (fx w) x r = WV_ w x r := by
  unfold WV_
  rw [lay_fx, bud_fx, ln_fx, fx74]
theorem LG_fx (w : Int → Int) (v : Int) : LG_ (fx w) v = LG_ w v := by
  unfold LG_
  rw [can_fx, fx_o w (k := 6) (by omega)]
theorem NT_fx (w : Int → Int) (x v : Int) : NT_ (fx w) x v = NT_ w x v := by
  unfold NT_ okT
  rw [can_fx, fx_o w (k := 6) (by omega), fx_o w (k := 7) (by omega)]
theorem TF_fx {w : Int → Int} (h : w 0 ≤ 64) (x v : Int) : TF_ (fx w) x v = TF_ w x v := by
  unfold TF_
  rw [show fnd (fx w) = fnd w from funext fun t => fnd_fx h t]
theorem nx_begin {σ u : Nat → Int → Int} {r : Int32} (x : Int) (hI : Inv (σ 0)) (h64 : σ 0 0 ≤ 64) (h1 : 1 ≤ σ 0 74) (h16 : σ 0 74 ≤ 16) (hx : ((1 ≤ x ∧ x ≤ 64) → iI (σ 0 0) = r ∧ XC_ σ u (spc (σ 0) x)) ∧ (¬ (1 ≤ x ∧ x ≤ 64) → iI (-1) = r ∧ XQ_ σ u)) : ((1 ≤ x ∧ x ≤ 64) → iI ((fx (σ 0)) 0) = r ∧ XC_ (Nx σ) (Nx u) (spc ((fx (σ 0))) x)) ∧ (¬ (1 ≤ x ∧ x ≤ 64) → iI (-1) = r ∧ XQ_ (Nx σ) (Nx u)) := nx_CH Iff.rfl (fun _ => fx0 _) (fun _ => (fx_spc _ _).trans (spc_fx _ _).symm) hx
theorem nx_sound {σ u : Nat → Int → Int} {r : Int32} (x1 : Int) (x2 : Int) (x3 : Int) (hI : Inv (σ 0)) (h64 : σ 0 0 ≤ 64) (h1 : 1 ≤ σ 0 74) (h16 : σ 0 74 ≤ 16) (hx : ((okE (σ 0) x1 x2 x3) → iI (smE (σ 0) x1 (x2 + 1 - x1)) = r ∧ XC_ σ u (spS (σ 0) x1 x2 x3)) ∧ (¬ (okE (σ 0) x1 x2 x3) → iI (-1) = r ∧ XQ_ σ u)) : ((okE ((fx (σ 0))) x1 x2 x3) → iI (smE ((fx (σ 0))) x1 (x2 + 1 - x1)) = r ∧ XC_ (Nx σ) (Nx u) (spS ((fx (σ 0))) x1 x2 x3)) ∧ (¬ (okE ((fx (σ 0))) x1 x2 x3) → iI (-1) = r ∧ XQ_ (Nx σ) (Nx u)) := nx_CH (by unfold okE; rw [fx0]) (fun c => smE_fx (by have := c.2.1; have := h64; omega)) (fun c => fx_spS _ c.1.1 (by have := c.2.1; have := h64; omega)) hx
theorem nx_set {σ u : Nat → Int → Int} {r : Int32} (x1 : Int) (x2 : Int) (hI : Inv (σ 0)) (h64 : σ 0 0 ≤ 64) (h1 : 1 ≤ σ 0 74) (h16 : σ 0 74 ≤ 16) (hx : ((okS x1 x2) → iI (σ 0 (1 + x1)) = r ∧ XC_ σ u (ups (σ 0) (1 + x1) x2)) ∧ (¬ (okS x1 x2) → iI (-1) = r ∧ XQ_ σ u)) : ((okS x1 x2) → iI ((fx (σ 0)) (1 + x1)) = r ∧ XC_ (Nx σ) (Nx u) (ups ((fx (σ 0))) (1 + x1) x2)) ∧ (¬ (okS x1 x2) → iI (-1) = r ∧ XQ_ (Nx σ) (Nx u)) := nx_CH Iff.rfl (fun c => fx_o _ (by have := c.1; have := c.2.1; omega)) (fun c => fx_ups _ ⟨c.1, c.2.1⟩) hx
theorem nx_find {σ u : Nat → Int → Int} {r : Int32}  (hI : Inv (σ 0)) (h64 : σ 0 0 ≤ 64) (h1 : 1 ≤ σ 0 74) (h16 : σ 0 74 ≤ 16) (hx : iI (fnd (σ 0) (σ 0 2)) = r ∧ XC_ σ u (spF (σ 0))) : iI (fnd ((fx (σ 0))) ((fx (σ 0)) 2)) = r ∧ XC_ (Nx σ) (Nx u) (spF ((fx (σ 0)))) := ⟨(congrArg iI (by rw [fx_o (σ 0) (k := 2) (by omega), fnd_fx h64])).trans hx.1, XC_nx hx.2 (by rw [fx_spF, spF_fx h64])⟩
theorem nx_mark {σ u : Nat → Int → Int} {r : Int32} (x : Int) (hI : Inv (σ 0)) (h64 : σ 0 0 ≤ 64) (h1 : 1 ≤ σ 0 74) (h16 : σ 0 74 ≤ 16) (hx : Rmark (σ 0) x r (XQ_ σ u) (XC_ σ u)) : Rmark ((fx (σ 0))) x r (XQ_ (Nx σ) (Nx u)) (XC_ (Nx σ) (Nx u)) := by
  unfold Rmark at hx ⊢
  rw [fx74, fx0]
  refine ⟨fun c => ⟨(hx.1 c).1, XQ_nx (hx.1 c).2⟩, fun c => ?_⟩
  obtain ⟨p, p1, p2, p3⟩ := hx.2 c
  have q0 := p1.1
  have q1 := p1.2.1
  have e : (p < σ 0 74 ∧ fx (σ 0) (75 + p) = x) ↔ (p < σ 0 74 ∧ σ 0 (75 + p) = x) := ⟨fun d => ⟨d.1, by rw [← fx_75 _ d.1]; exact d.2⟩, fun d => ⟨d.1, by rw [fx_75 _ d.1]; exact d.2⟩⟩
  refine ⟨p, Bef_fx p1, fun d => ⟨(p2 (e.mp d)).1, XQ_nx (p2 (e.mp d)).2⟩, fun d => ⟨fun f => ⟨((p3 (fun z => d (e.mpr z))).1 f).1, XQ_nx ((p3 (fun z => d (e.mpr z))).1 f).2⟩, fun f => ⟨((p3 (fun z => d (e.mpr z))).2 f).1, XC_nx ((p3 (fun z => d (e.mpr z))).2 f).2 ?_⟩⟩⟩
  rw [fx_spi _ q0 q1 f, spi_fx _ q0 q1 f]
theorem nx_unmark {σ u : Nat → Int → Int} {r : Int32} (x : Int) (hI : Inv (σ 0)) (h64 : σ 0 0 ≤ 64) (h1 : 1 ≤ σ 0 74) (h16 : σ 0 74 ≤ 16) (hx : ((1 ≤ x ∧ x < σ 0 74) → iI (σ 0 74 - 1) = r ∧ XC_ σ u (spr (σ 0) x)) ∧ (¬ (1 ≤ x ∧ x < σ 0 74) → iI (-1) = r ∧ XQ_ σ u)) : ((1 ≤ x ∧ x < (fx (σ 0)) 74) → iI ((fx (σ 0)) 74 - 1) = r ∧ XC_ (Nx σ) (Nx u) (spr ((fx (σ 0))) x)) ∧ (¬ (1 ≤ x ∧ x < (fx (σ 0)) 74) → iI (-1) = r ∧ XQ_ (Nx σ) (Nx u)) := nx_CH (by rw [fx74]) (fun _ => by rw [fx74]) (fun c => by rw [fx_spr c.1 h16, fx_of (show (σ 0) 74 ≠ 1 by omega)]) hx
theorem nx_moveMark {σ u : Nat → Int → Int} {r : Int32} (x1 : Int) (x2 : Int) (hI : Inv (σ 0)) (h64 : σ 0 0 ≤ 64) (h1 : 1 ≤ σ 0 74) (h16 : σ 0 74 ≤ 16) (hx : Rmove (σ 0) x1 x2 r (XQ_ σ u) (XC_ σ u)) : Rmove ((fx (σ 0))) x1 x2 r (XQ_ (Nx σ) (Nx u)) (XC_ (Nx σ) (Nx u)) := by
  unfold Rmove at hx ⊢
  rw [fx74, fx0, fr_fx]
  refine ⟨fun c => ⟨(hx.1 c).1, XQ_nx (hx.1 c).2⟩, fun c => ⟨fun d => ⟨((hx.2 c).1 d).1, XQ_nx ((hx.2 c).1 d).2⟩, fun d => ⟨?_, XC_nx ((hx.2 c).2 d).2 ?_⟩⟩⟩
  · rw [fx_75 _ c.1.2]; exact ((hx.2 c).2 d).1
  · have h1 : σ 0 74 ≠ 1 := by omega
    rw [fx_spM _ (by omega) h1, fx_of h1]
theorem nx_swap {σ u : Nat → Int → Int} {r : Int32} (x1 : Int) (x2 : Int) (hI : Inv (σ 0)) (h64 : σ 0 0 ≤ 64) (h1 : 1 ≤ σ 0 74) (h16 : σ 0 74 ≤ 16) (hx : (((0 ≤ x1 ∧ x1 < σ 0 74) ∧ (0 ≤ x2 ∧ x2 < σ 0 74)) → iI (σ 0 (91 + x2)) = r ∧ XC_ σ u (spx (σ 0) x1 x2)) ∧ (¬ ((0 ≤ x1 ∧ x1 < σ 0 74) ∧ (0 ≤ x2 ∧ x2 < σ 0 74)) → iI (-1) = r ∧ XQ_ σ u)) : (((0 ≤ x1 ∧ x1 < (fx (σ 0)) 74) ∧ (0 ≤ x2 ∧ x2 < (fx (σ 0)) 74)) → iI ((fx (σ 0)) (91 + x2)) = r ∧ XC_ (Nx σ) (Nx u) (spx ((fx (σ 0))) x1 x2)) ∧ (¬ ((0 ≤ x1 ∧ x1 < (fx (σ 0)) 74) ∧ (0 ≤ x2 ∧ x2 < (fx (σ 0)) 74)) → iI (-1) = r ∧ XQ_ (Nx σ) (Nx u)) := nx_CH (by rw [fx74]) (fun c => fx_91 _ c.2.1 c.2.2) (fun c => fx_spx c.1 c.2) hx
theorem nx_reverse {σ u : Nat → Int → Int} {r : Int32}  (hI : Inv (σ 0)) (h64 : σ 0 0 ≤ 64) (h1 : 1 ≤ σ 0 74) (h16 : σ 0 74 ≤ 16) (hx : iI (σ 0 (91 + (σ 0 74 - 1))) = r ∧ XC_ σ u (spV (σ 0))) : iI ((fx (σ 0)) (91 + ((fx (σ 0)) 74 - 1))) = r ∧ XC_ (Nx σ) (Nx u) (spV ((fx (σ 0)))) := ⟨(congrArg iI (by rw [fx74]; exact fx_91 _ (by omega) (by omega))).trans hx.1, XC_nx hx.2 (fx_spV _)⟩
theorem nx_undo {σ u : Nat → Int → Int} {r : Int32}  (hI : Inv (σ 0)) (h64 : σ 0 0 ≤ 64) (h1 : 1 ≤ σ 0 74) (h16 : σ 0 74 ≤ 16) (hx : (σ 12 1 = 0 → iI (-2) = r ∧ XQ_ σ u) ∧ (σ 12 1 ≠ 0 → iI (σ 12 1 - 1) = r ∧ u 0 = cpo (σ 0) (σ 1) (107 * σ 12 0) ∧ u 1 = σ 1 ∧ u 12 0 = (if 0 < σ 12 0 then σ 12 0 - 1 else 7) ∧ u 12 1 = σ 12 1 - 1 ∧ u 9 = σ 9 ∧ u 11 = σ 11)) : (σ 12 1 = 0 → iI (-2) = r ∧ XQ_ (Nx σ) (Nx u)) ∧ (σ 12 1 ≠ 0 → iI (σ 12 1 - 1) = r ∧ ((Nx u) 0) = cpo ((fx (σ 0))) ((fxb (σ 1))) (107 * σ 12 0) ∧ ((Nx u) 1) = (fxb (σ 1)) ∧ ((Nx u) 12) 0 = (if 0 < σ 12 0 then σ 12 0 - 1 else 7) ∧ ((Nx u) 12) 1 = σ 12 1 - 1 ∧ ((Nx u) 9) = (fxb (σ 9)) ∧ ((Nx u) 11) = σ 11) := by
  refine ⟨fun c => ⟨(hx.1 c).1, XQ_nx (hx.1 c).2⟩, fun c => ?_⟩
  obtain ⟨a, b0, b1, b2, b3, b4, b5⟩ := hx.2 c
  exact ⟨a, (congrArg fx b0).trans (fx_cpo _ _ _), congrArg fxb b1, b2, b3, congrArg fxb b4, b5⟩
theorem nx_told {σ u : Nat → Int → Int} {r : Int32} (x : Int) (hI : Inv (σ 0)) (h64 : σ 0 0 ≤ 64) (h1 : 1 ≤ σ 0 74) (h16 : σ 0 74 ≤ 16) (hx : (∃ v, iI v = r ∧ TD_ (σ 0) (σ 12 1) x v) ∧ XQ_ σ u) : (∃ v, iI v = r ∧ TD_ ((fx (σ 0))) (σ 12 1) x v) ∧ XQ_ (Nx σ) (Nx u) := by
  obtain ⟨⟨v, v1, v2⟩, hq⟩ := hx
  exact ⟨⟨v, v1, by rw [TD_fx]; exact v2⟩, XQ_nx hq⟩
theorem nx_setting {σ u : Nat → Int → Int} {r : Int32} (x : Int) (hI : Inv (σ 0)) (h64 : σ 0 0 ≤ 64) (h1 : 1 ≤ σ 0 74) (h16 : σ 0 74 ≤ 16) (hx : ((0 ≤ x ∧ x ≤ 8) → iI (σ 0 (1 + x)) = r) ∧ (¬ (0 ≤ x ∧ x ≤ 8) → iI (-1) = r) ∧ XQ_ σ u) : ((0 ≤ x ∧ x ≤ 8) → iI ((fx (σ 0)) (1 + x)) = r) ∧ (¬ (0 ≤ x ∧ x ≤ 8) → iI (-1) = r) ∧ XQ_ (Nx σ) (Nx u) := nx_QR Iff.rfl (fun c => fx_o _ (by omega)) hx
theorem nx_energy {σ u : Nat → Int → Int} {r : Int32} (x : Int) (hI : Inv (σ 0)) (h64 : σ 0 0 ≤ 64) (h1 : 1 ≤ σ 0 74) (h16 : σ 0 74 ≤ 16) (hx : ((0 ≤ x ∧ x < σ 0 0) → iI (σ 0 (10 + x)) = r) ∧ (¬ (0 ≤ x ∧ x < σ 0 0) → iI (-1) = r) ∧ XQ_ σ u) : ((0 ≤ x ∧ x < (fx (σ 0)) 0) → iI ((fx (σ 0)) (10 + x)) = r) ∧ (¬ (0 ≤ x ∧ x < (fx (σ 0)) 0) → iI (-1) = r) ∧ XQ_ (Nx σ) (Nx u) := nx_QR (by rw [fx0]) (fun c => fx_o _ (by have := h64; omega)) hx
theorem nx_slice {σ u : Nat → Int → Int} {r : Int32} (x1 : Int) (x2 : Int) (hI : Inv (σ 0)) (h64 : σ 0 0 ≤ 64) (h1 : 1 ≤ σ 0 74) (h16 : σ 0 74 ≤ 16) (hx : (∃ v, iI v = r ∧ SL_ (σ 0) x1 x2 v) ∧ XQ_ σ u) : (∃ v, iI v = r ∧ SL_ ((fx (σ 0))) x1 x2 v) ∧ XQ_ (Nx σ) (Nx u) := by
  obtain ⟨⟨v, v1, v2⟩, hq⟩ := hx
  exact ⟨⟨v, v1, SL_fx hI v2⟩, XQ_nx hq⟩
theorem nx_order {σ u : Nat → Int → Int} {r : Int32} (x : Int) (hI : Inv (σ 0)) (h64 : σ 0 0 ≤ 64) (h1 : 1 ≤ σ 0 74) (h16 : σ 0 74 ≤ 16) (hx : ((0 ≤ x ∧ x < σ 0 74) → iI (σ 0 (91 + x)) = r) ∧ (¬ (0 ≤ x ∧ x < σ 0 74) → iI (-1) = r) ∧ XQ_ σ u) : ((0 ≤ x ∧ x < (fx (σ 0)) 74) → iI ((fx (σ 0)) (91 + x)) = r) ∧ (¬ (0 ≤ x ∧ x < (fx (σ 0)) 74) → iI (-1) = r) ∧ XQ_ (Nx σ) (Nx u) := nx_QR (by rw [fx74]) (fun c => fx_91 _ c.1 c.2) hx
theorem nx_source {σ u : Nat → Int → Int} {r : Int32} (x1 : Int) (x2 : Int) (hI : Inv (σ 0)) (h64 : σ 0 0 ≤ 64) (h1 : 1 ≤ σ 0 74) (h16 : σ 0 74 ≤ 16) (hx : (∃ v, iI v = r ∧ SR_ (σ 0) x1 x2 v) ∧ XQ_ σ u) : (∃ v, iI v = r ∧ SR_ ((fx (σ 0))) x1 x2 v) ∧ XQ_ (Nx σ) (Nx u) := by
  obtain ⟨⟨v, v1, v2⟩, hq⟩ := hx
  exact ⟨⟨v, v1, SR_fx v2⟩, XQ_nx hq⟩
theorem nx_warp {σ u : Nat → Int → Int} {r : UInt32} (x : Int) (hI : Inv (σ 0)) (h64 : σ 0 0 ≤ 64) (h1 : 1 ≤ σ 0 74) (h16 : σ 0 74 ≤ 16) (hx : WV_ (σ 0) x r ∧ XQ_ σ u) : WV_ ((fx (σ 0))) x r ∧ XQ_ (Nx σ) (Nx u) := ⟨by rw [WV_fx]; exact hx.1, XQ_nx hx.2⟩
theorem nx_shift {σ u : Nat → Int → Int} {r : Int32}  (hI : Inv (σ 0)) (h64 : σ 0 0 ≤ 64) (h1 : 1 ≤ σ 0 74) (h16 : σ 0 74 ≤ 16) (hx : (can_ (σ 0) (σ 0 6) (σ 0 7) → iI (bst (σ 0) (σ 0 6) (σ 0 7) (σ 0 74 - 1).toNat 0 / σ 0 0) = r) ∧ (¬ can_ (σ 0) (σ 0 6) (σ 0 7) → iI (-9) = r) ∧ XQ_ σ u) : (can_ ((fx (σ 0))) ((fx (σ 0)) 6) ((fx (σ 0)) 7) → iI (bst ((fx (σ 0))) ((fx (σ 0)) 6) ((fx (σ 0)) 7) ((fx (σ 0)) 74 - 1).toNat 0 / (fx (σ 0)) 0) = r) ∧ (¬ can_ ((fx (σ 0))) ((fx (σ 0)) 6) ((fx (σ 0)) 7) → iI (-9) = r) ∧ XQ_ (Nx σ) (Nx u) := by
  rw [can_fx, bst_fx, fx74, fx0, fx_o (σ 0) (k := 6) (by omega), fx_o (σ 0) (k := 7) (by omega)]
  exact ⟨hx.1, hx.2.1, XQ_nx hx.2.2⟩
theorem nx_leastGrid {σ u : Nat → Int → Int} {r : Int32}  (hI : Inv (σ 0)) (h64 : σ 0 0 ≤ 64) (h1 : 1 ≤ σ 0 74) (h16 : σ 0 74 ≤ 16) (hx : (∃ v, iI v = r ∧ LG_ (σ 0) v) ∧ XQ_ σ u) : (∃ v, iI v = r ∧ LG_ ((fx (σ 0))) v) ∧ XQ_ (Nx σ) (Nx u) := by
  obtain ⟨⟨v, v1, v2⟩, hq⟩ := hx
  exact ⟨⟨v, v1, by rw [LG_fx]; exact v2⟩, XQ_nx hq⟩
theorem nx_nearTarget {σ u : Nat → Int → Int} {r : Int32} (x : Int) (hI : Inv (σ 0)) (h64 : σ 0 0 ≤ 64) (h1 : 1 ≤ σ 0 74) (h16 : σ 0 74 ≤ 16) (hx : (¬ (0 ≤ x ∧ x ≤ 200) → iI (-1) = r) ∧ ((0 ≤ x ∧ x ≤ 200) → ∃ v, iI v = r ∧ NT_ (σ 0) x v) ∧ XQ_ σ u) : (¬ (0 ≤ x ∧ x ≤ 200) → iI (-1) = r) ∧ ((0 ≤ x ∧ x ≤ 200) → ∃ v, iI v = r ∧ NT_ ((fx (σ 0))) x v) ∧ XQ_ (Nx σ) (Nx u) := by
  obtain ⟨a, b, hq⟩ := hx
  refine ⟨a, fun c => ?_, XQ_nx hq⟩
  obtain ⟨v, v1, v2⟩ := b c
  exact ⟨v, v1, by rw [NT_fx]; exact v2⟩
theorem nx_marksWith {σ u : Nat → Int → Int} {r : Int32} (x : Int) (hI : Inv (σ 0)) (h64 : σ 0 0 ≤ 64) (h1 : 1 ≤ σ 0 74) (h16 : σ 0 74 ≤ 16) (hx : ((1 ≤ x ∧ x ≤ 999) → iI (fnd (σ 0) x) = r) ∧ (¬ (1 ≤ x ∧ x ≤ 999) → iI (-1) = r) ∧ XQ_ σ u) : ((1 ≤ x ∧ x ≤ 999) → iI (fnd ((fx (σ 0))) x) = r) ∧ (¬ (1 ≤ x ∧ x ≤ 999) → iI (-1) = r) ∧ XQ_ (Nx σ) (Nx u) := nx_QR Iff.rfl (fun c => fnd_fx h64 _) hx
theorem nx_thresholdFor {σ u : Nat → Int → Int} {r : Int32} (x : Int) (hI : Inv (σ 0)) (h64 : σ 0 0 ≤ 64) (h1 : 1 ≤ σ 0 74) (h16 : σ 0 74 ≤ 16) (hx : (¬ (1 ≤ x ∧ x ≤ 16) → iI (-1) = r) ∧ ((1 ≤ x ∧ x ≤ 16) → ∃ v, iI v = r ∧ TF_ (σ 0) x v) ∧ XQ_ σ u) : (¬ (1 ≤ x ∧ x ≤ 16) → iI (-1) = r) ∧ ((1 ≤ x ∧ x ≤ 16) → ∃ v, iI v = r ∧ TF_ ((fx (σ 0))) x v) ∧ XQ_ (Nx σ) (Nx u) := by
  obtain ⟨a, b, hq⟩ := hx
  refine ⟨a, fun c => ?_, XQ_nx hq⟩
  obtain ⟨v, v1, v2⟩ := b c
  exact ⟨v, v1, by rw [TF_fx h64]; exact v2⟩
theorem nx_keep {σ u : Nat → Int → Int} {r : Int32} (x : Int) (hI : Inv (σ 0)) (h64 : σ 0 0 ≤ 64) (h1 : 1 ≤ σ 0 74) (h16 : σ 0 74 ≤ 16) (hx : ((0 ≤ x ∧ x ≤ 1) → iI (σ 0 74) = r ∧ u 0 = σ 0 ∧ u 1 = σ 1 ∧ u 12 0 = σ 12 0 ∧ u 12 1 = σ 12 1 ∧ u 9 = cpi (σ 9) (σ 0) (107 * x) ∧ u 11 = ups (σ 11) x 1) ∧ (¬ (0 ≤ x ∧ x ≤ 1) → iI (-1) = r ∧ XQ_ σ u)) : ((0 ≤ x ∧ x ≤ 1) → iI ((fx (σ 0)) 74) = r ∧ ((Nx u) 0) = (fx (σ 0)) ∧ ((Nx u) 1) = (fxb (σ 1)) ∧ ((Nx u) 12) 0 = σ 12 0 ∧ ((Nx u) 12) 1 = σ 12 1 ∧ ((Nx u) 9) = cpi ((fxb (σ 9))) ((fx (σ 0))) (107 * x) ∧ ((Nx u) 11) = ups (σ 11) x 1) ∧ (¬ (0 ≤ x ∧ x ≤ 1) → iI (-1) = r ∧ XQ_ (Nx σ) (Nx u)) := by
  refine ⟨fun c => ?_, fun c => ⟨(hx.2 c).1, XQ_nx (hx.2 c).2⟩⟩
  obtain ⟨a, b0, b1, b2, b3, b4, b5⟩ := hx.1 c
  exact ⟨(congrArg iI (fx74 _)).trans a, congrArg fx b0, congrArg fxb b1, b2, b3, (congrArg fxb b4).trans (fxb_cpi _ _ _), b5⟩
theorem nx_back {σ u : Nat → Int → Int} {r : Int32} (x : Int) (hI : Inv (σ 0)) (h64 : σ 0 0 ≤ 64) (h1 : 1 ≤ σ 0 74) (h16 : σ 0 74 ≤ 16) (hx : (¬ (0 ≤ x ∧ x ≤ 1) → iI (-1) = r ∧ XQ_ σ u) ∧ ((0 ≤ x ∧ x ≤ 1) → (σ 11 x = 0 → iI (-2) = r ∧ XQ_ σ u) ∧ (σ 11 x ≠ 0 → iI (σ 9 (107 * x + 74)) = r ∧ XC_ σ u (cpo (σ 0) (σ 9) (107 * x))))) : (¬ (0 ≤ x ∧ x ≤ 1) → iI (-1) = r ∧ XQ_ (Nx σ) (Nx u)) ∧ ((0 ≤ x ∧ x ≤ 1) → (σ 11 x = 0 → iI (-2) = r ∧ XQ_ (Nx σ) (Nx u)) ∧ (σ 11 x ≠ 0 → iI ((fxb (σ 9)) (107 * x + 74)) = r ∧ XC_ (Nx σ) (Nx u) (cpo ((fx (σ 0))) ((fxb (σ 9))) (107 * x)))) := by
  refine ⟨fun c => ⟨(hx.1 c).1, XQ_nx (hx.1 c).2⟩, fun c => ⟨fun d => ⟨((hx.2 c).1 d).1, XQ_nx ((hx.2 c).1 d).2⟩, fun d => ?_⟩⟩
  exact ⟨(congrArg iI (fxb_at _ _ (by omega) (by omega))).trans ((hx.2 c).2 d).1, XC_nx ((hx.2 c).2 d).2 (fx_cpo _ _ _)⟩
