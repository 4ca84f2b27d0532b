/-! the law: the two states at the start, the two worlds side by side -/
theorem wx_fst {cx a : Nat → Nat} {σ : Nat → Int → Int} : (wx cx a σ).map Prod.fst = (List.range 70).map a := rfl
theorem wx_at {cx a : Nat → Nat} {σ : Nat → Int → Int} {k : Nat} {q : Nat × va_E} (h : (wx cx a σ)[k]? = some q) : k < 70 ∧ q.1 = a k := by
  have hk : k < 70 := (List.getElem?_eq_some_iff.mp h).1
  have h1 : ((wx cx a σ).map Prod.fst)[k]? = some q.1 := by rw [List.getElem?_map, h]; rfl
  rw [wx_fst, List.getElem?_map, List.getElem?_range hk] at h1
  exact ⟨hk, (Option.some.inj h1).symm⟩
theorem wx_get {cx a : Nat → Nat} {σ : Nat → Int → Int} {k : Nat} (hk : k < 70) : ∃ q : Nat × va_E, (wx cx a σ)[k]? = some q ∧ q.1 = a k :=
  ⟨_, List.getElem?_eq_getElem (l := wx cx a σ) (i := k) hk, (wx_at (List.getElem?_eq_getElem (l := wx cx a σ) (i := k) hk)).2⟩
theorem wm_fst {cx a : Nat → Nat} {σ : Nat → Int → Int} : (wm cx a σ).map Prod.fst = (List.range 9).map a := rfl
theorem wm_at {cx a : Nat → Nat} {σ : Nat → Int → Int} {k : Nat} {q : Nat × va_E} (h : (wm cx a σ)[k]? = some q) : k < 9 ∧ q.1 = a k := by
  have hk : k < 9 := (List.getElem?_eq_some_iff.mp h).1
  have h1 : ((wm cx a σ).map Prod.fst)[k]? = some q.1 := by rw [List.getElem?_map, h]; rfl
  rw [wm_fst, List.getElem?_map, List.getElem?_range hk] at h1
  exact ⟨hk, (Option.some.inj h1).symm⟩
theorem wm_get {cx a : Nat → Nat} {σ : Nat → Int → Int} {k : Nat} (hk : k < 9) : ∃ q : Nat × va_E, (wm cx a σ)[k]? = some q ∧ q.1 = a k :=
  ⟨_, List.getElem?_eq_getElem (l := wm cx a σ) (i := k) hk, (wm_at (List.getElem?_eq_getElem (l := wm cx a σ) (i := k) hk)).2⟩
/-- the two sides' cells: all of them made by the law, and apart -/
def Apt (a b : Nat → Nat) (n : Nat) : Prop := (∀ q, XA a q → n ≤ q) ∧ (∀ q, MA b q → n ≤ q) ∧ ∀ q, XA a q → ¬ MA b q
def Lw (G : va_G) (cx a b : Nat → Nat) (σ τ : Nat → Int → Int) (H : Heap) : Prop := va_P G vwCl (wx cx a σ) H ∧ va_P G vwCl (wm cx b τ) H ∧ va_D (XA a) (wx cx a σ) ∧ va_D (MA b) (wm cx b τ)
theorem Lw_of {G : va_G} {cx a b : Nat → Nat} {σ τ : Nat → Int → Int} {H : Heap} {n : Nat} (hP : va_P G vwCl (wx cx a σ ++ wm cx b τ) H) (hD : va_D (fun q => n ≤ q) (wx cx a σ ++ wm cx b τ)) : Lw G cx a b σ τ H ∧ Apt a b n := by
  have lX : (wx cx a σ).length = 70 := rfl
  have hx : ∀ (k : Nat) (q : Nat × va_E), (wx cx a σ)[k]? = some q → (wx cx a σ ++ wm cx b τ)[k]? = some q := fun k q h => by
    rw [List.getElem?_append_left (List.getElem?_eq_some_iff.mp h).1]; exact h
  have hm : ∀ (k : Nat) (q : Nat × va_E), (wm cx b τ)[k]? = some q → (wx cx a σ ++ wm cx b τ)[70 + k]? = some q := fun k q h => by
    rw [List.getElem?_append_right (by omega), show 70 + k - (wx cx a σ).length = k by omega]; exact h
  refine ⟨⟨fun k q h => hP k q (hx k q h), fun k q h => hP (70 + k) q (hm k q h), ⟨fun i j p q hi hj e => hD.1 i j p q (hx i p hi) (hx j q hj) e, fun k q h => ⟨k, (wx_at h).1, (wx_at h).2⟩⟩, ⟨fun i j p q hi hj e => ?_, fun k q h => ⟨k, (wm_at h).1, (wm_at h).2⟩⟩⟩, fun q h => ?_, fun q h => ?_, fun q h h2 => ?_⟩
  · have := hD.1 (70 + i) (70 + j) p q (hm i p hi) (hm j q hj) e
    omega
  · obtain ⟨k, hk, rfl⟩ := h
    obtain ⟨q, h1, h2⟩ := wx_get (cx := cx) (a := a) (σ := σ) hk
    rw [← h2]
    exact hD.2 k q (hx k q h1)
  · obtain ⟨k, hk, rfl⟩ := h
    obtain ⟨q, h1, h2⟩ := wm_get (cx := cx) (a := b) (σ := τ) hk
    rw [← h2]
    exact hD.2 (70 + k) q (hm k q h1)
  · obtain ⟨k, hk, e1⟩ := h
    obtain ⟨j, hj, e2⟩ := h2
    obtain ⟨x, h1, h3⟩ := wx_get (cx := cx) (a := a) (σ := σ) hk
    obtain ⟨y, h4, h5⟩ := wm_get (cx := cx) (a := b) (σ := τ) hj
    have := hD.1 k (70 + j) x y (hx k x h1) (hm j y h4) (by rw [h3, h5, ← e1, ← e2])
    omega
/-- what the relation gives a call -/
theorem Rel_use {σ τ : Nat → Int → Int} (h : Rel (Nx σ) τ) : Inv (σ 0) ∧ Inv (τ 0) ∧ ((0 ≤ σ 12 0 ∧ σ 12 0 ≤ 7) ∧ (0 ≤ σ 12 1 ∧ σ 12 1 ≤ 8)) ∧ (0 ≤ τ 2 0 ∧ τ 2 0 ≤ 8) ∧ (0 ≤ τ 2 1 ∧ τ 2 1 ≤ 3) ∧ (∀ i, 0 ≤ i → i ≤ 1 → σ 11 i = 0 ∨ σ 11 i = 1) := by
  obtain ⟨r0, r1, r2, r4, r5, r6, r7⟩ := h
  have r2' : (0 ≤ σ 12 0 ∧ σ 12 0 ≤ 7) ∧ (0 ≤ σ 12 1 ∧ σ 12 1 ≤ 8) := r2
  have r4' : τ 2 0 = σ 12 1 := r4
  refine ⟨Inv_unfx r1, r0 ▸ r1, r2', by omega, r5, fun i i0 i1 => ?_⟩
  have e : σ 11 i = hasF (τ 2 1) i := (r7 i i0 i1).1
  rw [e]
  unfold hasF
  split <;> omega
theorem Inv_b {w : Int → Int} (h : Inv w) : w 0 ≤ 64 ∧ 1 ≤ w 74 ∧ w 74 ≤ 16 := ⟨h.1.1.2, h.1.2.2.2.2.2.2.2.2.2.2.1.1, h.1.2.2.2.2.2.2.2.2.2.2.1.2⟩
theorem st4.to {A B : Nat → Prop} {tl th : Nat} {s U : State} {H : Heap} {locs : List Loc} (h : st4 A tl th s) (hS : va_S A s.heap H locs) (hU : U.heap = H) (hW : s.WarmedH U.vm) (hB : ∀ q, B q → A q) : st4 B tl th U := by
  obtain ⟨h1, h2, h3, h4⟩ := h
  refine ⟨?_, ?_, ?_, ?_⟩
  · rw [hU]; exact ((h1.kept hS.2.1).moved hW.alike).narrow hB
  · rw [hU]; exact ((h2.kept hS.2.1).moved hW.alike).narrow hB
  · rw [hU]; exact ((h3.kept hS.2.1).moved hW.alike).narrow hB
  · rw [hU]; exact ((h4.kept hS.2.1).moved hW.alike).narrow hB
theorem st4.blind {A : Nat → Prop} {tl th : Nat} {U : State} {g : JFrame} {mk : MethodId} {a : Array Value} (h : st4 A tl th U) : st4 A tl th (U.calling g mk a) := by
  obtain ⟨h1, h2, h3, h4⟩ := h
  exact ⟨va_Z.moved (u := U) (U := U.calling g mk a) (Vm.Alike.refl U.vm) h1, va_T.moved (u := U) (U := U.calling g mk a) (Vm.Alike.refl U.vm) h2, va_Z.moved (u := U) (U := U.calling g mk a) (Vm.Alike.refl U.vm) h3, va_T.moved (u := U) (U := U.calling g mk a) (Vm.Alike.refl U.vm) h4⟩
/-- the script's numbers -/
def scv (xs : Nat → Int32) (z : Int) : Int := (xs z.toNat).toInt
theorem scv_in (xs : Nat → Int32) (z : Int) : -2147483648 ≤ scv xs z ∧ scv xs z < 2147483648 := iI_rng _
theorem WV_no {w : Int → Int} (hI : Inv w) {x : Int} {r : UInt32} (h : WV_ w x r) : vf_n64 (FP.f2d r) := by
  refine Jvm.Free.Fl.f2d_out ?_
  rcases Classical.em (0 ≤ x ∧ x < w 74) with c | c
  · rcases Classical.em (lay_ w) with l | l
    · rw [(h.2 c).1 l]
      have := hI.ln_in c.1 c.2
      exact wv_n (by omega)
    · rw [(h.2 c).2 l]
      show (3239051264 : UInt32) &&& 0x7fffffff ≤ 0x7f800000
      decide
  · rw [h.1 c]
    show (3212836864 : UInt32) &&& 0x7fffffff ≤ 0x7f800000
    decide
section LCALL
variable {p : Program} {l : Launch} {e : Env} {R : Room} {s : State} {m : MethodId} {args : Array Value} {below : List Frame} {meth : Method} {c : Code} {H : Heap} {locs : List Loc} {cells slots : Nat} {Q : State → Prop}
variable {cc : ByteArray} {pc : Nat} {ls : Array Slot} {rest : List Value} {G : va_G} {cx a b : Nat → Nat} {σ τ : Nat → Int → Int}
variable {y : MethodName} {bytes : ByteArray} {maxL nL n index : Nat} {ret : Option FieldType} {ws : List Cond} {rm : Room} {Ts : List Cond} {own : String} {st0 : List Value} {Ex : State → Prop}
theorem l_sld (hx : p.tables.exec = Jvm.exec) (hb : c.code = cc) {bs L : Nat} {xs : Nat → Int32} (hX : va_X bs L xs s s.heap) (hbl : bs < s.heap.size) (hS : va_S (fun q => s.heap.size ≤ q) s.heap H locs) {z : Int} (hz : 0 ≤ z ∧ z < (L : Int)) (hL : L ≤ 2048) (hdg : decode cc pc = .ok (.iaload, 1))
    (kk : W p l e R s m args below meth c H locs cells slots Q (F0 m (pc + 1) ls (.int (iI (scv xs z)) :: rest))) : W p l e R s m args below meth c H locs cells slots Q (F0 m pc ls (.int (iI z) :: .ref bs :: rest)) := by
  refine va_sld hx hb hX hbl (show ¬ (s.heap.size ≤ bs) by omega) hS (iI_in (by omega) hz) hdg ?_
  have e : (iI z).toNatClampNeg = z.toNat := by
    have := iI_cl (i := z) ⟨hz.1, by omega⟩
    omega
  rw [e, ← iI_of (xs z.toNat)]
  exact kk
theorem l_keepM (hL : Lw G cx a b σ τ H) {n0 : Nat} (hA : Apt a b n0) {H1 : Heap} {u : Nat → Int → Int} (hP : va_P G vwCl (wx cx a u) H1) (hD : va_D (XA a) (wx cx a u)) (hk : ∀ z : Nat, z < H.size → ¬ XA a z → H1[z]? = H[z]?) : Lw G cx a b u τ H1 :=
  ⟨hP, hL.2.1.kept fun k x hx => hk x.1 (hL.2.1 k x hx).lt (fun z => hA.2.2 _ z ⟨k, (wm_at hx).1, (wm_at hx).2⟩), hD, hL.2.2.2⟩
theorem l_keepX (hL : Lw G cx a b σ τ H) {n0 : Nat} (hA : Apt a b n0) {H1 : Heap} {u : Nat → Int → Int} (hP : va_P G vwCl (wm cx b u) H1) (hD : va_D (MA b) (wm cx b u)) (hk : ∀ z : Nat, z < H.size → ¬ MA b z → H1[z]? = H[z]?) : Lw G cx a b σ u H1 :=
  ⟨hL.1.kept fun k x hx => hk x.1 (hL.1 k x hx).lt (fun z => hA.2.2 _ ⟨k, (wx_at hx).1, (wx_at hx).2⟩ z), hP, hL.2.2.1, hD⟩
theorem l_callX {post : Int32 → (Nat → Int → Int) → Prop} (As : List Value) (S : CallFix p m c cc nL s args Ts own) (hM : Met l y ws rm (va_Pc (.ref (a 0) :: As) (gW G (tx cx) (XA a) (wx cx a) σ)) (va_Qi post (gW G (tx cx) (XA a) (wx cx a)) (XA a)) 0 0 (XA a)) (cw : CallW R s args own RX4 index y bytes maxL ret ws rm 0 0 n)
    (hK : va_K G vwCl (tx cx) s) (hL : Lw G cx a b σ τ H) (hA : Apt a b s.heap.size) (hS : va_S (fun q => s.heap.size ≤ q) s.heap H locs) (hst : st0 = As.reverse ++ .ref (a 0) :: rest) (hn : As.length = n) (hsz : ls.size = nL) (hW : (rest.map fun v => v.category).sum ≤ 8) (hdg : decode cc pc = .ok (.invokevirtual index, 3)) (hf : cells ≤ R.cells ∧ slots ≤ R.slots)
    (kk : ∀ (r : Int32) (u : Nat → Int → Int) (H1 : Heap) (locs1 : List Loc), post r u → Lw G cx a b u τ H1 → va_S (fun q => s.heap.size ≤ q) s.heap H1 locs1 → W p l e R s m args below meth c H1 locs1 cells slots Q (F0 m (pc + 3) ls (.int r :: rest))) : W p l e R s m args below meth c H locs cells slots Q (F0 m pc ls st0) :=
  g_calli As S hM cw hK hL.1 hL.2.2.1 hS hA.1 0 4 rfl rfl hst hn hsz hW hdg hf (fun r u H1 locs1 hp hP hD hS1 hz hk => kk r u H1 locs1 hp (l_keepM hL hA hP hD hk) hS1)
theorem l_callM {post : Int32 → (Nat → Int → Int) → Prop} (As : List Value) (S : CallFix p m c cc nL s args Ts own) (hM : Met l y ws rm (va_Pc (.ref (b 0) :: As) (gW G (tm cx) (MA b) (wm cx b) τ)) (va_Qi post (gW G (tm cx) (MA b) (wm cx b)) (MA b)) 0 0 (MA b)) (cw : CallW R s args own RX5 index y bytes maxL ret ws rm 0 0 n)
    (hK : va_K G vwCl (tx cx) s) (hL : Lw G cx a b σ τ H) (hA : Apt a b s.heap.size) (hS : va_S (fun q => s.heap.size ≤ q) s.heap H locs) (hst : st0 = As.reverse ++ .ref (b 0) :: rest) (hn : As.length = n) (hsz : ls.size = nL) (hW : (rest.map fun v => v.category).sum ≤ 8) (hdg : decode cc pc = .ok (.invokevirtual index, 3)) (hf : cells ≤ R.cells ∧ slots ≤ R.slots)
    (kk : ∀ (r : Int32) (u : Nat → Int → Int) (H1 : Heap) (locs1 : List Loc), post r u → Lw G cx a b σ u H1 → va_S (fun q => s.heap.size ≤ q) s.heap H1 locs1 → W p l e R s m args below meth c H1 locs1 cells slots Q (F0 m (pc + 3) ls (.int r :: rest))) : W p l e R s m args below meth c H locs cells slots Q (F0 m pc ls st0) :=
  g_calli As S hM cw (hK.sub [0, 1, 2] rfl) hL.2.1 hL.2.2.2 hS hA.2.1 0 5 rfl rfl hst hn hsz hW hdg hf (fun r u H1 locs1 hp hP hD hS1 hz hk => kk r u H1 locs1 hp (l_keepX hL hA hP hD hk) hS1)
theorem l_callXf {post : UInt32 → (Nat → Int → Int) → Prop} (As : List Value) (S : CallFix p m c cc nL s args Ts own) (hM : Met l y ws rm (va_Pc (.ref (a 0) :: As) (gW G (tx cx) (XA a) (wx cx a) σ)) (va_Qf post (gW G (tx cx) (XA a) (wx cx a)) (XA a)) 0 0 (XA a)) (cw : CallW R s args own RX4 index y bytes maxL ret ws rm 0 0 n)
    (hK : va_K G vwCl (tx cx) s) (hL : Lw G cx a b σ τ H) (hA : Apt a b s.heap.size) (hS : va_S (fun q => s.heap.size ≤ q) s.heap H locs) (hst : st0 = As.reverse ++ .ref (a 0) :: rest) (hn : As.length = n) (hsz : ls.size = nL) (hW : (rest.map fun v => v.category).sum ≤ 8) (hdg : decode cc pc = .ok (.invokevirtual index, 3)) (hf : cells ≤ R.cells ∧ slots ≤ R.slots)
    (kk : ∀ (r : UInt32) (u : Nat → Int → Int) (H1 : Heap) (locs1 : List Loc), post r u → Lw G cx a b u τ H1 → va_S (fun q => s.heap.size ≤ q) s.heap H1 locs1 → W p l e R s m args below meth c H1 locs1 cells slots Q (F0 m (pc + 3) ls (.float r :: rest))) : W p l e R s m args below meth c H locs cells slots Q (F0 m pc ls st0) :=
  g_callf As S hM cw hK hL.1 hL.2.2.1 hS hA.1 0 4 rfl rfl hst hn hsz hW hdg hf (fun r u H1 locs1 hp hP hD hS1 hz hk => kk r u H1 locs1 hp (l_keepM hL hA hP hD hk) hS1)
theorem l_callMf {post : UInt32 → (Nat → Int → Int) → Prop} (As : List Value) (S : CallFix p m c cc nL s args Ts own) (hM : Met l y ws rm (va_Pc (.ref (b 0) :: As) (gW G (tm cx) (MA b) (wm cx b) τ)) (va_Qf post (gW G (tm cx) (MA b) (wm cx b)) (MA b)) 0 0 (MA b)) (cw : CallW R s args own RX5 index y bytes maxL ret ws rm 0 0 n)
    (hK : va_K G vwCl (tx cx) s) (hL : Lw G cx a b σ τ H) (hA : Apt a b s.heap.size) (hS : va_S (fun q => s.heap.size ≤ q) s.heap H locs) (hst : st0 = As.reverse ++ .ref (b 0) :: rest) (hn : As.length = n) (hsz : ls.size = nL) (hW : (rest.map fun v => v.category).sum ≤ 8) (hdg : decode cc pc = .ok (.invokevirtual index, 3)) (hf : cells ≤ R.cells ∧ slots ≤ R.slots)
    (kk : ∀ (r : UInt32) (u : Nat → Int → Int) (H1 : Heap) (locs1 : List Loc), post r u → Lw G cx a b σ u H1 → va_S (fun q => s.heap.size ≤ q) s.heap H1 locs1 → W p l e R s m args below meth c H1 locs1 cells slots Q (F0 m (pc + 3) ls (.float r :: rest))) : W p l e R s m args below meth c H locs cells slots Q (F0 m pc ls st0) :=
  g_callf As S hM cw (hK.sub [0, 1, 2] rfl) hL.2.1 hL.2.2.2 hS hA.2.1 0 5 rfl rfl hst hn hsz hW hdg hf (fun r u H1 locs1 hp hP hD hS1 hz hk => kk r u H1 locs1 hp (l_keepX hL hA hP hD hk) hS1)
/-- a call that reads the static rows -/
theorem l_callXs {post : Int32 → (Nat → Int → Int) → Prop} {tl th : Nat} (As : List Value) (S : CallFix p m c cc nL s args Ts own) (hM : Met l y ws rm (va_Pc (.ref (a 0) :: As) (fun U => gW G (tx cx) (XA a) (wx cx a) σ U ∧ st4 (XA a) tl th U)) (va_Qi post (gW G (tx cx) (XA a) (wx cx a)) (XA a)) 0 0 (XA a)) (cw : CallW R s args own RX4 index y bytes maxL ret ws rm 0 0 n)
    (hK : va_K G vwCl (tx cx) s) (hL : Lw G cx a b σ τ H) (hA : Apt a b s.heap.size) (hS : va_S (fun q => s.heap.size ≤ q) s.heap H locs) (h4 : st4 (fun q => s.heap.size ≤ q) tl th s) (hst : st0 = As.reverse ++ .ref (a 0) :: rest) (hn : As.length = n) (hsz : ls.size = nL) (hW : (rest.map fun v => v.category).sum ≤ 8) (hdg : decode cc pc = .ok (.invokevirtual index, 3)) (hf : cells ≤ R.cells ∧ slots ≤ R.slots)
    (kk : ∀ (r : Int32) (u : Nat → Int → Int) (H1 : Heap) (locs1 : List Loc), post r u → Lw G cx a b u τ H1 → va_S (fun q => s.heap.size ≤ q) s.heap H1 locs1 → W p l e R s m args below meth c H1 locs1 cells slots Q (F0 m (pc + 3) ls (.int r :: rest))) : W p l e R s m args below meth c H locs cells slots Q (F0 m pc ls st0) := by
  subst hst
  have hb2 : FrameBlind (va_Pc (.ref (a 0) :: As) (fun U => gW G (tx cx) (XA a) (wx cx a) σ U ∧ st4 (XA a) tl th U)) := fun av U g mk q => ⟨q.1, ⟨q.2.1.1, va_K.moved (u := U) (U := U.calling g mk av) (Vm.Alike.refl U.vm) q.2.1.2.1, q.2.1.2.2⟩, q.2.2.blind⟩
  exact va_calli (va_runV S hM cw ⟨hb2, va_recv hK hL.1 (ci := 4) (q0 := 0) rfl rfl, fun U hU hW => ⟨rfl, ⟨by rw [hU]; exact hL.1, va_K.moved hW.alike hK, hL.2.2.1⟩, h4.to hS hU hW hA.1⟩⟩ rfl hn hsz rfl (lv_room hW) hdg hf) hS (fun z _ h => hA.1 z h) hA.1 (fun r u t H1 locs1 ht hvm hw hB hz hk hS1 => kk r u H1 locs1 hw (l_keepM hL hA (by rw [← ht]; exact hB.1) hB.2.2 hk) hS1)
end LCALL
