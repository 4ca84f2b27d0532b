/-! the law: two worlds of the program side by side -/
theorem LG_uniq {w : Int → Int} {v v' : Int} (h : LG_ w v) (h' : LG_ w v') : v = v' := by
  rcases h with ⟨a1, a2⟩ | ⟨a1, a2, a3, a4⟩ <;> rcases h' with ⟨b1, b2⟩ | ⟨b1, b2, b3, b4⟩
  · omega
  · exact absurd b3 (a2 v' b1 b2)
  · exact absurd a3 (b2 v a1 a2)
  · rcases Int.lt_trichotomy v v' with z | z | z
    · exact absurd a3 (b4 v a1 z)
    · exact z
    · exact absurd b3 (a4 v' b1 z)
theorem wx_fst {cx a : Nat → Nat} {σ : Nat → Int → Int} : (wx cx a σ).map Prod.fst = (List.range 70).map a := rfl
theorem wx_at {cx a : Nat → Nat} {σ : Nat → Int → Int} {k : Nat} {q : Nat × va_E} (h : (wx cx a σ)[k]? = some q) : k < 70 ∧ q.1 = a k := by
  have hk : k < 70 := (List.getElem?_eq_some_iff.mp h).1
  have h1 : ((wx cx a σ).map Prod.fst)[k]? = some q.1 := by rw [List.getElem?_map, h]; rfl
  rw [wx_fst, List.getElem?_map, List.getElem?_range hk] at h1
  exact ⟨hk, (Option.some.inj h1).symm⟩
theorem wx_get {cx a : Nat → Nat} {σ : Nat → Int → Int} {k : Nat} (hk : k < 70) : ∃ q : Nat × va_E, (wx cx a σ)[k]? = some q ∧ q.1 = a k :=
  ⟨_, List.getElem?_eq_getElem (l := wx cx a σ) (i := k) hk, (wx_at (List.getElem?_eq_getElem (l := wx cx a σ) (i := k) hk)).2⟩
def PA (a b : Nat → Nat) : Nat → Prop := fun q => XA a q ∨ XA b q
/-- the two worlds, apart -/
def Lp (G : va_G) (cx a b : Nat → Nat) (σ τ : Nat → Int → Int) (H : Heap) : Prop := va_P G vwCl (wx cx a σ) H ∧ va_P G vwCl (wx cx b τ) H ∧ va_D (XA a) (wx cx a σ) ∧ va_D (XA b) (wx cx b τ)
def Ap (a b : Nat → Nat) (A0 : Nat → Prop) : Prop := (∀ q, XA a q → A0 q) ∧ (∀ q, XA b q → A0 q) ∧ ∀ q, XA a q → ¬ XA b q
theorem Lp_of {G : va_G} {cx a b : Nat → Nat} {σ τ : Nat → Int → Int} {H : Heap} {n : Nat} (hP : va_P G vwCl (wx cx a σ ++ wx cx b τ) H) (hD : va_D (fun q => n ≤ q) (wx cx a σ ++ wx cx b τ)) : Lp G cx a b σ τ H ∧ Ap a b (fun q => n ≤ q) := by
  have lX : (wx cx a σ).length = 70 := rfl
  have hx : ∀ (k : Nat) (q : Nat × va_E), (wx cx a σ)[k]? = some q → (wx cx a σ ++ wx cx b τ)[k]? = some q := fun k q h => by
    rw [List.getElem?_append_left (List.getElem?_eq_some_iff.mp h).1]; exact h
  have hm : ∀ (k : Nat) (q : Nat × va_E), (wx cx b τ)[k]? = some q → (wx cx a σ ++ wx cx b τ)[70 + k]? = some q := fun k q h => by
    rw [List.getElem?_append_right (by omega), show 70 + k - (wx cx a σ).length = k by omega]; exact h
  refine ⟨⟨fun k q h => hP k q (hx k q h), fun k q h => hP (70 + k) q (hm k q h), ⟨fun i j p q hi hj e => hD.1 i j p q (hx i p hi) (hx j q hj) e, fun k q h => ⟨k, (wx_at h).1, (wx_at h).2⟩⟩, ⟨fun i j p q hi hj e => ?_, fun k q h => ⟨k, (wx_at h).1, (wx_at h).2⟩⟩⟩, fun q h => ?_, fun q h => ?_, fun q h h2 => ?_⟩
  · have := hD.1 (70 + i) (70 + j) p q (hm i p hi) (hm j q hj) e
    omega
  · obtain ⟨k, hk, rfl⟩ := h
    obtain ⟨q, h1, h2⟩ := wx_get (cx := cx) (a := a) (σ := σ) hk
    rw [← h2]
    exact hD.2 k q (hx k q h1)
  · obtain ⟨k, hk, rfl⟩ := h
    obtain ⟨q, h1, h2⟩ := wx_get (cx := cx) (a := b) (σ := τ) hk
    rw [← h2]
    exact hD.2 (70 + k) q (hm k q h1)
  · obtain ⟨k, hk, e1⟩ := h
    obtain ⟨j, hj, e2⟩ := h2
    obtain ⟨x, h1, h3⟩ := wx_get (cx := cx) (a := a) (σ := σ) hk
    obtain ⟨y, h4, h5⟩ := wx_get (cx := cx) (a := b) (σ := τ) hj
    have := hD.1 k (70 + j) x y (hx k x h1) (hm j y h4) (by rw [h3, h5, ← e1, ← e2])
    omega
section PROWS
variable {p : Program} {l : Launch} {e : Env} {R : Room} {s : State} {m : MethodId} {args : Array Value} {below : List Frame} {meth : Method} {c : Code} {H : Heap} {locs : List Loc} {cells slots : Nat} {Q : State → Prop}
variable {cc : ByteArray} {pc : Nat} {ls : Array Slot} {rest : List Value} {G : va_G} {cx a b : Nat → Nat} {σ τ : Nat → Int → Int} {A0 : Nat → Prop}
variable {y : MethodName} {bytes : ByteArray} {maxL nL n index : Nat} {ret : Option FieldType} {ws : List Cond} {rm : Room} {Ts : List Cond} {own : String} {st0 : List Value} {tl th : Nat}
theorem p_keepB (hL : Lp G cx a b σ τ H) (hA : Ap a b A0) {H1 : Heap} {u : Nat → Int → Int} (hP : va_P G vwCl (wx cx a u) H1) (hD : va_D (XA a) (wx cx a u)) (hk : ∀ z : Nat, z < H.size → ¬ XA a z → H1[z]? = H[z]?) : Lp G cx a b u τ H1 :=
  ⟨hP, hL.2.1.kept fun k x hx => hk x.1 (hL.2.1 k x hx).lt (fun z => hA.2.2 _ z ⟨k, (wx_at hx).1, (wx_at hx).2⟩), hD, hL.2.2.2⟩
theorem p_keepA (hL : Lp G cx a b σ τ H) (hA : Ap a b A0) {H1 : Heap} {u : Nat → Int → Int} (hP : va_P G vwCl (wx cx b u) H1) (hD : va_D (XA b) (wx cx b u)) (hk : ∀ z : Nat, z < H.size → ¬ XA b z → H1[z]? = H[z]?) : Lp G cx a b σ u H1 :=
  ⟨hL.1.kept fun k x hx => hk x.1 (hL.1 k x hx).lt (fun z => hA.2.2 _ ⟨k, (wx_at hx).1, (wx_at hx).2⟩ z), hP, hL.2.2.1, hD⟩
theorem p_callA {post : Int32 → (Nat → Int → Int) → Prop} (As : List Value) (S : CallFix p m c cc nL s args Ts own) (hM : Met l y ws rm (va_Pc (.ref (a 0) :: As) (gW G (tx cx) (XA a) (wx cx a) σ)) (va_Qi post (gW G (tx cx) (XA a) (wx cx a)) (XA a)) 0 0 (XA a)) (cw : CallW R s args own RX4 index y bytes maxL ret ws rm 0 0 n)
    (hK : va_K G vwCl (tx cx) s) (hL : Lp G cx a b σ τ H) (hA : Ap a b A0) (hS : va_S A0 s.heap H locs) (hst : st0 = As.reverse ++ .ref (a 0) :: rest) (hn : As.length = n) (hsz : ls.size = nL) (hW : (rest.map fun v => v.category).sum ≤ 8) (hdg : decode cc pc = .ok (.invokevirtual index, 3)) (hf : cells ≤ R.cells ∧ slots ≤ R.slots)
    (kk : ∀ (r : Int32) (u : Nat → Int → Int) (H1 : Heap) (locs1 : List Loc), post r u → Lp G cx a b u τ H1 → va_S A0 s.heap H1 locs1 → W p l e R s m args below meth c H1 locs1 cells slots Q (F0 m (pc + 3) ls (.int r :: rest))) : W p l e R s m args below meth c H locs cells slots Q (F0 m pc ls st0) :=
  g_calli As S hM cw hK hL.1 hL.2.2.1 hS hA.1 0 4 rfl rfl hst hn hsz hW hdg hf (fun r u H1 locs1 hp hP hD hS1 hz hk => kk r u H1 locs1 hp (p_keepB hL hA hP hD hk) hS1)
theorem p_callB {post : Int32 → (Nat → Int → Int) → Prop} (As : List Value) (S : CallFix p m c cc nL s args Ts own) (hM : Met l y ws rm (va_Pc (.ref (b 0) :: As) (gW G (tx cx) (XA b) (wx cx b) τ)) (va_Qi post (gW G (tx cx) (XA b) (wx cx b)) (XA b)) 0 0 (XA b)) (cw : CallW R s args own RX4 index y bytes maxL ret ws rm 0 0 n)
    (hK : va_K G vwCl (tx cx) s) (hL : Lp G cx a b σ τ H) (hA : Ap a b A0) (hS : va_S A0 s.heap H locs) (hst : st0 = As.reverse ++ .ref (b 0) :: rest) (hn : As.length = n) (hsz : ls.size = nL) (hW : (rest.map fun v => v.category).sum ≤ 8) (hdg : decode cc pc = .ok (.invokevirtual index, 3)) (hf : cells ≤ R.cells ∧ slots ≤ R.slots)
    (kk : ∀ (r : Int32) (u : Nat → Int → Int) (H1 : Heap) (locs1 : List Loc), post r u → Lp G cx a b σ u H1 → va_S A0 s.heap H1 locs1 → W p l e R s m args below meth c H1 locs1 cells slots Q (F0 m (pc + 3) ls (.int r :: rest))) : W p l e R s m args below meth c H locs cells slots Q (F0 m pc ls st0) :=
  g_calli As S hM cw hK hL.2.1 hL.2.2.2 hS hA.2.1 0 4 rfl rfl hst hn hsz hW hdg hf (fun r u H1 locs1 hp hP hD hS1 hz hk => kk r u H1 locs1 hp (p_keepA hL hA hP hD hk) hS1)
/-- the law's own methods over one world -/
theorem p_statA {post : Int32 → (Nat → Int → Int) → Prop} (As : List Value) (S : CallFix p m c cc nL s args Ts own) (hM : Met l y ws rm (va_Pc As (gW G (tx cx) (XA a) (wx cx a) σ)) (va_Qi post (gW G (tx cx) (XA a) (wx cx a)) (XA a)) 0 0 (XA a)) (cw : CallB R s args own index y bytes maxL ret ws rm 0 0 n ∧ (Cond.static y).before args s = true)
    (hK : va_K G vwCl (tx cx) s) (hL : Lp G cx a b σ τ H) (hA : Ap a b A0) (hS : va_S A0 s.heap H locs) (hst : st0 = As.reverse ++ rest) (hn : As.length = n) (hsz : ls.size = nL) (hW : (rest.map fun v => v.category).sum ≤ 8) (hdg : decode cc pc = .ok (.invokestatic index, 3)) (hf : cells ≤ R.cells ∧ slots ≤ R.slots)
    (kk : ∀ (r : Int32) (u : Nat → Int → Int) (H1 : Heap) (locs1 : List Loc), post r u → Lp G cx a b u τ H1 → va_S A0 s.heap H1 locs1 → W p l e R s m args below meth c H1 locs1 cells slots Q (F0 m (pc + 3) ls (.int r :: rest))) : W p l e R s m args below meth c H locs cells slots Q (F0 m pc ls st0) := by
  subst hst
  exact va_calli (va_runS S hM cw ⟨g_blind, fun U hU hW => ⟨rfl, by rw [hU]; exact hL.1, va_K.moved hW.alike hK, hL.2.2.1⟩⟩ rfl hn hsz rfl (lv_room hW) hdg hf) hS (fun z _ h => hA.1 z h) hA.1 (fun r u t H1 locs1 ht hvm hw hB hz hk hS1 => kk r u H1 locs1 hw (p_keepB hL hA (by rw [← ht]; exact hB.1) hB.2.2 hk) hS1)
/-- the change, over the one world and over the other -/
theorem p_chA {post : Int32 → (Nat → Int → Int) → Prop} (As : List Value) (S : CallFix p m c cc nL s args Ts own) (hM : Met l y ws rm (va_Pc As (fun U => gW G (tx cx) (XA a) (wx cx a) σ U ∧ st4 (XA a) tl th U)) (va_Qi post (gW G (tx cx) (XA a) (wx cx a)) (XA a)) 0 0 (XA a)) (cw : CallB R s args own index y bytes maxL ret ws rm 0 0 n ∧ (Cond.static y).before args s = true)
    (hK : va_K G vwCl (tx cx) s) (hL : Lp G cx a b σ τ H) (hA : Ap a b A0) (hS : va_S A0 s.heap H locs) (h4 : st4 A0 tl th s) (hst : st0 = As.reverse ++ rest) (hn : As.length = n) (hsz : ls.size = nL) (hW : (rest.map fun v => v.category).sum ≤ 8) (hdg : decode cc pc = .ok (.invokestatic index, 3)) (hf : cells ≤ R.cells ∧ slots ≤ R.slots)
    (kk : ∀ (r : Int32) (u : Nat → Int → Int) (H1 : Heap) (locs1 : List Loc), post r u → Lp G cx a b u τ H1 → va_S A0 s.heap H1 locs1 → W p l e R s m args below meth c H1 locs1 cells slots Q (F0 m (pc + 3) ls (.int r :: rest))) : W p l e R s m args below meth c H locs cells slots Q (F0 m pc ls st0) := by
  subst hst
  exact va_calli (va_runS S hM cw ⟨st_blind, fun U hU hW => ⟨rfl, ⟨by rw [hU]; exact hL.1, va_K.moved hW.alike hK, hL.2.2.1⟩, h4.to hS hU hW hA.1⟩⟩ rfl hn hsz rfl (lv_room hW) hdg hf) hS (fun z _ h => hA.1 z h) hA.1 (fun r u t H1 locs1 ht hvm hw hB hz hk hS1 => kk r u H1 locs1 hw (p_keepB hL hA (by rw [← ht]; exact hB.1) hB.2.2 hk) hS1)
theorem p_chB {post : Int32 → (Nat → Int → Int) → Prop} (As : List Value) (S : CallFix p m c cc nL s args Ts own) (hM : Met l y ws rm (va_Pc As (fun U => gW G (tx cx) (XA b) (wx cx b) τ U ∧ st4 (XA b) tl th U)) (va_Qi post (gW G (tx cx) (XA b) (wx cx b)) (XA b)) 0 0 (XA b)) (cw : CallB R s args own index y bytes maxL ret ws rm 0 0 n ∧ (Cond.static y).before args s = true)
    (hK : va_K G vwCl (tx cx) s) (hL : Lp G cx a b σ τ H) (hA : Ap a b A0) (hS : va_S A0 s.heap H locs) (h4 : st4 A0 tl th s) (hst : st0 = As.reverse ++ rest) (hn : As.length = n) (hsz : ls.size = nL) (hW : (rest.map fun v => v.category).sum ≤ 8) (hdg : decode cc pc = .ok (.invokestatic index, 3)) (hf : cells ≤ R.cells ∧ slots ≤ R.slots)
    (kk : ∀ (r : Int32) (u : Nat → Int → Int) (H1 : Heap) (locs1 : List Loc), post r u → Lp G cx a b σ u H1 → va_S A0 s.heap H1 locs1 → W p l e R s m args below meth c H1 locs1 cells slots Q (F0 m (pc + 3) ls (.int r :: rest))) : W p l e R s m args below meth c H locs cells slots Q (F0 m pc ls st0) := by
  subst hst
  exact va_calli (va_runS S hM cw ⟨st_blind, fun U hU hW => ⟨rfl, ⟨by rw [hU]; exact hL.2.1, va_K.moved hW.alike hK, hL.2.2.2⟩, h4.to hS hU hW hA.2.1⟩⟩ rfl hn hsz rfl (lv_room hW) hdg hf) hS (fun z _ h => hA.2.1 z h) hA.2.1 (fun r u t H1 locs1 ht hvm hw hB hz hk hS1 => kk r u H1 locs1 hw (p_keepA hL hA (by rw [← ht]; exact hB.1) hB.2.2 hk) hS1)
def Pp (G : va_G) (cx a b : Nat → Nat) (σ τ : Nat → Int → Int) (U : State) : Prop := Lp G cx a b σ τ U.heap ∧ va_K G vwCl (tx cx) U
/-- the law's own method over both worlds: only its answer counts -/
theorem p_both {post : Int32 → Unit → Prop} (As : List Value) (S : CallFix p m c cc nL s args Ts own) (hM : Met l y ws rm (va_Pc As (Pp G cx a b σ τ)) (va_Qi post (fun _ _ => True) (PA a b)) 0 0 (PA a b)) (cw : CallB R s args own index y bytes maxL ret ws rm 0 0 n ∧ (Cond.static y).before args s = true)
    (hK : va_K G vwCl (tx cx) s) (hL : Lp G cx a b σ τ H) (hA : Ap a b A0) (hS : va_S A0 s.heap H locs) (hst : st0 = As.reverse ++ rest) (hn : As.length = n) (hsz : ls.size = nL) (hW : (rest.map fun v => v.category).sum ≤ 8) (hdg : decode cc pc = .ok (.invokestatic index, 3)) (hf : cells ≤ R.cells ∧ slots ≤ R.slots)
    (kk : ∀ (r : Int32) (H1 : Heap) (locs1 : List Loc), post r () → va_S A0 s.heap H1 locs1 → W p l e R s m args below meth c H1 locs1 cells slots Q (F0 m (pc + 3) ls (.int r :: rest))) : W p l e R s m args below meth c H locs cells slots Q (F0 m pc ls st0) := by
  subst hst
  exact va_calli (va_runS S hM cw ⟨fun av U g mk q => ⟨q.1, q.2.1, va_K.moved (u := U) (U := U.calling g mk av) (Vm.Alike.refl U.vm) q.2.2⟩, fun U hU hW => ⟨rfl, by rw [hU]; exact hL, va_K.moved hW.alike hK⟩⟩ rfl hn hsz rfl (lv_room hW) hdg hf) hS (fun z _ h => h.elim (hA.1 z) (hA.2.1 z)) (fun z h => h.elim (hA.1 z) (hA.2.1 z)) (fun r u t H1 locs1 ht hvm hw hB hz hk hS1 => kk r H1 locs1 hw hS1)
/-- a number of the script -/
theorem p_cell {bs L : Nat} {xs : Nat → Int32} {k : Int} (S : CallFix p m c cc nL s args Ts own) (hM : Met l y ws rm (va_Pc [.ref bs, .int (iI k)] (fun U => va_X bs L xs U U.heap ∧ bs < U.heap.size)) (va_Qi (fun r (_ : Unit) => True) (fun _ _ => True) (fun _ => False)) 0 0 (fun _ => False)) (cw : CallB R s args own index y bytes maxL ret ws rm 0 0 2 ∧ (Cond.static y).before args s = true)
    (hX : va_X bs L xs s s.heap) (hbl : bs < s.heap.size) (hbA : ¬ A0 bs) (hL : Lp G cx a b σ τ H) (hS : va_S A0 s.heap H locs) (hsz : ls.size = nL) (hW : (rest.map fun v => v.category).sum ≤ 8) (hdg : decode cc pc = .ok (.invokestatic index, 3)) (hf : cells ≤ R.cells ∧ slots ≤ R.slots)
    (kk : ∀ (r : Int32) (H1 : Heap) (locs1 : List Loc), Lp G cx a b σ τ H1 → va_S A0 s.heap H1 locs1 → W p l e R s m args below meth c H1 locs1 cells slots Q (F0 m (pc + 3) ls (.int r :: rest))) : W p l e R s m args below meth c H locs cells slots Q (F0 m pc ls (.int (iI k) :: .ref bs :: rest)) := by
  have hH : va_X bs L xs s H := va_X.kept hX (hS.2.1 bs hbl hbA)
  exact va_calli (va_runS S hM cw ⟨fun av U g mk q => ⟨q.1, va_X.moved (u := U) (U := U.calling g mk av) (Vm.Alike.refl U.vm) q.2.1, q.2.2⟩, fun U hU hW => ⟨rfl, by rw [hU]; exact va_X.moved hW.alike hH, by rw [hU]; exact Nat.lt_of_lt_of_le hbl hS.1⟩⟩ rfl rfl hsz rfl (lv_room hW) hdg hf) hS (fun z _ h => h.elim) (fun z h => h.elim) (fun r u t H1 locs1 ht hvm hw hB hz hk hS1 => kk r H1 locs1 ⟨hL.1.kept fun k x hx => hk x.1 (hL.1 k x hx).lt (fun z => z), hL.2.1.kept fun k x hx => hk x.1 (hL.2.1 k x hx).lt (fun z => z), hL.2.2⟩ hS1)
end PROWS
