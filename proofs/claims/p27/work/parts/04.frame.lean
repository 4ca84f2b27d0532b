/-! a world that a function lays out: what it holds (σ: by component and place) names the cells (wf σ); contracts over it, calls with it, ends of methods -/
abbrev gW (G : va_G) (tys : List (ClassId × FieldType)) (A : Nat → Prop) (wf : (Nat → Int → Int) → va_W) (σ : Nat → Int → Int) (U : State) : Prop := va_P G vwCl (wf σ) U.heap ∧ va_K G vwCl tys U ∧ va_D A (wf σ)
def st (σ : Nat → Int → Int) (c : Nat) (i v : Int) : Nat → Int → Int := fun d => bif Nat.beq d c then ups (σ c) i v else σ d
def sc (σ : Nat → Int → Int) (c : Nat) (f : Int → Int) : Nat → Int → Int := fun d => bif Nat.beq d c then f else σ d
theorem st_s (σ : Nat → Int → Int) (c : Nat) (i v : Int) : st σ c i v c = ups (σ c) i v := by unfold st; rw [Nat.beq_refl]; rfl
theorem st_d (σ : Nat → Int → Int) {c d : Nat} (i v : Int) (h : d ≠ c) : st σ c i v d = σ d := by
  unfold st
  cases q : Nat.beq d c
  · rfl
  · exact absurd (Nat.eq_of_beq_eq_true q) h
theorem st_a (σ : Nat → Int → Int) (c d : Nat) (i v k : Int) : st σ c i v d k = if d = c ∧ k = i then v else σ d k := by
  by_cases h : d = c
  · subst h
    rw [st_s]
    unfold ups
    by_cases h2 : k = i
    · rw [if_pos h2, if_pos ⟨rfl, h2⟩]
    · rw [if_neg h2, if_neg (fun q => h2 q.2)]
  · rw [st_d _ _ _ h, if_neg (fun q => h q.1)]
theorem sc_s (σ : Nat → Int → Int) (c : Nat) (f : Int → Int) : sc σ c f c = f := by unfold sc; rw [Nat.beq_refl]; rfl
theorem sc_d (σ : Nat → Int → Int) {c d : Nat} (f : Int → Int) (h : d ≠ c) : sc σ c f d = σ d := by
  unfold sc
  cases q : Nat.beq d c
  · rfl
  · exact absurd (Nat.eq_of_beq_eq_true q) h
/-- rows that agree where they are, are one row -/
theorem arrV_ext (cA : ClassId) {n : Nat} {f g : Nat → Value} (h : ∀ k, k < n → f k = g k) : arrV cA n f = arrV cA n g := by
  unfold arrV
  have e : (fun j : Fin n => f j.val) = (fun j : Fin n => g j.val) := funext fun j => h j.val j.isLt
  rw [e]
theorem at_I {D : va_G} {cl : List vw_C} {b n : Nat} {cA : ClassId} {f g : Int → Int} (h : ∀ k : Int, 0 ≤ k → k < (n : Int) → f k = g k) (H : Heap) (hp : va_at D cl (b, .inl (cA, n, .inl (aI f))) H) : va_at D cl (b, .inl (cA, n, .inl (aI g))) H := by
  have e : vp_cell cA (n, .inl (aI f)) = vp_cell cA (n, .inl (aI g)) := by
    rw [vp_cell_i, vp_cell_i]
    exact arrV_ext cA fun k hk => by show Value.int (iI (f k)) = Value.int (iI (g k)); rw [h k (by omega) (by omega)]
  show H[b]? = some (vp_cell cA (n, .inl (aI g)))
  rw [← e]
  exact hp
theorem at_L {D : va_G} {cl : List vw_C} {b n : Nat} {cA : ClassId} {f g : Int → Int} (h : ∀ k : Int, 0 ≤ k → k < (n : Int) → f k = g k) (H : Heap) (hp : va_at D cl (b, .inl (cA, n, .inr (.inl (aL f)))) H) : va_at D cl (b, .inl (cA, n, .inr (.inl (aL g)))) H := by
  have e : vp_cell cA (n, .inr (.inl (aL f))) = vp_cell cA (n, .inr (.inl (aL g))) := by
    rw [vp_cell_l, vp_cell_l]
    exact arrV_ext cA fun k hk => by show Value.long (lI (f k)) = Value.long (lI (g k)); rw [h k (by omega) (by omega)]
  show H[b]? = some (vp_cell cA (n, .inr (.inl (aL g))))
  rw [← e]
  exact hp
/-- a world said by other words, cell by cell -/
def leW (D : va_G) (cl : List vw_C) : va_W → va_W → Prop
  | [], [] => True
  | x :: xs, y :: ys => (x.1 = y.1 ∧ ∀ H, va_at D cl x H → va_at D cl y H) ∧ leW D cl xs ys
  | _, _ => False
theorem leW_at {D : va_G} {cl : List vw_C} : ∀ {ws ws' : va_W}, leW D cl ws ws' → ∀ (k : Nat) (q : Nat × va_E), ws'[k]? = some q → ∃ q0, ws[k]? = some q0 ∧ q0.1 = q.1 ∧ ∀ H, va_at D cl q0 H → va_at D cl q H
  | [], [], _, k, q, hq => by simp at hq
  | [], y :: ys, h, k, q, hq => h.elim
  | x :: xs, [], h, k, q, hq => h.elim
  | x :: xs, y :: ys, h, 0, q, hq => by
    rw [List.getElem?_cons_zero] at hq
    cases hq
    exact ⟨x, List.getElem?_cons_zero, h.1⟩
  | x :: xs, y :: ys, h, k + 1, q, hq => by
    rw [List.getElem?_cons_succ] at hq
    obtain ⟨q0, h1, h2⟩ := leW_at h.2 k q hq
    exact ⟨q0, by rw [List.getElem?_cons_succ]; exact h1, h2⟩
theorem leW_P {D : va_G} {cl : List vw_C} {ws ws' : va_W} {H : Heap} (h : leW D cl ws ws') (hP : va_P D cl ws H) : va_P D cl ws' H := fun k q hq => by
  obtain ⟨q0, h1, -, h2⟩ := leW_at h k q hq
  exact h2 H (hP k q0 h1)
theorem leW_D {D : va_G} {cl : List vw_C} {A : Nat → Prop} {ws ws' : va_W} (h : leW D cl ws ws') (hD : va_D A ws) : va_D A ws' := by
  refine ⟨fun i j x y hi hj hxy => ?_, fun k q hq => ?_⟩
  · obtain ⟨x0, h1, h2, -⟩ := leW_at h i x hi
    obtain ⟨y0, h3, h4, -⟩ := leW_at h j y hj
    exact hD.1 i j x0 y0 h1 h3 (h2.trans (hxy.trans h4.symm))
  · obtain ⟨q0, h1, h2, -⟩ := leW_at h k q hq
    rw [← h2]
    exact hD.2 k q0 h1
theorem leW_r {D : va_G} {cl : List vw_C} {x y : Nat × va_E} {xs ys : va_W} (h : leW D cl xs ys) (h1 : x.1 = y.1) (h2 : ∀ H, va_at D cl x H → va_at D cl y H) : leW D cl (x :: xs) (y :: ys) := ⟨⟨h1, h2⟩, h⟩
theorem leW_k {D : va_G} {cl : List vw_C} {x : Nat × va_E} {xs ys : va_W} (h : leW D cl xs ys) : leW D cl (x :: xs) (x :: ys) := ⟨⟨rfl, fun _ q => q⟩, h⟩
theorem leW_0 {D : va_G} {cl : List vw_C} : leW D cl [] [] := trivial
theorem leW_i {D : va_G} {cl : List vw_C} {b n : Nat} {cA : ClassId} {f g : Int → Int} {xs ys : va_W} (h : leW D cl xs ys) (hf : ∀ k : Int, 0 ≤ k → k < (n : Int) → f k = g k) : leW D cl ((b, .inl (cA, n, .inl (aI f))) :: xs) ((b, .inl (cA, n, .inl (aI g))) :: ys) := ⟨⟨rfl, at_I hf⟩, h⟩
theorem leW_l {D : va_G} {cl : List vw_C} {b n : Nat} {cA : ClassId} {f g : Int → Int} {xs ys : va_W} (h : leW D cl xs ys) (hf : ∀ k : Int, 0 ≤ k → k < (n : Int) → f k = g k) : leW D cl ((b, .inl (cA, n, .inr (.inl (aL f)))) :: xs) ((b, .inl (cA, n, .inr (.inl (aL g)))) :: ys) := ⟨⟨rfl, at_L hf⟩, h⟩
/-- an object whose fields are the same values -/
theorem leW_o {D : va_G} {cl : List vw_C} {b ci : Nat} {fs gs : List Value} {xs ys : va_W} (h : leW D cl xs ys) (hf : fs = gs) : leW D cl ((b, .inr (ci, fs)) :: xs) ((b, .inr (ci, gs)) :: ys) := by subst hf; exact leW_k h
theorem nar_b {P : Prop} {v : Int} (h : (P ∧ v = 1) ∨ (¬ P ∧ v = 0)) : narrow .boolean (.int (iI v)) = .int (iI v) := by
  rcases h with ⟨-, rfl⟩ | ⟨-, rfl⟩ <;> rfl
section GROWS
variable {p : Program} {l : Launch} {e : Env} {R : Room} {s : State} {m : MethodId} {args : Array Value} {below : List Frame} {meth : Method} {c : Code} {H : Heap} {locs : List Loc} {cells slots : Nat} {Q : State → Prop}
variable {cc : ByteArray} {pc : Nat} {ls : Array Slot} {rest : List Value} {G : va_G} {tys : List (ClassId × FieldType)} {A A0 : Nat → Prop} {wf : (Nat → Int → Int) → va_W} {σ : Nat → Int → Int} {H0 : Heap}
theorem g_blind {av : List Value} : FrameBlind (va_Pc av (gW G tys A wf σ)) := fun a U g mk q => ⟨q.1, q.2.1, va_K.moved (u := U) (U := U.calling g mk a) (Vm.Alike.refl U.vm) q.2.2.1, q.2.2.2⟩
theorem g_preV (hK : va_K G vwCl tys s) (hP : va_P G vwCl (wf σ) H) (hD : va_D A (wf σ)) (q0 ci : Nat) {q : vw_C} {b : Nat} {fs : List Value} (hc : vwCl[ci]? = some q) (he : (wf σ)[q0]? = some (b, .inr (ci, fs))) {As : List Value} : PreV s H q.1 b (va_Pc (.ref b :: As) (gW G tys A wf σ)) As :=
  ⟨g_blind, va_recv hK hP hc he, fun U hU hW => ⟨rfl, by rw [hU]; exact hP, va_K.moved hW.alike hK, hD⟩⟩
variable {y : MethodName} {bytes : ByteArray} {maxL nL n index : Nat} {ret : Option FieldType} {ws : List Cond} {rm : Room} {Ts : List Cond} {own : String} {b : Addr} {st0 : List Value} {q : vw_C} {fs : List Value}
theorem g_calli {post : Int32 → (Nat → Int → Int) → Prop} (As : List Value) (S : CallFix p m c cc nL s args Ts own) (hM : Met l y ws rm (va_Pc (.ref b :: As) (gW G tys A wf σ)) (va_Qi post (gW G tys A wf) A) 0 0 A) (cw : CallW R s args own q.1 index y bytes maxL ret ws rm 0 0 n)
    (hK : va_K G vwCl tys s) (hP : va_P G vwCl (wf σ) H) (hD : va_D A (wf σ)) (hS : va_S A0 H0 H locs) (hA : ∀ z, A z → A0 z) (q0 ci : Nat) (hc : vwCl[ci]? = some q) (he : (wf σ)[q0]? = some (b, .inr (ci, fs))) (hst : st0 = As.reverse ++ .ref b :: rest) (hn : As.length = n) (hsz : ls.size = nL) (hW : (rest.map fun v => v.category).sum ≤ 8) (hdg : decode cc pc = .ok (.invokevirtual index, 3)) (hf : cells ≤ R.cells ∧ slots ≤ R.slots)
    (kk : ∀ (r : Int32) (u : Nat → Int → Int) (H1 : Heap) (locs1 : List Loc), post r u → va_P G vwCl (wf u) H1 → va_D A (wf u) → va_S A0 H0 H1 locs1 → H.size ≤ H1.size → (∀ z : Nat, z < H.size → ¬ A z → H1[z]? = H[z]?) → W p l e R s m args below meth c H1 locs1 cells slots Q (F0 m (pc + 3) ls (.int r :: rest))) : W p l e R s m args below meth c H locs cells slots Q (F0 m pc ls st0) := by
  subst hst
  exact va_calli (va_runV S hM cw (g_preV hK hP hD q0 ci hc he) rfl hn hsz rfl (lv_room hW) hdg hf) hS (fun z _ h => hA z h) hA (fun r u t H1 locs1 ht hvm hw hB hz hk hS1 => kk r u H1 locs1 hw (by rw [← ht]; exact hB.1) hB.2.2 hS1 hz hk)
theorem g_calll {post : Int64 → (Nat → Int → Int) → Prop} (As : List Value) (S : CallFix p m c cc nL s args Ts own) (hM : Met l y ws rm (va_Pc (.ref b :: As) (gW G tys A wf σ)) (va_Ql post (gW G tys A wf) A) 0 0 A) (cw : CallW R s args own q.1 index y bytes maxL ret ws rm 0 0 n)
    (hK : va_K G vwCl tys s) (hP : va_P G vwCl (wf σ) H) (hD : va_D A (wf σ)) (hS : va_S A0 H0 H locs) (hA : ∀ z, A z → A0 z) (q0 ci : Nat) (hc : vwCl[ci]? = some q) (he : (wf σ)[q0]? = some (b, .inr (ci, fs))) (hst : st0 = As.reverse ++ .ref b :: rest) (hn : As.length = n) (hsz : ls.size = nL) (hW : (rest.map fun v => v.category).sum ≤ 8) (hdg : decode cc pc = .ok (.invokevirtual index, 3)) (hf : cells ≤ R.cells ∧ slots ≤ R.slots)
    (kk : ∀ (r : Int64) (u : Nat → Int → Int) (H1 : Heap) (locs1 : List Loc), post r u → va_P G vwCl (wf u) H1 → va_D A (wf u) → va_S A0 H0 H1 locs1 → H.size ≤ H1.size → (∀ z : Nat, z < H.size → ¬ A z → H1[z]? = H[z]?) → W p l e R s m args below meth c H1 locs1 cells slots Q (F0 m (pc + 3) ls (.long r :: rest))) : W p l e R s m args below meth c H locs cells slots Q (F0 m pc ls st0) := by
  subst hst
  exact va_calll (va_runV S hM cw (g_preV hK hP hD q0 ci hc he) rfl hn hsz rfl (lv_room hW) hdg hf) hS (fun z _ h => hA z h) hA (fun r u t H1 locs1 ht hvm hw hB hz hk hS1 => kk r u H1 locs1 hw (by rw [← ht]; exact hB.1) hB.2.2 hS1 hz hk)
theorem g_callf {post : UInt32 → (Nat → Int → Int) → Prop} (As : List Value) (S : CallFix p m c cc nL s args Ts own) (hM : Met l y ws rm (va_Pc (.ref b :: As) (gW G tys A wf σ)) (va_Qf post (gW G tys A wf) A) 0 0 A) (cw : CallW R s args own q.1 index y bytes maxL ret ws rm 0 0 n)
    (hK : va_K G vwCl tys s) (hP : va_P G vwCl (wf σ) H) (hD : va_D A (wf σ)) (hS : va_S A0 H0 H locs) (hA : ∀ z, A z → A0 z) (q0 ci : Nat) (hc : vwCl[ci]? = some q) (he : (wf σ)[q0]? = some (b, .inr (ci, fs))) (hst : st0 = As.reverse ++ .ref b :: rest) (hn : As.length = n) (hsz : ls.size = nL) (hW : (rest.map fun v => v.category).sum ≤ 8) (hdg : decode cc pc = .ok (.invokevirtual index, 3)) (hf : cells ≤ R.cells ∧ slots ≤ R.slots)
    (kk : ∀ (r : UInt32) (u : Nat → Int → Int) (H1 : Heap) (locs1 : List Loc), post r u → va_P G vwCl (wf u) H1 → va_D A (wf u) → va_S A0 H0 H1 locs1 → H.size ≤ H1.size → (∀ z : Nat, z < H.size → ¬ A z → H1[z]? = H[z]?) → W p l e R s m args below meth c H1 locs1 cells slots Q (F0 m (pc + 3) ls (.float r :: rest))) : W p l e R s m args below meth c H locs cells slots Q (F0 m pc ls st0) := by
  subst hst
  exact va_callf (va_runV S hM cw (g_preV hK hP hD q0 ci hc he) rfl hn hsz rfl (lv_room hW) hdg hf) hS (fun z _ h => hA z h) hA (fun r u t H1 locs1 ht hvm hw hB hz hk hS1 => kk r u H1 locs1 hw (by rw [← ht]; exact hB.1) hB.2.2 hS1 hz hk)
theorem g_callv {post : (Nat → Int → Int) → Prop} (As : List Value) (S : CallFix p m c cc nL s args Ts own) (hM : Met l y ws rm (va_Pc (.ref b :: As) (gW G tys A wf σ)) (va_Qv post (gW G tys A wf) A) 0 0 A) (cw : CallW R s args own q.1 index y bytes maxL ret ws rm 0 0 n)
    (hK : va_K G vwCl tys s) (hP : va_P G vwCl (wf σ) H) (hD : va_D A (wf σ)) (hS : va_S A0 H0 H locs) (hA : ∀ z, A z → A0 z) (q0 ci : Nat) (hc : vwCl[ci]? = some q) (he : (wf σ)[q0]? = some (b, .inr (ci, fs))) (hst : st0 = As.reverse ++ .ref b :: rest) (hn : As.length = n) (hsz : ls.size = nL) (hW : (rest.map fun v => v.category).sum ≤ 8) (hdg : decode cc pc = .ok (.invokevirtual index, 3)) (hf : cells ≤ R.cells ∧ slots ≤ R.slots)
    (kk : ∀ (u : Nat → Int → Int) (H1 : Heap) (locs1 : List Loc), post u → va_P G vwCl (wf u) H1 → va_D A (wf u) → va_S A0 H0 H1 locs1 → H.size ≤ H1.size → (∀ z : Nat, z < H.size → ¬ A z → H1[z]? = H[z]?) → W p l e R s m args below meth c H1 locs1 cells slots Q (F0 m (pc + 3) ls rest)) : W p l e R s m args below meth c H locs cells slots Q (F0 m pc ls st0) := by
  subst hst
  exact va_callv (va_runV S hM cw (g_preV hK hP hD q0 ci hc he) rfl hn hsz rfl (lv_room hW) hdg hf) hS (fun z _ h => hA z h) hA (fun u t H1 locs1 ht hvm hw hB hz hk hS1 => kk u H1 locs1 hw (by rw [← ht]; exact hB.1) hB.2.2 hS1 hz hk)
/-- a static method that touches no cell: numbers to a number -/
theorem g_callS {post : Int32 → Unit → Prop} (As : List Value) (S : CallFix p m c cc nL s args Ts own) (hM : Met l y ws rm (va_Pc As (fun _ => True)) (va_Qi post (fun _ _ => True) (fun _ => False)) 0 0 (fun _ => False)) (cw : CallB R s args own index y bytes maxL ret ws rm 0 0 n ∧ (Cond.static y).before args s = true)
    (hP : va_P G vwCl (wf σ) H) (hS : va_S A0 H0 H locs) (hst : st0 = As.reverse ++ rest) (hn : As.length = n) (hsz : ls.size = nL) (hW : (rest.map fun v => v.category).sum ≤ 8) (hdg : decode cc pc = .ok (.invokestatic index, 3)) (hf : cells ≤ R.cells ∧ slots ≤ R.slots)
    (kk : ∀ (r : Int32) (H1 : Heap) (locs1 : List Loc), post r () → va_P G vwCl (wf σ) H1 → va_S A0 H0 H1 locs1 → W p l e R s m args below meth c H1 locs1 cells slots Q (F0 m (pc + 3) ls (.int r :: rest))) : W p l e R s m args below meth c H locs cells slots Q (F0 m pc ls st0) := by
  subst hst
  exact va_calli (va_runS S hM cw ⟨fun a U g mk q => q, fun U hU hW => ⟨rfl, trivial⟩⟩ rfl hn hsz rfl (lv_room hW) hdg hf) hS (fun z _ h => h.elim) (fun z h => h.elim) (fun r u t H1 locs1 ht hvm hw hB hz hk hS1 => kk r H1 locs1 hw (hP.kept fun k x hx => hk x.1 (hP k x hx).lt (fun z => z)) hS1)
/-- the ends -/
theorem g_iret {post : Int32 → (Nat → Int → Int) → Prop} {v : Int32} {u : Nat → Int → Int} (hx : p.tables.exec = Jvm.exec) (hb : c.code = cc) (hr : meth.sig.returnType = some .int) (hlocks : meth.locks = false) (hK : va_K G vwCl tys s) (hP : va_P G vwCl (wf u) H) (hD : va_D A (wf u)) (hS : va_S A s.heap H locs) (hpost : post v u) (hdg : decode cc pc = .ok (.ireturn, 1)) : W p l e R s m args below meth c H locs cells slots (MQ below (va_Qi post (gW G tys A wf) A) args s cells slots A) (F0 m pc ls [.int v]) :=
  W.iret hx hb hr (fun t ht hW => ⟨⟨v, u, rfl, hpost, by rw [ht]; exact hP, va_K.moved hW.alike hK, hD⟩, hS.F ht⟩) hS.2.2 hdg hlocks
theorem g_zret {post : Int32 → (Nat → Int → Int) → Prop} {v : Int32} {u : Nat → Int → Int} (hx : p.tables.exec = Jvm.exec) (hb : c.code = cc) (hr : meth.sig.returnType = some .boolean) (hlocks : meth.locks = false) (hn : narrow .boolean (.int v) = .int v) (hK : va_K G vwCl tys s) (hP : va_P G vwCl (wf u) H) (hD : va_D A (wf u)) (hS : va_S A s.heap H locs) (hpost : post v u) (hdg : decode cc pc = .ok (.ireturn, 1)) : W p l e R s m args below meth c H locs cells slots (MQ below (va_Qi post (gW G tys A wf) A) args s cells slots A) (F0 m pc ls [.int v]) :=
  W.zret hx hb hr hn (fun t ht hW => ⟨⟨v, u, rfl, hpost, by rw [ht]; exact hP, va_K.moved hW.alike hK, hD⟩, hS.F ht⟩) hS.2.2 hdg hlocks
theorem g_vret {post : (Nat → Int → Int) → Prop} {u : Nat → Int → Int} (hx : p.tables.exec = Jvm.exec) (hb : c.code = cc) (hr : meth.sig.returnType = none) (hlocks : meth.locks = false) (hK : va_K G vwCl tys s) (hP : va_P G vwCl (wf u) H) (hD : va_D A (wf u)) (hS : va_S A s.heap H locs) (hpost : post u) (hdg : decode cc pc = .ok (.return_, 1)) : W p l e R s m args below meth c H locs cells slots (MQ below (va_Qv post (gW G tys A wf) A) args s cells slots A) (F0 m pc ls []) :=
  W.vret hx hb hr (fun t ht hW => ⟨⟨u, rfl, hpost, by rw [ht]; exact hP, va_K.moved hW.alike hK, hD⟩, hS.F ht⟩) hS.2.2 hdg hlocks
theorem g_lret {post : Int64 → (Nat → Int → Int) → Prop} {v : Int64} {u : Nat → Int → Int} (hx : p.tables.exec = Jvm.exec) (hb : c.code = cc) (hr : meth.sig.returnType = some .long) (hlocks : meth.locks = false) (hK : va_K G vwCl tys s) (hP : va_P G vwCl (wf u) H) (hD : va_D A (wf u)) (hS : va_S A s.heap H locs) (hpost : post v u) (hdg : decode cc pc = .ok (.lreturn, 1)) : W p l e R s m args below meth c H locs cells slots (MQ below (va_Ql post (gW G tys A wf) A) args s cells slots A) (F0 m pc ls [.long v]) :=
  W.lret hx hb hr (fun t ht hW => ⟨⟨v, u, rfl, hpost, by rw [ht]; exact hP, va_K.moved hW.alike hK, hD⟩, hS.F ht⟩) hS.2.2 hdg hlocks
theorem g_fret {post : UInt32 → (Nat → Int → Int) → Prop} {v : UInt32} {u : Nat → Int → Int} (hx : p.tables.exec = Jvm.exec) (hb : c.code = cc) (hr : meth.sig.returnType = some .float) (hlocks : meth.locks = false) (hK : va_K G vwCl tys s) (hP : va_P G vwCl (wf u) H) (hD : va_D A (wf u)) (hS : va_S A s.heap H locs) (hpost : post v u) (hdg : decode cc pc = .ok (.freturn, 1)) : W p l e R s m args below meth c H locs cells slots (MQ below (va_Qf post (gW G tys A wf) A) args s cells slots A) (F0 m pc ls [.float v]) :=
  W.fret hx hb hr (fun t ht hW => ⟨⟨v, u, rfl, hpost, by rw [ht]; exact hP, va_K.moved hW.alike hK, hD⟩, hS.F ht⟩) hS.2.2 hdg hlocks
/-- rows: a read, a write; behind a write the world is said by the words of a new σ -/
theorem g_iald {a : Nat} {cA : ClassId} {n : Nat} {f : Int → Int} {v : Int} (hx : p.tables.exec = Jvm.exec) (hb : c.code = cc) (hK : va_K G vwCl tys s) (hP : va_P G vwCl (wf σ) H) (q0 t0 : Nat) (ha : (wf σ)[q0]? = some (a, .inl (cA, n, .inl (aI f)))) (ht : tys[t0]? = some (cA, .int)) {i : Int} (hn : n < 2147483648) (h : 0 ≤ i ∧ i < (n : Int)) (hv : f i = v) (hdg : decode cc pc = .ok (.iaload, 1))
    (kk : W p l e R s m args below meth c H locs cells slots Q (F0 m (pc + 1) ls (.int (iI v) :: rest))) : W p l e R s m args below meth c H locs cells slots Q (F0 m pc ls (.int (iI i) :: .ref a :: rest)) :=
  va_iald hx hb hK hP q0 t0 ha ht (iI_in hn h) hdg (by rw [aI_at f ⟨h.1, by omega⟩, hv]; exact kk)
theorem g_zald {a : Nat} {cA : ClassId} {n : Nat} {f : Int → Int} {v : Int} (hx : p.tables.exec = Jvm.exec) (hb : c.code = cc) (hK : va_K G vwCl tys s) (hP : va_P G vwCl (wf σ) H) (q0 t0 : Nat) (ha : (wf σ)[q0]? = some (a, .inl (cA, n, .inl (aI f)))) (ht : tys[t0]? = some (cA, .boolean)) {i : Int} (hn : n < 2147483648) (h : 0 ≤ i ∧ i < (n : Int)) (hv : f i = v) (hdg : decode cc pc = .ok (.baload, 1))
    (kk : W p l e R s m args below meth c H locs cells slots Q (F0 m (pc + 1) ls (.int (iI v) :: rest))) : W p l e R s m args below meth c H locs cells slots Q (F0 m pc ls (.int (iI i) :: .ref a :: rest)) :=
  va_zald hx hb hK hP q0 t0 ha ht (iI_in hn h) hdg (by rw [aI_at f ⟨h.1, by omega⟩, hv]; exact kk)
theorem g_lald {a : Nat} {cA : ClassId} {n : Nat} {f : Int → Int} {v : Int} (hx : p.tables.exec = Jvm.exec) (hb : c.code = cc) (hK : va_K G vwCl tys s) (hP : va_P G vwCl (wf σ) H) (q0 t0 : Nat) (ha : (wf σ)[q0]? = some (a, .inl (cA, n, .inr (.inl (aL f))))) (ht : tys[t0]? = some (cA, .long)) {i : Int} (hn : n < 2147483648) (h : 0 ≤ i ∧ i < (n : Int)) (hv : f i = v) (hdg : decode cc pc = .ok (.laload, 1))
    (kk : W p l e R s m args below meth c H locs cells slots Q (F0 m (pc + 1) ls (.long (lI v) :: rest))) : W p l e R s m args below meth c H locs cells slots Q (F0 m pc ls (.int (iI i) :: .ref a :: rest)) :=
  va_lald hx hb hK hP q0 t0 ha ht (iI_in hn h) hdg (by rw [aL_at f ⟨h.1, by omega⟩, hv]; exact kk)
theorem g_iast {a : Nat} {cA : ClassId} {n : Nat} {f : Int → Int} {i v : Int} {τ : Nat → Int → Int} (hx : p.tables.exec = Jvm.exec) (hb : c.code = cc) (hK : va_K G vwCl tys s) (hP : va_P G vwCl (wf σ) H) (hD : va_D A (wf σ)) (hS : va_S A H0 H locs) (q0 t0 : Nat) (ha : (wf σ)[q0]? = some (a, .inl (cA, n, .inl (aI f)))) (ht : tys[t0]? = some (cA, .int)) (hn : n < 2147483648) (h : 0 ≤ i ∧ i < (n : Int)) (hdg : decode cc pc = .ok (.iastore, 1)) (hL : leW G vwCl ((wf σ).set q0 (a, .inl (cA, n, .inl (aI (ups f i v))))) (wf τ))
    (kk : ∀ (H1 : Heap) (locs1 : List Loc), va_P G vwCl (wf τ) H1 → va_D A (wf τ) → va_S A H0 H1 locs1 → W p l e R s m args below meth c H1 locs1 cells slots Q (F0 m (pc + 1) ls rest)) : W p l e R s m args below meth c H locs cells slots Q (F0 m pc ls (.int (iI v) :: .int (iI i) :: .ref a :: rest)) :=
  va_iast hx hb hK hP hD hS q0 t0 ha ht (iI_in hn h) hdg (fun H1 locs1 q1 q2 q3 => by
    rw [aI_up f v ⟨h.1, by omega⟩] at q1 q2
    exact kk H1 locs1 (leW_P hL q1) (leW_D hL q2) q3)
theorem nar_z (v : Int) (h : v = 0 ∨ v = 1) : vp_nar .boolean (iI v) = iI v := by rcases h with rfl | rfl <;> rfl
theorem g_zast {a : Nat} {cA : ClassId} {n : Nat} {f : Int → Int} {i v : Int} {τ : Nat → Int → Int} (hx : p.tables.exec = Jvm.exec) (hb : c.code = cc) (hK : va_K G vwCl tys s) (hP : va_P G vwCl (wf σ) H) (hD : va_D A (wf σ)) (hS : va_S A H0 H locs) (q0 t0 : Nat) (ha : (wf σ)[q0]? = some (a, .inl (cA, n, .inl (aI f)))) (ht : tys[t0]? = some (cA, .boolean)) (hn : n < 2147483648) (h : 0 ≤ i ∧ i < (n : Int)) (hv : v = 0 ∨ v = 1) (hdg : decode cc pc = .ok (.bastore, 1)) (hL : leW G vwCl ((wf σ).set q0 (a, .inl (cA, n, .inl (aI (ups f i v))))) (wf τ))
    (kk : ∀ (H1 : Heap) (locs1 : List Loc), va_P G vwCl (wf τ) H1 → va_D A (wf τ) → va_S A H0 H1 locs1 → W p l e R s m args below meth c H1 locs1 cells slots Q (F0 m (pc + 1) ls rest)) : W p l e R s m args below meth c H locs cells slots Q (F0 m pc ls (.int (iI v) :: .int (iI i) :: .ref a :: rest)) :=
  va_zast hx hb hK hP hD hS q0 t0 ha ht (iI_in hn h) hdg (fun H1 locs1 q1 q2 q3 => by
    rw [nar_z v hv, aI_up f v ⟨h.1, by omega⟩] at q1 q2
    exact kk H1 locs1 (leW_P hL q1) (leW_D hL q2) q3)
theorem g_last {a : Nat} {cA : ClassId} {n : Nat} {f : Int → Int} {i v : Int} {τ : Nat → Int → Int} (hx : p.tables.exec = Jvm.exec) (hb : c.code = cc) (hK : va_K G vwCl tys s) (hP : va_P G vwCl (wf σ) H) (hD : va_D A (wf σ)) (hS : va_S A H0 H locs) (q0 t0 : Nat) (ha : (wf σ)[q0]? = some (a, .inl (cA, n, .inr (.inl (aL f))))) (ht : tys[t0]? = some (cA, .long)) (hn : n < 2147483648) (h : 0 ≤ i ∧ i < (n : Int)) (hdg : decode cc pc = .ok (.lastore, 1)) (hL : leW G vwCl ((wf σ).set q0 (a, .inl (cA, n, .inr (.inl (aL (ups f i v)))))) (wf τ))
    (kk : ∀ (H1 : Heap) (locs1 : List Loc), va_P G vwCl (wf τ) H1 → va_D A (wf τ) → va_S A H0 H1 locs1 → W p l e R s m args below meth c H1 locs1 cells slots Q (F0 m (pc + 1) ls rest)) : W p l e R s m args below meth c H locs cells slots Q (F0 m pc ls (.long (lI v) :: .int (iI i) :: .ref a :: rest)) :=
  va_last hx hb hK hP hD hS q0 t0 ha ht (iI_in hn h) hdg (fun H1 locs1 q1 q2 q3 => by
    rw [aL_up f v ⟨h.1, by omega⟩] at q1 q2
    exact kk H1 locs1 (leW_P hL q1) (leW_D hL q2) q3)
end GROWS
