/-! rows for the constructors: what is made, and the row FIRST_VALUES that is cloned -/
def NA (h sz : Nat) : Nat → Prop := fun q => q = h ∨ sz ≤ q
def fvS : Int → Int := fun k => if k = 0 then 100 else if k = 1 then 100 else if k = 2 then 2 else if k = 3 then 50 else if k = 4 then 200 else if k = 5 then 1600 else if k = 6 then 16 else if k = 7 then 0 else 50
def zI : Int → Int := fun _ => 0
def bl2 : List Value := [.int 0, .int 0, .null, .null, .null, .null]
/-- a loop as its constructor leaves it -/
def gl (cx : Nat → Nat) (h a b c d : Nat) : va_W := [(h, .inr (2, [.int (iI 16), .int (iI 1), .ref a, .ref b, .ref c, .ref d])), (a, .inl (cx 0, 64, .inl (aI zI))), (b, .inl (cx 0, 9, .inl (aI fvS))), (c, .inl (cx 0, 16, .inl (aI zI))), (d, .inl (cx 0, 16, .inl (aI zI)))]
/-- the static row of the first values, that nobody writes -/
def FV (cx : Nat → Nat) (rw : Nat) (A : Nat → Prop) (U : State) : Prop :=
  va_Nw (.fieldLinkNest RX2 22 "LoopSlicer" "FIRST_VALUES" "[I" "LoopSlicer") U ∧ va_Nw (.castable "[I" "java/lang/Cloneable") U ∧ va_Z "LoopSlicer" "FIRST_VALUES" "[I" (.ref rw) A U U.heap ∧ ∃ cell : Cell, U.heap[rw]? = some cell ∧ cell.cls = cx 0 ∧ cell.vm.isStatics = false ∧ cell.vm ≠ .unknown ∧ cell.slots = (vp_cell (cx 0) (9, .inl (aI fvS))).slots ∧ ¬ A rw
theorem FV.to {cx : Nat → Nat} {rw : Nat} {A B : Nat → Prop} {s U : State} {H : Heap} {locs : List Loc} (h : FV cx rw A s) (hS : va_S A s.heap H locs) (hU : U.heap = H) (hW : s.WarmedH U.vm) (hB : ∀ q, B q → A q) : FV cx rw B U := by
  obtain ⟨h1, h2, h3, cell, h4, h5, h6, h7, h8, h9⟩ := h
  refine ⟨va_Nw.warmF hW h1, va_Nw.warmC hW h2, ?_, cell, ?_, h5, h6, h7, h8, fun z => h9 (hB rw z)⟩
  · rw [hU]
    exact ((h3.kept hS.2.1).moved hW.alike).narrow hB
  · rw [hU, hS.2.1 rw (Array.getElem?_eq_some_iff.mp h4).1 h9]
    exact h4
theorem FV.blind {cx : Nat → Nat} {rw : Nat} {A : Nat → Prop} {U : State} {g : JFrame} {mk : MethodId} {a : Array Value} (h : FV cx rw A U) : FV cx rw A (U.calling g mk a) := by
  obtain ⟨h1, h2, h3, h4⟩ := h
  exact ⟨va_Nw.same (u := U) (U := U.calling g mk a) rfl rfl h1, va_Nw.same (u := U) (U := U.calling g mk a) rfl rfl h2, va_Z.moved (u := U) (U := U.calling g mk a) (Vm.Alike.refl U.vm) h3, h4⟩
theorem g_only {G : va_G} {ws : va_W} {x : Nat × va_E} {H : Heap} (h : va_P G vwCl (ws ++ [x]) H) : va_P G vwCl [x] H := fun k q hq => by
  have hz : k < 1 := (List.getElem?_eq_some_iff.mp hq).1
  rw [show k = 0 by omega] at hq
  cases hq
  exact h ws.length x (by rw [List.getElem?_append_right (Nat.le_refl _), Nat.sub_self]; rfl)
theorem NA_one {h sz : Nat} {e0 : va_E} : va_D (NA h sz) [(h, e0)] := by
  refine ⟨fun i j p q hi hj _ => ?_, fun k q hq => ?_⟩
  · have h1 : i < 1 := (List.getElem?_eq_some_iff.mp hi).1
    have h2 : j < 1 := (List.getElem?_eq_some_iff.mp hj).1
    omega
  · have hz : k < 1 := (List.getElem?_eq_some_iff.mp hq).1
    rw [show k = 0 by omega] at hq
    cases hq
    exact Or.inl rfl
/-- behind a constructor: the caller's cells, and those of the object that is made -/
theorem g_join {G : va_G} {A0 : Nat → Prop} {ws w1 : va_W} {h : Nat} {e0 : va_E} {H H1 : Heap} (hP : va_P G vwCl (ws ++ [(h, e0)]) H) (hD : va_D A0 (ws ++ [(h, e0)])) (hk : ∀ q : Nat, q < H.size → ¬ NA h H.size q → H1[q]? = H[q]?) (hF : ∀ q, NA h H.size q → A0 q) (hP1 : va_P G vwCl w1 H1) (hD1 : va_D (NA h H.size) w1) : va_P G vwCl (ws ++ w1) H1 ∧ va_D A0 (ws ++ w1) := by
  have hat : ∀ (k : Nat) (x : Nat × va_E), ws[k]? = some x → (ws ++ [(h, e0)])[k]? = some x := fun k x hx => by
    rw [List.getElem?_append_left (List.getElem?_eq_some_iff.mp hx).1]; exact hx
  have hlast : (ws ++ [(h, e0)])[ws.length]? = some (h, e0) := by rw [List.getElem?_append_right (Nat.le_refl _), Nat.sub_self]; rfl
  have apart : ∀ (k : Nat) (x : Nat × va_E), ws[k]? = some x → x.1 < H.size ∧ ¬ NA h H.size x.1 := fun k x hx => by
    have hl := (hP k x (hat k x hx)).lt
    refine ⟨hl, fun z => ?_⟩
    rcases z with z | z
    · have e := hD.1 k ws.length x (h, e0) (hat k x hx) hlast z
      have := (List.getElem?_eq_some_iff.mp hx).1
      omega
    · omega
  refine ⟨va_P.app (fun k x hx => ?_) hP1, va_D.app ⟨fun i j x y hx hy => hD.1 i j x y (hat i x hx) (hat j y hy), fun k x hx => hD.2 k x (hat k x hx)⟩ (hD1.weaken (fun k q _ z => hF q.1 z)) (fun i j x y hx hy hxy => ?_)⟩
  · obtain ⟨g1, g2⟩ := apart k x hx
    exact (hP k x (hat k x hx)).kept (hk x.1 g1 g2)
  · exact (apart i x hx).2 (by rw [hxy]; exact hD1.2 j y hy)
section MAKE
variable {p : Program} {l : Launch} {e : Env} {R : Room} {s : State} {m : MethodId} {args : Array Value} {below : List Frame} {meth : Method} {c : Code} {H : Heap} {locs : List Loc} {cells slots : Nat} {Q : State → Prop}
variable {cc : ByteArray} {pc : Nat} {ls : Array Slot} {rest : List Value} {G : va_G} {tys : List (ClassId × FieldType)} {A : Nat → Prop} {ws : va_W} {H0 : Heap}
theorem g_newa {atype : ArrayType} {ty : FieldType} {cA : ClassId} (t0 : Nat) (hx : p.tables.exec = Jvm.exec) (hb : c.code = cc) (harr : (Cond.arrayClass (newarray.typeOf atype)).before args s = true) (hty : newarray.typeOf atype = ty) (hK : va_K G vwCl tys s) (ht : tys[t0]? = some (cA, ty)) (hP : va_P G vwCl ws H) (hD : va_D A ws) (hS : va_S A H0 H locs) (hA : ∀ q, H0.size ≤ q → A q) {n : Int} (N' : Nat) (a0 : vp_A) (ha : ∀ cA : ClassId, vp_cell cA a0 = arrV cA N' (fun _ => defaultValue ty)) (hn : n < 2147483648 ∧ n = (N' : Int)) (hbytes : N' * componentBytes ty ≤ 536870912) (hcells : cells + 1 ≤ R.cells) (hslots : slots + N' ≤ R.slots) (hdg : decode cc pc = .ok (.newarray atype, 2))
    (kk : ∀ (q : Nat) (H1 : Heap), va_P G vwCl (ws ++ [(q, .inl (cA, a0))]) H1 → va_D A (ws ++ [(q, .inl (cA, a0))]) → va_S A H0 H1 locs → W p l e R s m args below meth c H1 locs (cells + 1) (slots + N') Q (F0 m (pc + 2) ls (.ref q :: rest))) : W p l e R s m args below meth c H locs cells slots Q (F0 m pc ls (.int (iI n) :: rest)) := by
  subst hty
  have h0 : ¬ iI n < 0 := fun q => by
    rw [show (0 : Int32) = iI 0 from rfl, iI_lt ⟨by omega, by omega, by omega, by omega⟩] at q
    omega
  have hN : (iI n).toNatClampNeg = N' := by
    have := iI_cl (i := n) ⟨by omega, by omega⟩
    omega
  refine va_newa hx hb harr rfl hK hP hD hS hA ha h0 hN hbytes hcells hslots hdg (fun q cB H1 hK1 hP1 hD1 hS1 => ?_)
  have e : cB = cA := by
    have h1 := (hK1.2 tys.length (cB, newarray.typeOf atype) (by rw [List.getElem?_append_right (Nat.le_refl _), Nat.sub_self]; rfl)).2
    have h2 := (hK.2 t0 _ ht).2
    cases atype <;> exact Option.some.inj (h1.symm.trans h2)
  subst e
  exact kk q H1 hP1 hD1 hS1
theorem g_newq {own C : String} {index : Nat} {cA : ClassId} (t0 : Nat) (hx : p.tables.exec = Jvm.exec) (hb : c.code = cc) (hown : s.vm.findClass own = some m.cls) (hcl : (Cond.classLink own index C).before args s = true) (hover : va_AO C s) (hK : va_K G vwCl tys s) (ht : tys[t0]? = some (cA, .object C)) (hP : va_P G vwCl ws H) (hD : va_D A ws) (hS : va_S A H0 H locs) (hA : ∀ q, H0.size ≤ q → A q) {n : Int} (N' : Nat) (hn : n < 2147483648 ∧ n = (N' : Int)) (hbytes : N' * 4 ≤ 536870912) (hcells : cells + 1 ≤ R.cells) (hslots : slots + N' ≤ R.slots) (hdg : decode cc pc = .ok (.anewarray index, 3))
    (kk : ∀ (q : Nat) (H1 : Heap), va_P G vwCl (ws ++ [(q, .inl (cA, N', .inr (.inr (.inr (.inr (fun _ => none))))))]) H1 → va_D A (ws ++ [(q, .inl (cA, N', .inr (.inr (.inr (.inr (fun _ => none))))))]) → va_S A H0 H1 locs → W p l e R s m args below meth c H1 locs (cells + 1) (slots + N') Q (F0 m (pc + 3) ls (.ref q :: rest))) : W p l e R s m args below meth c H locs cells slots Q (F0 m pc ls (.int (iI n) :: rest)) := by
  have h0 : ¬ iI n < 0 := fun q => by
    rw [show (0 : Int32) = iI 0 from rfl, iI_lt ⟨by omega, by omega, by omega, by omega⟩] at q
    omega
  have hN : (iI n).toNatClampNeg = N' := by
    have := iI_cl (i := n) ⟨by omega, by omega⟩
    omega
  refine va_newq hx hb hown hcl hover hK hP hD hS hA h0 hN hbytes hcells hslots hdg (fun q cB H1 hK1 hP1 hD1 hS1 => ?_)
  have e : cB = cA := by
    obtain ⟨_, _, -, -, -, h1⟩ := (hK1.2 tys.length (cB, .object C) (by rw [List.getElem?_append_right (Nat.le_refl _), Nat.sub_self]; rfl)).2
    obtain ⟨_, _, -, -, -, h2⟩ := (hK.2 t0 _ ht).2
    exact Option.some.inj (h1.symm.trans h2)
  subst e
  exact kk q H1 hP1 hD1 hS1
/-- the clone of a row that lies outside the world -/
theorem g_clone (hx : p.tables.exec = Jvm.exec) (hb : c.code = cc) (hml : c.maxLocals = ls.size) {own : String} {index : Nat} (hown : s.vm.findClass own = some m.cls)
    (hlink : (Cond.methodLink own index ⟨"[I", "clone", "()Ljava/lang/Object;"⟩).before args s = true) (hsame : (Cond.sameMethod "[I" "java/lang/Object" "clone" "()Ljava/lang/Object;").before args s = true)
    (hnat : (Cond.native ⟨"java/lang/Object", "clone", "()Ljava/lang/Object;"⟩).before args s = true) (hinst : (Cond.instanceMethod ⟨"java/lang/Object", "clone", "()Ljava/lang/Object;"⟩).before args s = true)
    (hsel : (Cond.selects "[I" ⟨"[I", "clone", "()Ljava/lang/Object;"⟩ ⟨"java/lang/Object", "clone", "()Ljava/lang/Object;"⟩).before args s = true) (hcl : va_Nw (.castable "[I" "java/lang/Cloneable") s)
    (hK : va_K G vwCl tys s) (hP : va_P G vwCl ws H) (hD : va_D A ws) (hS : va_S A H0 H locs) (hA : ∀ q, H0.size ≤ q → A q) (t0 : Nat) {cA : ClassId} {n : Nat} {f : Int → Int} {a : Nat} (ht : tys[t0]? = some (cA, .int))
    {cell : Cell} (hc : H[a]? = some cell) (hc1 : cell.cls = cA) (hc2 : cell.vm.isStatics = false) (hc3 : cell.vm ≠ .unknown) (hc4 : cell.slots = (vp_cell cA (n, .inl (aI f))).slots)
    (hframes : 1 ≤ R.frames) (hlocals : (rest.map fun v => v.category).sum + 14 ≤ R.locals) (hcells : cells + 1 ≤ R.cells) (hslots : slots + n ≤ R.slots) (hdg : decode cc pc = .ok (.invokevirtual index, 3))
    (kk : ∀ (q : Nat) (H1 : Heap), va_P G vwCl (ws ++ [(q, .inl (cA, n, .inl (aI f)))]) H1 → va_D A (ws ++ [(q, .inl (cA, n, .inl (aI f)))]) → va_S A H0 H1 locs →
      W p l e R s m args below meth c H1 locs (cells + 1) (slots + n) Q (F0 m (pc + 3) ls (.ref q :: rest))) : W p l e R s m args below meth c H locs cells slots Q (F0 m pc ls (.ref a :: rest)) := by
  have hnm : s.vm.findClass "[I" = some cA := va_nm_int (hK.2 t0 _ ht).2
  have hsz : cell.slots.size = n := by rw [hc4]; exact arrV_size _ _ _
  have hcellE : ({ cls := cell.cls, slots := cell.slots } : Cell) = vp_cell cA (n, .inl (aI f)) := by rw [hc1, hc4]; rfl
  obtain ⟨c0, t0', f1, f2, f3⟩ := Cond.castable_spec (va_Nw.use (A := args) rfl hcl)
  cases hnm.symm.trans f1
  intro T hT X
  have hcellT : T.heap[a]? = some cell := by rw [hT]; exact hc
  obtain ⟨-, kA, hkA, comp, hkind⟩ := State.isArrayOf_alike X.warmed.alike ((hK.2 t0 _ ht).1 0 (fun _ => .null))
  obtain ⟨-, kS, hkS, compS, hkindS⟩ := (hK.2 t0 _ ht).1 0 (fun _ => .null)
  obtain ⟨vm', X', st⟩ := X.cloneArray hx hown hlink hsame hnat hinst hsel (a := a) (cell := cell) hcellT (fun k h => by rw [h] at hc2; cases hc2) hc3 (by rw [hc1]; exact hnm) f2 (by rw [hc1]; exact f3)
    (fun i v hv => by
      rw [hc1]
      have hk' : T.vm.classes[cA]? = some kA := hkA
      rw [hc4] at hv
      have hfit : fits .int v = true := va_fit (cA := cA) (n := n) (F := fun j => .int (aI f j)) (fun i _ => rfl) i v hv
      simpa [State.fitsSlot, State.slotType?, hk', hkind] using hfit)
    (g := F0 m pc ls (.ref a :: rest)) rfl (by rw [hml]) rfl (by rw [hb]; exact hdg) hframes (by show 2 * 0 + _ + 14 ≤ _; omega) hcells (by rw [hsz]; exact hslots) (hloader := by rw [hc1]; exact Vm.clonesLoader_of_array hkS hkindS)
  rw [hcellE, hsz] at X'
  generalize hH1 : H.push (vp_cell cA (n, .inl (aI f))) = H1
  have z1 : H1.size = H.size + 1 := by rw [← hH1, Array.size_push]
  have e1 : H1[H.size]? = some (vp_cell cA (n, .inl (aI f))) := by rw [← hH1, Array.getElem?_push_size]
  have o1 : ∀ q : Nat, q < H.size → H1[q]? = H[q]? := fun q hq => by rw [← hH1, Array.getElem?_push, if_neg (Nat.ne_of_lt hq)]
  have hk : ∀ (k : Nat) (y : Nat × va_E), ws[k]? = some y → H1[y.1]? = H[y.1]? := fun k y hy => o1 y.1 ((hP k y hy).lt)
  obtain ⟨t, b1, b2⟩ := kk H.size H1 ((hP.kept hk).app (fun k y hy => by
      have hz : k < 1 := (List.getElem?_eq_some_iff.mp hy).1
      rw [show k = 0 by omega] at hy
      cases hy
      exact e1)) (hD.push hP rfl (hA _ hS.1)) ⟨Nat.le_trans hS.1 (by omega), fun y h1 h2 => (o1 y (Nat.lt_of_lt_of_le h1 hS.1)).trans (hS.2.1 y h1 h2), hS.2.2⟩
    ((T.setVm vm').pushCell (vp_cell cA (n, .inl (aI f)))) (by rw [← hH1, ← hT]; rfl) X'
  refine ⟨t, st t ?_, b2⟩
  rw [hcellE, hT]
  exact b1
end MAKE
