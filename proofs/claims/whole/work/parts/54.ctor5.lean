/-! the constructor of the reference (rows laid by wip/gen/ctor5.py) -/
def s0M : Nat → Int → Int := fun _ => zI
def s1M : Nat → Int → Int := st s0M 0 1 100
def s2M : Nat → Int → Int := st s1M 0 2 100
def s3M : Nat → Int → Int := st s2M 0 3 2
def s4M : Nat → Int → Int := st s3M 0 4 50
def s5M : Nat → Int → Int := st s4M 0 5 200
def s6M : Nat → Int → Int := st s5M 0 6 1600
def s7M : Nat → Int → Int := st s6M 0 7 16
def s8M : Nat → Int → Int := st s7M 0 9 50
def s9M : Nat → Int → Int := sc s8M 0 (spc (s8M 0) 16)
theorem wm_in {cx a : Nat → Nat} {σ : Nat → Int → Int} : ∀ (k : Nat) (q : Nat × va_E), (wm cx a σ)[k]? = some q → MA a q.1 := fun k q hq => by
  have hk : k < 9 := (List.getElem?_eq_some_iff.mp hq).1
  rcases (show k = 0 ∨ k = 1 ∨ k = 2 ∨ k = 3 ∨ k = 4 ∨ k = 5 ∨ k = 6 ∨ k = 7 ∨ k = 8 by omega) with rfl | rfl | rfl | rfl | rfl | rfl | rfl | rfl | rfl <;> (cases hq; exact ⟨_, hk, rfl⟩)
theorem wm_A {cx a : Nat → Nat} {σ : Nat → Int → Int} {A : Nat → Prop} (hD : va_D A (wm cx a σ)) (k : Nat) (hk : k < 9) : A (a k) := by
  rcases (show k = 0 ∨ k = 1 ∨ k = 2 ∨ k = 3 ∨ k = 4 ∨ k = 5 ∨ k = 6 ∨ k = 7 ∨ k = 8 by omega) with rfl | rfl | rfl | rfl | rfl | rfl | rfl | rfl | rfl
  · exact hD.2 0 _ rfl
  · exact hD.2 1 _ rfl
  · exact hD.2 2 _ rfl
  · exact hD.2 3 _ rfl
  · exact hD.2 4 _ rfl
  · exact hD.2 5 _ rfl
  · exact hD.2 6 _ rfl
  · exact hD.2 7 _ rfl
  · exact hD.2 8 _ rfl
theorem wm_D {cx a : Nat → Nat} {σ τ : Nat → Int → Int} {A : Nat → Prop} (hD : va_D A (wm cx a σ)) : va_D A (wm cx a τ) := by
  have e : ∀ (k : Nat) (q : Nat × va_E), (wm cx a τ)[k]? = some q → ∃ q0, (wm cx a σ)[k]? = some q0 ∧ q0.1 = q.1 := fun k q hq => by
    have hk : k < 9 := (List.getElem?_eq_some_iff.mp hq).1
    rcases (show k = 0 ∨ k = 1 ∨ k = 2 ∨ k = 3 ∨ k = 4 ∨ k = 5 ∨ k = 6 ∨ k = 7 ∨ k = 8 by omega) with rfl | rfl | rfl | rfl | rfl | rfl | rfl | rfl | rfl <;> (cases hq; exact ⟨_, rfl, rfl⟩)
  refine ⟨fun i j x y hi hj hxy => ?_, fun k q hq => ?_⟩
  · obtain ⟨x0, h1, h2⟩ := e i x hi
    obtain ⟨y0, h3, h4⟩ := e j y hj
    exact hD.1 i j x0 y0 h1 h3 (h2.trans (hxy.trans h4.symm))
  · obtain ⟨q0, h1, h2⟩ := e k q hq
    rw [← h2]
    exact hD.2 k q0 h1
theorem iX5_init_X5 : ∀ w ∈ wsX50, w ∈ wsX5_init := fun _ h => List.mem_cons_of_mem _ (List.mem_append_right _ h)
set_option maxHeartbeats 4000000 in
set_option maxRecDepth 100000 in
theorem mX5_init (l : Launch) (G : va_G) (cx : Nat → Nat) (sz : Nat) (h : Nat) : Met l yX5_init wsX5_init ({ frames := 2, cells := 8, slots := 1786, locals := 43 }) (va_Pc [.ref h] (fun U => U.heap.size = sz ∧ va_P G vwCl [(h, .inr (5, [.null, .null, .int 0, .null, .int 0, .null, .null, .null, .null, .long 0, .null]))] U.heap ∧ va_K G vwCl (tm cx) U ∧ (fun _ => True) U)) (va_Qv (fun (_ : Nat → Nat) => True) (fun u t => va_P G vwCl ((fun (u : Nat → Nat) => wm cx (a0 h u) s9M) u) t.heap ∧ va_D (NA h sz) ((fun (u : Nat → Nat) => wm cx (a0 h u) s9M) u)) (NA h sz)) 8 1786 (NA h sz) := by
  refine Met.ofW (cc := cX5_init) (maxL := 1) (ret := none) (by decide) rfl ?_
  intro p e s m args below meth c s₁ B hml hv
  obtain ⟨rfl, hsz, hP, hK, -⟩ := hv
  have hex := B.exec
  have hbc := B.bytes
  have hrt := B.returns
  have hts := atoms_spec (ws := wsX5_init) B.pre
  have hown : s.vm.findClass RX5 = some m.cls := findClass_of_methodNamed B.named
  have hlocks := B.notSynchronized
  have hini : meth.name = "<init>" := (name_of_methodNamed B.named B.method).1
  subst hsz
  have hD : va_D (NA h s.heap.size) [(h, .inr (5, [.null, .null, .int 0, .null, .int 0, .null, .null, .null, .null, .long 0, .null]))] := NA_one
  have hA : ∀ q : Nat, s.heap.size ≤ q → NA h s.heap.size q := fun q z => Or.inr z
  have hS : va_S (NA h s.heap.size) s.heap s.heap [] := va_S.rf
  have hin5 := iX5_init_X5
  have hl := lv_entry ([.ref h]) (n := 1) (Nat.le_of_ble_eq_true rfl)
  rw [lg_entry_eq]
  generalize (lg_sl ([.ref h]) ++ List.replicate (1 - (lg_sl ([.ref h])).length) Slot.unset).toArray = ls at hl ⊢
  have hl : lv_has ls 1 [(0, .ref h)] := hl
  refine lv_aload_n hex hbc dX5_init_0 rfl (lv_at hl 0 rfl) ?_
  refine W.objInit hex hbc hown (hts _ (List.mem_of_getElem? (i := 1) rfl)) (hts _ (List.mem_of_getElem? (i := 2) rfl)) (hts _ (List.mem_of_getElem? (i := 3) rfl)) rfl (by rw [hml]; exact hl.1) rfl dX5_init_1 (Nat.le_of_ble_eq_true rfl) (Nat.le_of_ble_eq_true rfl) ?_
  refine W.eq (g2 := F0 m 4 ls []) rfl ?_
  refine lv_aload_n hex hbc dX5_init_4 rfl (lv_at hl 0 rfl) ?_
  refine lv_bipush (v := iI 107) hex hbc dX5_init_5 (by decide) ?_
  refine g_newa (atype := .int) (ty := .int) 0 hex hbc (hts _ (List.mem_of_getElem? (i := 4) rfl)) rfl hK rfl hP hD hS hA 107 (107, .inl (aI zI)) (zc_i _) ⟨by omega, rfl⟩ (Nat.le_of_ble_eq_true rfl) (Nat.le_of_ble_eq_true rfl) (Nat.le_of_ble_eq_true rfl) dX5_init_7 (fun q1 H hP hD hS => ?_)
  refine W.widen (k := 1) (n := 107) (Nat.le_of_ble_eq_true rfl) (Nat.le_of_ble_eq_true rfl) ?_
  refine va_putF hex hbc hts hin5 tyX5 tyX5_ok nmX5 hown hK hP hD hS 0 rfl rfl 0 (by decide) (hts _ (List.mem_of_getElem? (i := 5) rfl)) (fun _ h => h) rfl hini rfl (tyX5_ok 0 (by decide)) rfl rfl (Nat.le_of_ble_eq_true rfl) dX5_init_9 (fun H locs hP hD hS => ?_)
  have hP : va_P G vwCl ([(h, .inr (5, [.ref q1, .null, .int 0, .null, .int 0, .null, .null, .null, .null, .long 0, .null]))] ++ [(q1, .inl (cx 0, 107, .inl (aI zI)))]) H := hP
  have hD : va_D (NA h s.heap.size) ([(h, .inr (5, [.ref q1, .null, .int 0, .null, .int 0, .null, .null, .null, .null, .long 0, .null]))] ++ [(q1, .inl (cx 0, 107, .inl (aI zI)))]) := hD
  refine lv_aload_n hex hbc dX5_init_12 rfl (lv_at hl 0 rfl) ?_
  refine lv_sipush (v := iI 856) hex hbc dX5_init_13 (by decide) ?_
  refine g_newa (atype := .int) (ty := .int) 0 hex hbc (hts _ (List.mem_of_getElem? (i := 4) rfl)) rfl hK rfl hP hD hS hA 856 (856, .inl (aI zI)) (zc_i _) ⟨by omega, rfl⟩ (Nat.le_of_ble_eq_true rfl) (Nat.le_of_ble_eq_true rfl) (Nat.le_of_ble_eq_true rfl) dX5_init_16 (fun q2 H hP hD hS => ?_)
  refine W.widen (k := 2) (n := 963) (Nat.le_of_ble_eq_true rfl) (Nat.le_of_ble_eq_true rfl) ?_
  refine va_putF hex hbc hts hin5 tyX5 tyX5_ok nmX5 hown hK hP hD hS 0 rfl rfl 1 (by decide) (hts _ (List.mem_of_getElem? (i := 6) rfl)) (fun _ h => h) rfl hini rfl (tyX5_ok 1 (by decide)) rfl rfl (Nat.le_of_ble_eq_true rfl) dX5_init_18 (fun H locs hP hD hS => ?_)
  have hP : va_P G vwCl (([(h, .inr (5, [.ref q1, .ref q2, .int 0, .null, .int 0, .null, .null, .null, .null, .long 0, .null]))] ++ [(q1, .inl (cx 0, 107, .inl (aI zI)))]) ++ [(q2, .inl (cx 0, 856, .inl (aI zI)))]) H := hP
  have hD : va_D (NA h s.heap.size) (([(h, .inr (5, [.ref q1, .ref q2, .int 0, .null, .int 0, .null, .null, .null, .null, .long 0, .null]))] ++ [(q1, .inl (cx 0, 107, .inl (aI zI)))]) ++ [(q2, .inl (cx 0, 856, .inl (aI zI)))]) := hD
  refine lv_aload_n hex hbc dX5_init_21 rfl (lv_at hl 0 rfl) ?_
  refine lv_sipush (v := iI 214) hex hbc dX5_init_22 (by decide) ?_
  refine g_newa (atype := .int) (ty := .int) 0 hex hbc (hts _ (List.mem_of_getElem? (i := 4) rfl)) rfl hK rfl hP hD hS hA 214 (214, .inl (aI zI)) (zc_i _) ⟨by omega, rfl⟩ (Nat.le_of_ble_eq_true rfl) (Nat.le_of_ble_eq_true rfl) (Nat.le_of_ble_eq_true rfl) dX5_init_25 (fun q3 H hP hD hS => ?_)
  refine W.widen (k := 3) (n := 1177) (Nat.le_of_ble_eq_true rfl) (Nat.le_of_ble_eq_true rfl) ?_
  refine va_putF hex hbc hts hin5 tyX5 tyX5_ok nmX5 hown hK hP hD hS 0 rfl rfl 3 (by decide) (hts _ (List.mem_of_getElem? (i := 7) rfl)) (fun _ h => h) rfl hini rfl (tyX5_ok 3 (by decide)) rfl rfl (Nat.le_of_ble_eq_true rfl) dX5_init_27 (fun H locs hP hD hS => ?_)
  have hP : va_P G vwCl ((([(h, .inr (5, [.ref q1, .ref q2, .int 0, .ref q3, .int 0, .null, .null, .null, .null, .long 0, .null]))] ++ [(q1, .inl (cx 0, 107, .inl (aI zI)))]) ++ [(q2, .inl (cx 0, 856, .inl (aI zI)))]) ++ [(q3, .inl (cx 0, 214, .inl (aI zI)))]) H := hP
  have hD : va_D (NA h s.heap.size) ((([(h, .inr (5, [.ref q1, .ref q2, .int 0, .ref q3, .int 0, .null, .null, .null, .null, .long 0, .null]))] ++ [(q1, .inl (cx 0, 107, .inl (aI zI)))]) ++ [(q2, .inl (cx 0, 856, .inl (aI zI)))]) ++ [(q3, .inl (cx 0, 214, .inl (aI zI)))]) := hD
  refine lv_aload_n hex hbc dX5_init_30 rfl (lv_at hl 0 rfl) ?_
  refine lv_bipush (v := iI 16) hex hbc dX5_init_31 (by decide) ?_
  refine g_newa (atype := .int) (ty := .int) 0 hex hbc (hts _ (List.mem_of_getElem? (i := 4) rfl)) rfl hK rfl hP hD hS hA 16 (16, .inl (aI zI)) (zc_i _) ⟨by omega, rfl⟩ (Nat.le_of_ble_eq_true rfl) (Nat.le_of_ble_eq_true rfl) (Nat.le_of_ble_eq_true rfl) dX5_init_33 (fun q4 H hP hD hS => ?_)
  refine W.widen (k := 4) (n := 1193) (Nat.le_of_ble_eq_true rfl) (Nat.le_of_ble_eq_true rfl) ?_
  refine va_putF hex hbc hts hin5 tyX5 tyX5_ok nmX5 hown hK hP hD hS 0 rfl rfl 5 (by decide) (hts _ (List.mem_of_getElem? (i := 8) rfl)) (fun _ h => h) rfl hini rfl (tyX5_ok 5 (by decide)) rfl rfl (Nat.le_of_ble_eq_true rfl) dX5_init_35 (fun H locs hP hD hS => ?_)
  have hP : va_P G vwCl (((([(h, .inr (5, [.ref q1, .ref q2, .int 0, .ref q3, .int 0, .ref q4, .null, .null, .null, .long 0, .null]))] ++ [(q1, .inl (cx 0, 107, .inl (aI zI)))]) ++ [(q2, .inl (cx 0, 856, .inl (aI zI)))]) ++ [(q3, .inl (cx 0, 214, .inl (aI zI)))]) ++ [(q4, .inl (cx 0, 16, .inl (aI zI)))]) H := hP
  have hD : va_D (NA h s.heap.size) (((([(h, .inr (5, [.ref q1, .ref q2, .int 0, .ref q3, .int 0, .ref q4, .null, .null, .null, .long 0, .null]))] ++ [(q1, .inl (cx 0, 107, .inl (aI zI)))]) ++ [(q2, .inl (cx 0, 856, .inl (aI zI)))]) ++ [(q3, .inl (cx 0, 214, .inl (aI zI)))]) ++ [(q4, .inl (cx 0, 16, .inl (aI zI)))]) := hD
  refine lv_aload_n hex hbc dX5_init_38 rfl (lv_at hl 0 rfl) ?_
  refine lv_bipush (v := iI 16) hex hbc dX5_init_39 (by decide) ?_
  refine g_newa (atype := .int) (ty := .int) 0 hex hbc (hts _ (List.mem_of_getElem? (i := 4) rfl)) rfl hK rfl hP hD hS hA 16 (16, .inl (aI zI)) (zc_i _) ⟨by omega, rfl⟩ (Nat.le_of_ble_eq_true rfl) (Nat.le_of_ble_eq_true rfl) (Nat.le_of_ble_eq_true rfl) dX5_init_41 (fun q5 H hP hD hS => ?_)
  refine W.widen (k := 5) (n := 1209) (Nat.le_of_ble_eq_true rfl) (Nat.le_of_ble_eq_true rfl) ?_
  refine va_putF hex hbc hts hin5 tyX5 tyX5_ok nmX5 hown hK hP hD hS 0 rfl rfl 6 (by decide) (hts _ (List.mem_of_getElem? (i := 9) rfl)) (fun _ h => h) rfl hini rfl (tyX5_ok 6 (by decide)) rfl rfl (Nat.le_of_ble_eq_true rfl) dX5_init_43 (fun H locs hP hD hS => ?_)
  have hP : va_P G vwCl ((((([(h, .inr (5, [.ref q1, .ref q2, .int 0, .ref q3, .int 0, .ref q4, .ref q5, .null, .null, .long 0, .null]))] ++ [(q1, .inl (cx 0, 107, .inl (aI zI)))]) ++ [(q2, .inl (cx 0, 856, .inl (aI zI)))]) ++ [(q3, .inl (cx 0, 214, .inl (aI zI)))]) ++ [(q4, .inl (cx 0, 16, .inl (aI zI)))]) ++ [(q5, .inl (cx 0, 16, .inl (aI zI)))]) H := hP
  have hD : va_D (NA h s.heap.size) ((((([(h, .inr (5, [.ref q1, .ref q2, .int 0, .ref q3, .int 0, .ref q4, .ref q5, .null, .null, .long 0, .null]))] ++ [(q1, .inl (cx 0, 107, .inl (aI zI)))]) ++ [(q2, .inl (cx 0, 856, .inl (aI zI)))]) ++ [(q3, .inl (cx 0, 214, .inl (aI zI)))]) ++ [(q4, .inl (cx 0, 16, .inl (aI zI)))]) ++ [(q5, .inl (cx 0, 16, .inl (aI zI)))]) := hD
  refine lv_aload_n hex hbc dX5_init_46 rfl (lv_at hl 0 rfl) ?_
  refine lv_bipush (v := iI 17) hex hbc dX5_init_47 (by decide) ?_
  refine g_newa (atype := .int) (ty := .int) 0 hex hbc (hts _ (List.mem_of_getElem? (i := 4) rfl)) rfl hK rfl hP hD hS hA 17 (17, .inl (aI zI)) (zc_i _) ⟨by omega, rfl⟩ (Nat.le_of_ble_eq_true rfl) (Nat.le_of_ble_eq_true rfl) (Nat.le_of_ble_eq_true rfl) dX5_init_49 (fun q6 H hP hD hS => ?_)
  refine W.widen (k := 6) (n := 1226) (Nat.le_of_ble_eq_true rfl) (Nat.le_of_ble_eq_true rfl) ?_
  refine va_putF hex hbc hts hin5 tyX5 tyX5_ok nmX5 hown hK hP hD hS 0 rfl rfl 7 (by decide) (hts _ (List.mem_of_getElem? (i := 10) rfl)) (fun _ h => h) rfl hini rfl (tyX5_ok 7 (by decide)) rfl rfl (Nat.le_of_ble_eq_true rfl) dX5_init_51 (fun H locs hP hD hS => ?_)
  have hP : va_P G vwCl (((((([(h, .inr (5, [.ref q1, .ref q2, .int 0, .ref q3, .int 0, .ref q4, .ref q5, .ref q6, .null, .long 0, .null]))] ++ [(q1, .inl (cx 0, 107, .inl (aI zI)))]) ++ [(q2, .inl (cx 0, 856, .inl (aI zI)))]) ++ [(q3, .inl (cx 0, 214, .inl (aI zI)))]) ++ [(q4, .inl (cx 0, 16, .inl (aI zI)))]) ++ [(q5, .inl (cx 0, 16, .inl (aI zI)))]) ++ [(q6, .inl (cx 0, 17, .inl (aI zI)))]) H := hP
  have hD : va_D (NA h s.heap.size) (((((([(h, .inr (5, [.ref q1, .ref q2, .int 0, .ref q3, .int 0, .ref q4, .ref q5, .ref q6, .null, .long 0, .null]))] ++ [(q1, .inl (cx 0, 107, .inl (aI zI)))]) ++ [(q2, .inl (cx 0, 856, .inl (aI zI)))]) ++ [(q3, .inl (cx 0, 214, .inl (aI zI)))]) ++ [(q4, .inl (cx 0, 16, .inl (aI zI)))]) ++ [(q5, .inl (cx 0, 16, .inl (aI zI)))]) ++ [(q6, .inl (cx 0, 17, .inl (aI zI)))]) := hD
  refine lv_aload_n hex hbc dX5_init_54 rfl (lv_at hl 0 rfl) ?_
  refine lv_sipush (v := iI 544) hex hbc dX5_init_55 (by decide) ?_
  refine g_newa (atype := .long) (ty := .long) 1 hex hbc (hts _ (List.mem_of_getElem? (i := 11) rfl)) rfl hK rfl hP hD hS hA 544 (544, .inr (.inl (aL zI))) (zc_l _) ⟨by omega, rfl⟩ (Nat.le_of_ble_eq_true rfl) (Nat.le_of_ble_eq_true rfl) (Nat.le_of_ble_eq_true rfl) dX5_init_58 (fun q7 H hP hD hS => ?_)
  refine W.widen (k := 7) (n := 1770) (Nat.le_of_ble_eq_true rfl) (Nat.le_of_ble_eq_true rfl) ?_
  refine va_putF hex hbc hts hin5 tyX5 tyX5_ok nmX5 hown hK hP hD hS 0 rfl rfl 8 (by decide) (hts _ (List.mem_of_getElem? (i := 12) rfl)) (fun _ h => h) rfl hini rfl (tyX5_ok 8 (by decide)) rfl rfl (Nat.le_of_ble_eq_true rfl) dX5_init_60 (fun H locs hP hD hS => ?_)
  have hP : va_P G vwCl ((((((([(h, .inr (5, [.ref q1, .ref q2, .int 0, .ref q3, .int 0, .ref q4, .ref q5, .ref q6, .ref q7, .long 0, .null]))] ++ [(q1, .inl (cx 0, 107, .inl (aI zI)))]) ++ [(q2, .inl (cx 0, 856, .inl (aI zI)))]) ++ [(q3, .inl (cx 0, 214, .inl (aI zI)))]) ++ [(q4, .inl (cx 0, 16, .inl (aI zI)))]) ++ [(q5, .inl (cx 0, 16, .inl (aI zI)))]) ++ [(q6, .inl (cx 0, 17, .inl (aI zI)))]) ++ [(q7, .inl (cx 1, 544, .inr (.inl (aL zI))))]) H := hP
  have hD : va_D (NA h s.heap.size) ((((((([(h, .inr (5, [.ref q1, .ref q2, .int 0, .ref q3, .int 0, .ref q4, .ref q5, .ref q6, .ref q7, .long 0, .null]))] ++ [(q1, .inl (cx 0, 107, .inl (aI zI)))]) ++ [(q2, .inl (cx 0, 856, .inl (aI zI)))]) ++ [(q3, .inl (cx 0, 214, .inl (aI zI)))]) ++ [(q4, .inl (cx 0, 16, .inl (aI zI)))]) ++ [(q5, .inl (cx 0, 16, .inl (aI zI)))]) ++ [(q6, .inl (cx 0, 17, .inl (aI zI)))]) ++ [(q7, .inl (cx 1, 544, .inr (.inl (aL zI))))]) := hD
  refine lv_aload_n hex hbc dX5_init_63 rfl (lv_at hl 0 rfl) ?_
  refine lv_bipush (v := iI 16) hex hbc dX5_init_64 (by decide) ?_
  refine g_newa (atype := .boolean) (ty := .boolean) 2 hex hbc (hts _ (List.mem_of_getElem? (i := 13) rfl)) rfl hK rfl hP hD hS hA 16 (16, .inl (aI zI)) (zc_z _) ⟨by omega, rfl⟩ (Nat.le_of_ble_eq_true rfl) (Nat.le_of_ble_eq_true rfl) (Nat.le_of_ble_eq_true rfl) dX5_init_66 (fun q8 H hP hD hS => ?_)
  refine W.widen (k := 8) (n := 1786) (Nat.le_of_ble_eq_true rfl) (Nat.le_of_ble_eq_true rfl) ?_
  refine va_putF hex hbc hts hin5 tyX5 tyX5_ok nmX5 hown hK hP hD hS 0 rfl rfl 10 (by decide) (hts _ (List.mem_of_getElem? (i := 14) rfl)) (fun _ h => h) rfl hini rfl (tyX5_ok 10 (by decide)) rfl rfl (Nat.le_of_ble_eq_true rfl) dX5_init_68 (fun H locs hP hD hS => ?_)
  have hP : va_P G vwCl (((((((([(h, .inr (5, [.ref q1, .ref q2, .int 0, .ref q3, .int 0, .ref q4, .ref q5, .ref q6, .ref q7, .long 0, .ref q8]))] ++ [(q1, .inl (cx 0, 107, .inl (aI zI)))]) ++ [(q2, .inl (cx 0, 856, .inl (aI zI)))]) ++ [(q3, .inl (cx 0, 214, .inl (aI zI)))]) ++ [(q4, .inl (cx 0, 16, .inl (aI zI)))]) ++ [(q5, .inl (cx 0, 16, .inl (aI zI)))]) ++ [(q6, .inl (cx 0, 17, .inl (aI zI)))]) ++ [(q7, .inl (cx 1, 544, .inr (.inl (aL zI))))]) ++ [(q8, .inl (cx 2, 16, .inl (aI zI)))]) H := hP
  have hD : va_D (NA h s.heap.size) (((((((([(h, .inr (5, [.ref q1, .ref q2, .int 0, .ref q3, .int 0, .ref q4, .ref q5, .ref q6, .ref q7, .long 0, .ref q8]))] ++ [(q1, .inl (cx 0, 107, .inl (aI zI)))]) ++ [(q2, .inl (cx 0, 856, .inl (aI zI)))]) ++ [(q3, .inl (cx 0, 214, .inl (aI zI)))]) ++ [(q4, .inl (cx 0, 16, .inl (aI zI)))]) ++ [(q5, .inl (cx 0, 16, .inl (aI zI)))]) ++ [(q6, .inl (cx 0, 17, .inl (aI zI)))]) ++ [(q7, .inl (cx 1, 544, .inr (.inl (aL zI))))]) ++ [(q8, .inl (cx 2, 16, .inl (aI zI)))]) := hD
  obtain ⟨b, hb⟩ : ∃ z : Nat → Nat, z = (fun k => ([0, q1, q2, q3, q4, q5, q6, q7, q8] : List Nat).getD k 0) := ⟨_, rfl⟩
  have hP : va_P G vwCl (wm cx (a0 h b) s0M) H := by rw [hb]; exact hP
  have hD : va_D (NA h s.heap.size) (wm cx (a0 h b) s0M) := by rw [hb]; exact hD
  refine lv_aload_n hex hbc dX5_init_71 rfl (lv_at hl 0 rfl) ?_
  refine va_get (v := .ref ((a0 h b) 1)) hex hbc hts hin5 hown hK hP 0 rfl rfl 0 (by decide) (hts _ (List.mem_of_getElem? (i := 5) rfl)) (fun _ h => h) rfl dX5_init_72 ?_
  refine lv_iconst (v := iI 1) hex hbc dX5_init_75 rfl ?_
  refine lv_bipush (v := iI 100) hex hbc dX5_init_76 (by decide) ?_
  have hi_78 : (0 : Int) ≤ 1 ∧ 1 < (107 : Int) := by omega
  refine g_iast (σ := s0M) (f := (s0M 0)) (i := 1) (v := 100) (τ := s1M) hex hbc hK hP hD hS 1 0 rfl rfl (by decide) hi_78 dX5_init_78 (wm_up_1 hi_78) (fun H locs hP hD hS => ?_)
  refine lv_aload_n hex hbc dX5_init_79 rfl (lv_at hl 0 rfl) ?_
  refine va_get (v := .ref ((a0 h b) 1)) hex hbc hts hin5 hown hK hP 0 rfl rfl 0 (by decide) (hts _ (List.mem_of_getElem? (i := 5) rfl)) (fun _ h => h) rfl dX5_init_80 ?_
  refine lv_iconst (v := iI 2) hex hbc dX5_init_83 rfl ?_
  refine lv_bipush (v := iI 100) hex hbc dX5_init_84 (by decide) ?_
  have hi_86 : (0 : Int) ≤ 2 ∧ 2 < (107 : Int) := by omega
  refine g_iast (σ := s1M) (f := (s1M 0)) (i := 2) (v := 100) (τ := s2M) hex hbc hK hP hD hS 1 0 rfl rfl (by decide) hi_86 dX5_init_86 (wm_up_1 hi_86) (fun H locs hP hD hS => ?_)
  refine lv_aload_n hex hbc dX5_init_87 rfl (lv_at hl 0 rfl) ?_
  refine va_get (v := .ref ((a0 h b) 1)) hex hbc hts hin5 hown hK hP 0 rfl rfl 0 (by decide) (hts _ (List.mem_of_getElem? (i := 5) rfl)) (fun _ h => h) rfl dX5_init_88 ?_
  refine lv_iconst (v := iI 3) hex hbc dX5_init_91 rfl ?_
  refine lv_iconst (v := iI 2) hex hbc dX5_init_92 rfl ?_
  have hi_93 : (0 : Int) ≤ 3 ∧ 3 < (107 : Int) := by omega
  refine g_iast (σ := s2M) (f := (s2M 0)) (i := 3) (v := 2) (τ := s3M) hex hbc hK hP hD hS 1 0 rfl rfl (by decide) hi_93 dX5_init_93 (wm_up_1 hi_93) (fun H locs hP hD hS => ?_)
  refine lv_aload_n hex hbc dX5_init_94 rfl (lv_at hl 0 rfl) ?_
  refine va_get (v := .ref ((a0 h b) 1)) hex hbc hts hin5 hown hK hP 0 rfl rfl 0 (by decide) (hts _ (List.mem_of_getElem? (i := 5) rfl)) (fun _ h => h) rfl dX5_init_95 ?_
  refine lv_iconst (v := iI 4) hex hbc dX5_init_98 rfl ?_
  refine lv_bipush (v := iI 50) hex hbc dX5_init_99 (by decide) ?_
  have hi_101 : (0 : Int) ≤ 4 ∧ 4 < (107 : Int) := by omega
  refine g_iast (σ := s3M) (f := (s3M 0)) (i := 4) (v := 50) (τ := s4M) hex hbc hK hP hD hS 1 0 rfl rfl (by decide) hi_101 dX5_init_101 (wm_up_1 hi_101) (fun H locs hP hD hS => ?_)
  refine lv_aload_n hex hbc dX5_init_102 rfl (lv_at hl 0 rfl) ?_
  refine va_get (v := .ref ((a0 h b) 1)) hex hbc hts hin5 hown hK hP 0 rfl rfl 0 (by decide) (hts _ (List.mem_of_getElem? (i := 5) rfl)) (fun _ h => h) rfl dX5_init_103 ?_
  refine lv_iconst (v := iI 5) hex hbc dX5_init_106 rfl ?_
  refine lv_sipush (v := iI 200) hex hbc dX5_init_107 (by decide) ?_
  have hi_110 : (0 : Int) ≤ 5 ∧ 5 < (107 : Int) := by omega
  refine g_iast (σ := s4M) (f := (s4M 0)) (i := 5) (v := 200) (τ := s5M) hex hbc hK hP hD hS 1 0 rfl rfl (by decide) hi_110 dX5_init_110 (wm_up_1 hi_110) (fun H locs hP hD hS => ?_)
  refine lv_aload_n hex hbc dX5_init_111 rfl (lv_at hl 0 rfl) ?_
  refine va_get (v := .ref ((a0 h b) 1)) hex hbc hts hin5 hown hK hP 0 rfl rfl 0 (by decide) (hts _ (List.mem_of_getElem? (i := 5) rfl)) (fun _ h => h) rfl dX5_init_112 ?_
  refine lv_bipush (v := iI 6) hex hbc dX5_init_115 (by decide) ?_
  refine lv_sipush (v := iI 1600) hex hbc dX5_init_117 (by decide) ?_
  have hi_120 : (0 : Int) ≤ 6 ∧ 6 < (107 : Int) := by omega
  refine g_iast (σ := s5M) (f := (s5M 0)) (i := 6) (v := 1600) (τ := s6M) hex hbc hK hP hD hS 1 0 rfl rfl (by decide) hi_120 dX5_init_120 (wm_up_1 hi_120) (fun H locs hP hD hS => ?_)
  refine lv_aload_n hex hbc dX5_init_121 rfl (lv_at hl 0 rfl) ?_
  refine va_get (v := .ref ((a0 h b) 1)) hex hbc hts hin5 hown hK hP 0 rfl rfl 0 (by decide) (hts _ (List.mem_of_getElem? (i := 5) rfl)) (fun _ h => h) rfl dX5_init_122 ?_
  refine lv_bipush (v := iI 7) hex hbc dX5_init_125 (by decide) ?_
  refine lv_bipush (v := iI 16) hex hbc dX5_init_127 (by decide) ?_
  have hi_129 : (0 : Int) ≤ 7 ∧ 7 < (107 : Int) := by omega
  refine g_iast (σ := s6M) (f := (s6M 0)) (i := 7) (v := 16) (τ := s7M) hex hbc hK hP hD hS 1 0 rfl rfl (by decide) hi_129 dX5_init_129 (wm_up_1 hi_129) (fun H locs hP hD hS => ?_)
  refine lv_aload_n hex hbc dX5_init_130 rfl (lv_at hl 0 rfl) ?_
  refine va_get (v := .ref ((a0 h b) 1)) hex hbc hts hin5 hown hK hP 0 rfl rfl 0 (by decide) (hts _ (List.mem_of_getElem? (i := 5) rfl)) (fun _ h => h) rfl dX5_init_131 ?_
  refine lv_bipush (v := iI 9) hex hbc dX5_init_134 (by decide) ?_
  refine lv_bipush (v := iI 50) hex hbc dX5_init_136 (by decide) ?_
  have hi_138 : (0 : Int) ≤ 9 ∧ 9 < (107 : Int) := by omega
  refine g_iast (σ := s7M) (f := (s7M 0)) (i := 9) (v := 50) (τ := s8M) hex hbc hK hP hD hS 1 0 rfl rfl (by decide) hi_138 dX5_init_138 (wm_up_1 hi_138) (fun H locs hP hD hS => ?_)
  refine lv_aload_n hex hbc dX5_init_139 rfl (lv_at hl 0 rfl) ?_
  refine lv_bipush (v := iI 16) hex hbc dX5_init_140 (by decide) ?_
  have hDm : va_D (MA (a0 h b)) (wm cx (a0 h b) s8M) := ⟨hD.1, wm_in⟩
  refine g_callv [.int (iI 16)] ⟨hex, hbc, hml, hown, hts⟩ (mX5_layLoop l G cx (a0 h b) s8M 16) (cwV 1 hts gX5_init_X5_layLoop rfl rfl rfl (by decide +kernel) ⟨Nat.le_of_ble_eq_true rfl, Nat.le_of_ble_eq_true rfl⟩) hK hP hDm hS (fun z hz => by obtain ⟨k, hk, rfl⟩ := hz; exact wm_A hD k hk) 0 5 rfl rfl rfl rfl hl.1 (Nat.le_of_ble_eq_true rfl) dX5_init_142 ⟨Nat.le_of_ble_eq_true rfl, Nat.le_of_ble_eq_true rfl⟩ (fun u H locs hw hP hDm hS hz hk => ?_)
  subst hw
  exact W.vret hex hbc hrt (fun t ht hW => ⟨⟨b, rfl, trivial, by rw [ht]; exact hP, wm_D hD⟩, hS.F ht⟩) hS.2.2 dX5_init_145 hlocks
