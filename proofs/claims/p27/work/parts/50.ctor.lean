/-! the constructors of a loop, a grid, a result (rows laid by wip/gen/ctor.py) -/
theorem zc_i (n : Nat) (cA : ClassId) : vp_cell cA (n, .inl (aI zI)) = arrV cA n (fun _ => defaultValue .int) := by
  rw [vp_cell_i]
  exact arrV_ext cA fun k _ => rfl
theorem zc_z (n : Nat) (cA : ClassId) : vp_cell cA (n, .inl (aI zI)) = arrV cA n (fun _ => defaultValue .boolean) := by
  rw [vp_cell_i]
  exact arrV_ext cA fun k _ => rfl
theorem zc_l (n : Nat) (cA : ClassId) : vp_cell cA (n, .inr (.inl (aL zI))) = arrV cA n (fun _ => defaultValue .long) := by
  rw [vp_cell_l]
  exact arrV_ext cA fun k _ => rfl
def gg (cx : Nat → Nat) (h lp a b c d f : Nat) : va_W := [(h, .inr (0, [.ref lp, .int 0, .int 0, .ref a, .ref b, .ref c, .ref d, .ref f])), (a, .inl (cx 0, 33, .inl (aI zI))), (b, .inl (cx 0, 16, .inl (aI zI))), (c, .inl (cx 0, 16, .inl (aI zI))), (d, .inl (cx 0, 561, .inl (aI zI))), (f, .inl (cx 0, 17, .inl (aI zI)))]
def gs (cx : Nat → Nat) (h lp gr a b : Nat) : va_W := [(h, .inr (3, [.ref lp, .ref gr, .ref a, .ref b])), (a, .inl (cx 0, 16, .inl (aI zI))), (b, .inl (cx 1, 16, .inr (.inl (aL zI))))]
theorem iX2_init_X2 : ∀ w ∈ wsX20, w ∈ wsX2_init := fun _ h => List.mem_cons_of_mem _ (List.mem_append_right _ h)
set_option maxHeartbeats 400000 in
set_option maxRecDepth 100000 in
theorem mX2_init (l : Launch) (G : va_G) (cx : Nat → Nat) (rw : Nat) (sz : Nat) (h : Nat) : Met l yX2_init wsX2_init ({ frames := 1, cells := 4, slots := 105, locals := 15 }) (va_Pc [.ref h] (fun U => U.heap.size = sz ∧ va_P G vwCl [(h, .inr (2, [.int 0, .int 0, .null, .null, .null, .null]))] U.heap ∧ va_K G vwCl (tx cx) U ∧ (FV cx rw (NA h sz)) U)) (va_Qv (fun (_ : Nat × Nat × Nat × Nat) => True) (fun u t => va_P G vwCl ((fun (u : Nat × Nat × Nat × Nat) => gl cx h u.1 u.2.1 u.2.2.1 u.2.2.2) u) t.heap ∧ va_D (NA h sz) ((fun (u : Nat × Nat × Nat × Nat) => gl cx h u.1 u.2.1 u.2.2.1 u.2.2.2) u)) (NA h sz)) 4 105 (NA h sz) := by
  refine Met.ofW (cc := cX2_init) (maxL := 1) (ret := none) (by decide) rfl ?_
  intro p e s m args below meth c s₁ B hml hv
  obtain ⟨rfl, hsz, hP, hK, hN, hCl, hZ, hcl⟩ := hv
  have hex := B.exec
  have hbc := B.bytes
  have hrt := B.returns
  have hts := atoms_spec (ws := wsX2_init) B.pre
  have hown : s.vm.findClass RX2 = some m.cls := findClass_of_methodNamed B.named
  have hlocks := B.notSynchronized
  have hini : meth.name = "<init>" := (name_of_methodNamed B.named B.method).1
  subst hsz
  have hD : va_D (NA h s.heap.size) [(h, .inr (2, [.int 0, .int 0, .null, .null, .null, .null]))] := NA_one
  have hA : ∀ q : Nat, s.heap.size ≤ q → NA h s.heap.size q := fun q z => Or.inr z
  have hS : va_S (NA h s.heap.size) s.heap s.heap [] := va_S.rf
  have hin2 := iX2_init_X2
  have hl := lv_entry ([.ref h]) (n := 1) (Nat.le_of_ble_eq_true rfl)
  rw [lg_entry_eq]
  generalize (lg_sl ([.ref h]) ++ List.replicate (1 - (lg_sl ([.ref h])).length) Slot.unset).toArray = ls at hl ⊢
  have hl : lv_has ls 1 [(0, .ref h)] := hl
  obtain ⟨cell, hc0, hc1, hc2, hc3, hc4, hc5⟩ := hcl
  refine lv_aload_n hex hbc dX2_init_0 rfl (lv_at hl 0 rfl) ?_
  refine W.objInit hex hbc hown (hts _ (List.mem_of_getElem? (i := 1) rfl)) (hts _ (List.mem_of_getElem? (i := 2) rfl)) (hts _ (List.mem_of_getElem? (i := 3) rfl)) rfl (by rw [hml]; exact hl.1) rfl dX2_init_1 (Nat.le_of_ble_eq_true rfl) (Nat.le_of_ble_eq_true rfl) ?_
  refine W.eq (g2 := F0 m 4 ls []) rfl ?_
  refine lv_aload_n hex hbc dX2_init_4 rfl (lv_at hl 0 rfl) ?_
  refine lv_bipush (v := iI 16) hex hbc dX2_init_5 (by decide) ?_
  refine va_put hex hbc hts hin2 tyX2 tyX2_ok nmX2 hown hK hP hD hS 0 rfl rfl 0 (by decide) (hts _ (List.mem_of_getElem? (i := 4) rfl)) (fun _ h => h) rfl (tyX2_ok 0 (by decide)) rfl rfl (Nat.le_of_ble_eq_true rfl) dX2_init_7 (fun H locs hP hD hS => ?_)
  have hP : va_P G vwCl ([(h, .inr (2, [.int (iI 16), .int 0, .null, .null, .null, .null]))]) H := hP
  have hD : va_D (NA h s.heap.size) ([(h, .inr (2, [.int (iI 16), .int 0, .null, .null, .null, .null]))]) := hD
  refine lv_aload_n hex hbc dX2_init_10 rfl (lv_at hl 0 rfl) ?_
  refine lv_iconst (v := iI 1) hex hbc dX2_init_11 rfl ?_
  refine va_put hex hbc hts hin2 tyX2 tyX2_ok nmX2 hown hK hP hD hS 0 rfl rfl 1 (by decide) (hts _ (List.mem_of_getElem? (i := 5) rfl)) (fun _ h => h) rfl (tyX2_ok 1 (by decide)) rfl rfl (Nat.le_of_ble_eq_true rfl) dX2_init_12 (fun H locs hP hD hS => ?_)
  have hP : va_P G vwCl ([(h, .inr (2, [.int (iI 16), .int (iI 1), .null, .null, .null, .null]))]) H := hP
  have hD : va_D (NA h s.heap.size) ([(h, .inr (2, [.int (iI 16), .int (iI 1), .null, .null, .null, .null]))]) := hD
  refine lv_aload_n hex hbc dX2_init_15 rfl (lv_at hl 0 rfl) ?_
  refine lv_bipush (v := iI 64) hex hbc dX2_init_16 (by decide) ?_
  refine g_newa (atype := .int) (ty := .int) 0 hex hbc (hts _ (List.mem_of_getElem? (i := 6) rfl)) rfl hK rfl hP hD hS hA 64 (64, .inl (aI zI)) (zc_i _) ⟨by omega, rfl⟩ (Nat.le_of_ble_eq_true rfl) (Nat.le_of_ble_eq_true rfl) (Nat.le_of_ble_eq_true rfl) dX2_init_18 (fun q1 H hP hD hS => ?_)
  refine W.widen (k := 1) (n := 64) (Nat.le_of_ble_eq_true rfl) (Nat.le_of_ble_eq_true rfl) ?_
  refine va_putF hex hbc hts hin2 tyX2 tyX2_ok nmX2 hown hK hP hD hS 0 rfl rfl 2 (by decide) (hts _ (List.mem_of_getElem? (i := 7) rfl)) (fun _ h => h) rfl hini rfl (tyX2_ok 2 (by decide)) rfl rfl (Nat.le_of_ble_eq_true rfl) dX2_init_20 (fun H locs hP hD hS => ?_)
  have hP : va_P G vwCl ([(h, .inr (2, [.int (iI 16), .int (iI 1), .ref q1, .null, .null, .null]))] ++ [(q1, .inl (cx 0, 64, .inl (aI zI)))]) H := hP
  have hD : va_D (NA h s.heap.size) ([(h, .inr (2, [.int (iI 16), .int (iI 1), .ref q1, .null, .null, .null]))] ++ [(q1, .inl (cx 0, 64, .inl (aI zI)))]) := hD
  refine lv_aload_n hex hbc dX2_init_23 rfl (lv_at hl 0 rfl) ?_
  refine va_getsN (v := .ref rw) hex hbc hZ hS hown (va_Nw.use rfl hN) (fun _ h => h) dX2_init_24 ?_
  refine g_clone (f := fvS) (n := 9) hex hbc (hml.trans hl.1.symm) hown (hts _ (List.mem_of_getElem? (i := 8) rfl)) (hts _ (List.mem_of_getElem? (i := 9) rfl)) (hts _ (List.mem_of_getElem? (i := 10) rfl)) (hts _ (List.mem_of_getElem? (i := 11) rfl)) (hts _ (List.mem_of_getElem? (i := 12) rfl)) hCl hK hP hD hS hA 0 rfl (by rw [hS.2.1 rw (Array.getElem?_eq_some_iff.mp hc0).1 hc5]; exact hc0) hc1 hc2 hc3 hc4 (Nat.le_of_ble_eq_true rfl) (Nat.le_of_ble_eq_true rfl) (Nat.le_of_ble_eq_true rfl) (Nat.le_of_ble_eq_true rfl) dX2_init_27 (fun q2 H hP hD hS => ?_)
  refine W.widen (k := 2) (n := 73) (Nat.le_of_ble_eq_true rfl) (Nat.le_of_ble_eq_true rfl) ?_
  refine va_castA hex hbc hown (hts _ (List.mem_of_getElem? (i := 13) rfl)) hP 2 rfl (va_nm_int (hK.2 0 _ rfl).2) dX2_init_30 ?_
  refine va_putF hex hbc hts hin2 tyX2 tyX2_ok nmX2 hown hK hP hD hS 0 rfl rfl 3 (by decide) (hts _ (List.mem_of_getElem? (i := 14) rfl)) (fun _ h => h) rfl hini rfl (tyX2_ok 3 (by decide)) rfl rfl (Nat.le_of_ble_eq_true rfl) dX2_init_33 (fun H locs hP hD hS => ?_)
  have hP : va_P G vwCl (([(h, .inr (2, [.int (iI 16), .int (iI 1), .ref q1, .ref q2, .null, .null]))] ++ [(q1, .inl (cx 0, 64, .inl (aI zI)))]) ++ [(q2, .inl (cx 0, 9, .inl (aI fvS)))]) H := hP
  have hD : va_D (NA h s.heap.size) (([(h, .inr (2, [.int (iI 16), .int (iI 1), .ref q1, .ref q2, .null, .null]))] ++ [(q1, .inl (cx 0, 64, .inl (aI zI)))]) ++ [(q2, .inl (cx 0, 9, .inl (aI fvS)))]) := hD
  refine lv_aload_n hex hbc dX2_init_36 rfl (lv_at hl 0 rfl) ?_
  refine lv_bipush (v := iI 16) hex hbc dX2_init_37 (by decide) ?_
  refine g_newa (atype := .int) (ty := .int) 0 hex hbc (hts _ (List.mem_of_getElem? (i := 6) rfl)) rfl hK rfl hP hD hS hA 16 (16, .inl (aI zI)) (zc_i _) ⟨by omega, rfl⟩ (Nat.le_of_ble_eq_true rfl) (Nat.le_of_ble_eq_true rfl) (Nat.le_of_ble_eq_true rfl) dX2_init_39 (fun q3 H hP hD hS => ?_)
  refine W.widen (k := 3) (n := 89) (Nat.le_of_ble_eq_true rfl) (Nat.le_of_ble_eq_true rfl) ?_
  refine va_putF hex hbc hts hin2 tyX2 tyX2_ok nmX2 hown hK hP hD hS 0 rfl rfl 4 (by decide) (hts _ (List.mem_of_getElem? (i := 15) rfl)) (fun _ h => h) rfl hini rfl (tyX2_ok 4 (by decide)) rfl rfl (Nat.le_of_ble_eq_true rfl) dX2_init_41 (fun H locs hP hD hS => ?_)
  have hP : va_P G vwCl ((([(h, .inr (2, [.int (iI 16), .int (iI 1), .ref q1, .ref q2, .ref q3, .null]))] ++ [(q1, .inl (cx 0, 64, .inl (aI zI)))]) ++ [(q2, .inl (cx 0, 9, .inl (aI fvS)))]) ++ [(q3, .inl (cx 0, 16, .inl (aI zI)))]) H := hP
  have hD : va_D (NA h s.heap.size) ((([(h, .inr (2, [.int (iI 16), .int (iI 1), .ref q1, .ref q2, .ref q3, .null]))] ++ [(q1, .inl (cx 0, 64, .inl (aI zI)))]) ++ [(q2, .inl (cx 0, 9, .inl (aI fvS)))]) ++ [(q3, .inl (cx 0, 16, .inl (aI zI)))]) := hD
  refine lv_aload_n hex hbc dX2_init_44 rfl (lv_at hl 0 rfl) ?_
  refine lv_bipush (v := iI 16) hex hbc dX2_init_45 (by decide) ?_
  refine g_newa (atype := .int) (ty := .int) 0 hex hbc (hts _ (List.mem_of_getElem? (i := 6) rfl)) rfl hK rfl hP hD hS hA 16 (16, .inl (aI zI)) (zc_i _) ⟨by omega, rfl⟩ (Nat.le_of_ble_eq_true rfl) (Nat.le_of_ble_eq_true rfl) (Nat.le_of_ble_eq_true rfl) dX2_init_47 (fun q4 H hP hD hS => ?_)
  refine W.widen (k := 4) (n := 105) (Nat.le_of_ble_eq_true rfl) (Nat.le_of_ble_eq_true rfl) ?_
  refine va_putF hex hbc hts hin2 tyX2 tyX2_ok nmX2 hown hK hP hD hS 0 rfl rfl 5 (by decide) (hts _ (List.mem_of_getElem? (i := 16) rfl)) (fun _ h => h) rfl hini rfl (tyX2_ok 5 (by decide)) rfl rfl (Nat.le_of_ble_eq_true rfl) dX2_init_49 (fun H locs hP hD hS => ?_)
  have hP : va_P G vwCl (((([(h, .inr (2, [.int (iI 16), .int (iI 1), .ref q1, .ref q2, .ref q3, .ref q4]))] ++ [(q1, .inl (cx 0, 64, .inl (aI zI)))]) ++ [(q2, .inl (cx 0, 9, .inl (aI fvS)))]) ++ [(q3, .inl (cx 0, 16, .inl (aI zI)))]) ++ [(q4, .inl (cx 0, 16, .inl (aI zI)))]) H := hP
  have hD : va_D (NA h s.heap.size) (((([(h, .inr (2, [.int (iI 16), .int (iI 1), .ref q1, .ref q2, .ref q3, .ref q4]))] ++ [(q1, .inl (cx 0, 64, .inl (aI zI)))]) ++ [(q2, .inl (cx 0, 9, .inl (aI fvS)))]) ++ [(q3, .inl (cx 0, 16, .inl (aI zI)))]) ++ [(q4, .inl (cx 0, 16, .inl (aI zI)))]) := hD
  exact W.vret hex hbc hrt (fun t ht hW => ⟨⟨(q1, q2, q3, q4), rfl, trivial, by rw [ht]; exact hP, hD⟩, hS.F ht⟩) hS.2.2 dX2_init_52 hlocks
theorem iX0_init_X0 : ∀ w ∈ wsX00, w ∈ wsX0_init := fun _ h => List.mem_cons_of_mem _ (List.mem_append_right _ h)
set_option maxHeartbeats 400000 in
set_option maxRecDepth 100000 in
theorem mX0_init (l : Launch) (G : va_G) (cx : Nat → Nat) (sz : Nat) (h lp : Nat) : Met l yX0_init wsX0_init ({ frames := 1, cells := 5, slots := 643, locals := 12 }) (va_Pc [.ref h, .ref lp] (fun U => U.heap.size = sz ∧ va_P G vwCl [(h, .inr (0, [.null, .int 0, .int 0, .null, .null, .null, .null, .null]))] U.heap ∧ va_K G vwCl (tx cx) U ∧ (fun _ => True) U)) (va_Qv (fun (_ : Nat × Nat × Nat × Nat × Nat) => True) (fun u t => va_P G vwCl ((fun (u : Nat × Nat × Nat × Nat × Nat) => gg cx h lp u.1 u.2.1 u.2.2.1 u.2.2.2.1 u.2.2.2.2) u) t.heap ∧ va_D (NA h sz) ((fun (u : Nat × Nat × Nat × Nat × Nat) => gg cx h lp u.1 u.2.1 u.2.2.1 u.2.2.2.1 u.2.2.2.2) u)) (NA h sz)) 5 643 (NA h sz) := by
  refine Met.ofW (cc := cX0_init) (maxL := 2) (ret := none) (by decide) rfl ?_
  intro p e s m args below meth c s₁ B hml hv
  obtain ⟨rfl, hsz, hP, hK, -⟩ := hv
  have hex := B.exec
  have hbc := B.bytes
  have hrt := B.returns
  have hts := atoms_spec (ws := wsX0_init) B.pre
  have hown : s.vm.findClass RX0 = some m.cls := findClass_of_methodNamed B.named
  have hlocks := B.notSynchronized
  have hini : meth.name = "<init>" := (name_of_methodNamed B.named B.method).1
  subst hsz
  have hD : va_D (NA h s.heap.size) [(h, .inr (0, [.null, .int 0, .int 0, .null, .null, .null, .null, .null]))] := NA_one
  have hA : ∀ q : Nat, s.heap.size ≤ q → NA h s.heap.size q := fun q z => Or.inr z
  have hS : va_S (NA h s.heap.size) s.heap s.heap [] := va_S.rf
  have hin0 := iX0_init_X0
  have hl := lv_entry ([.ref h, .ref lp]) (n := 2) (Nat.le_of_ble_eq_true rfl)
  rw [lg_entry_eq]
  generalize (lg_sl ([.ref h, .ref lp]) ++ List.replicate (2 - (lg_sl ([.ref h, .ref lp])).length) Slot.unset).toArray = ls at hl ⊢
  have hl : lv_has ls 2 [(0, .ref h), (1, .ref lp)] := hl
  refine lv_aload_n hex hbc dX0_init_0 rfl (lv_at hl 0 rfl) ?_
  refine W.objInit hex hbc hown (hts _ (List.mem_of_getElem? (i := 1) rfl)) (hts _ (List.mem_of_getElem? (i := 2) rfl)) (hts _ (List.mem_of_getElem? (i := 3) rfl)) rfl (by rw [hml]; exact hl.1) rfl dX0_init_1 (Nat.le_of_ble_eq_true rfl) (Nat.le_of_ble_eq_true rfl) ?_
  refine W.eq (g2 := F0 m 4 ls []) rfl ?_
  refine lv_aload_n hex hbc dX0_init_4 rfl (lv_at hl 0 rfl) ?_
  refine lv_bipush (v := iI 33) hex hbc dX0_init_5 (by decide) ?_
  refine g_newa (atype := .int) (ty := .int) 0 hex hbc (hts _ (List.mem_of_getElem? (i := 4) rfl)) rfl hK rfl hP hD hS hA 33 (33, .inl (aI zI)) (zc_i _) ⟨by omega, rfl⟩ (Nat.le_of_ble_eq_true rfl) (Nat.le_of_ble_eq_true rfl) (Nat.le_of_ble_eq_true rfl) dX0_init_7 (fun q1 H hP hD hS => ?_)
  refine W.widen (k := 1) (n := 33) (Nat.le_of_ble_eq_true rfl) (Nat.le_of_ble_eq_true rfl) ?_
  refine va_putF hex hbc hts hin0 tyX0 tyX0_ok nmX0 hown hK hP hD hS 0 rfl rfl 3 (by decide) (hts _ (List.mem_of_getElem? (i := 5) rfl)) (fun _ h => h) rfl hini rfl (tyX0_ok 3 (by decide)) rfl rfl (Nat.le_of_ble_eq_true rfl) dX0_init_9 (fun H locs hP hD hS => ?_)
  have hP : va_P G vwCl ([(h, .inr (0, [.null, .int 0, .int 0, .ref q1, .null, .null, .null, .null]))] ++ [(q1, .inl (cx 0, 33, .inl (aI zI)))]) H := hP
  have hD : va_D (NA h s.heap.size) ([(h, .inr (0, [.null, .int 0, .int 0, .ref q1, .null, .null, .null, .null]))] ++ [(q1, .inl (cx 0, 33, .inl (aI zI)))]) := hD
  refine lv_aload_n hex hbc dX0_init_12 rfl (lv_at hl 0 rfl) ?_
  refine lv_bipush (v := iI 16) hex hbc dX0_init_13 (by decide) ?_
  refine g_newa (atype := .int) (ty := .int) 0 hex hbc (hts _ (List.mem_of_getElem? (i := 4) rfl)) rfl hK rfl hP hD hS hA 16 (16, .inl (aI zI)) (zc_i _) ⟨by omega, rfl⟩ (Nat.le_of_ble_eq_true rfl) (Nat.le_of_ble_eq_true rfl) (Nat.le_of_ble_eq_true rfl) dX0_init_15 (fun q2 H hP hD hS => ?_)
  refine W.widen (k := 2) (n := 49) (Nat.le_of_ble_eq_true rfl) (Nat.le_of_ble_eq_true rfl) ?_
  refine va_putF hex hbc hts hin0 tyX0 tyX0_ok nmX0 hown hK hP hD hS 0 rfl rfl 4 (by decide) (hts _ (List.mem_of_getElem? (i := 6) rfl)) (fun _ h => h) rfl hini rfl (tyX0_ok 4 (by decide)) rfl rfl (Nat.le_of_ble_eq_true rfl) dX0_init_17 (fun H locs hP hD hS => ?_)
  have hP : va_P G vwCl (([(h, .inr (0, [.null, .int 0, .int 0, .ref q1, .ref q2, .null, .null, .null]))] ++ [(q1, .inl (cx 0, 33, .inl (aI zI)))]) ++ [(q2, .inl (cx 0, 16, .inl (aI zI)))]) H := hP
  have hD : va_D (NA h s.heap.size) (([(h, .inr (0, [.null, .int 0, .int 0, .ref q1, .ref q2, .null, .null, .null]))] ++ [(q1, .inl (cx 0, 33, .inl (aI zI)))]) ++ [(q2, .inl (cx 0, 16, .inl (aI zI)))]) := hD
  refine lv_aload_n hex hbc dX0_init_20 rfl (lv_at hl 0 rfl) ?_
  refine lv_bipush (v := iI 16) hex hbc dX0_init_21 (by decide) ?_
  refine g_newa (atype := .int) (ty := .int) 0 hex hbc (hts _ (List.mem_of_getElem? (i := 4) rfl)) rfl hK rfl hP hD hS hA 16 (16, .inl (aI zI)) (zc_i _) ⟨by omega, rfl⟩ (Nat.le_of_ble_eq_true rfl) (Nat.le_of_ble_eq_true rfl) (Nat.le_of_ble_eq_true rfl) dX0_init_23 (fun q3 H hP hD hS => ?_)
  refine W.widen (k := 3) (n := 65) (Nat.le_of_ble_eq_true rfl) (Nat.le_of_ble_eq_true rfl) ?_
  refine va_putF hex hbc hts hin0 tyX0 tyX0_ok nmX0 hown hK hP hD hS 0 rfl rfl 5 (by decide) (hts _ (List.mem_of_getElem? (i := 7) rfl)) (fun _ h => h) rfl hini rfl (tyX0_ok 5 (by decide)) rfl rfl (Nat.le_of_ble_eq_true rfl) dX0_init_25 (fun H locs hP hD hS => ?_)
  have hP : va_P G vwCl ((([(h, .inr (0, [.null, .int 0, .int 0, .ref q1, .ref q2, .ref q3, .null, .null]))] ++ [(q1, .inl (cx 0, 33, .inl (aI zI)))]) ++ [(q2, .inl (cx 0, 16, .inl (aI zI)))]) ++ [(q3, .inl (cx 0, 16, .inl (aI zI)))]) H := hP
  have hD : va_D (NA h s.heap.size) ((([(h, .inr (0, [.null, .int 0, .int 0, .ref q1, .ref q2, .ref q3, .null, .null]))] ++ [(q1, .inl (cx 0, 33, .inl (aI zI)))]) ++ [(q2, .inl (cx 0, 16, .inl (aI zI)))]) ++ [(q3, .inl (cx 0, 16, .inl (aI zI)))]) := hD
  refine lv_aload_n hex hbc dX0_init_28 rfl (lv_at hl 0 rfl) ?_
  refine lv_sipush (v := iI 561) hex hbc dX0_init_29 (by decide) ?_
  refine g_newa (atype := .int) (ty := .int) 0 hex hbc (hts _ (List.mem_of_getElem? (i := 4) rfl)) rfl hK rfl hP hD hS hA 561 (561, .inl (aI zI)) (zc_i _) ⟨by omega, rfl⟩ (Nat.le_of_ble_eq_true rfl) (Nat.le_of_ble_eq_true rfl) (Nat.le_of_ble_eq_true rfl) dX0_init_32 (fun q4 H hP hD hS => ?_)
  refine W.widen (k := 4) (n := 626) (Nat.le_of_ble_eq_true rfl) (Nat.le_of_ble_eq_true rfl) ?_
  refine va_putF hex hbc hts hin0 tyX0 tyX0_ok nmX0 hown hK hP hD hS 0 rfl rfl 6 (by decide) (hts _ (List.mem_of_getElem? (i := 8) rfl)) (fun _ h => h) rfl hini rfl (tyX0_ok 6 (by decide)) rfl rfl (Nat.le_of_ble_eq_true rfl) dX0_init_34 (fun H locs hP hD hS => ?_)
  have hP : va_P G vwCl (((([(h, .inr (0, [.null, .int 0, .int 0, .ref q1, .ref q2, .ref q3, .ref q4, .null]))] ++ [(q1, .inl (cx 0, 33, .inl (aI zI)))]) ++ [(q2, .inl (cx 0, 16, .inl (aI zI)))]) ++ [(q3, .inl (cx 0, 16, .inl (aI zI)))]) ++ [(q4, .inl (cx 0, 561, .inl (aI zI)))]) H := hP
  have hD : va_D (NA h s.heap.size) (((([(h, .inr (0, [.null, .int 0, .int 0, .ref q1, .ref q2, .ref q3, .ref q4, .null]))] ++ [(q1, .inl (cx 0, 33, .inl (aI zI)))]) ++ [(q2, .inl (cx 0, 16, .inl (aI zI)))]) ++ [(q3, .inl (cx 0, 16, .inl (aI zI)))]) ++ [(q4, .inl (cx 0, 561, .inl (aI zI)))]) := hD
  refine lv_aload_n hex hbc dX0_init_37 rfl (lv_at hl 0 rfl) ?_
  refine lv_bipush (v := iI 17) hex hbc dX0_init_38 (by decide) ?_
  refine g_newa (atype := .int) (ty := .int) 0 hex hbc (hts _ (List.mem_of_getElem? (i := 4) rfl)) rfl hK rfl hP hD hS hA 17 (17, .inl (aI zI)) (zc_i _) ⟨by omega, rfl⟩ (Nat.le_of_ble_eq_true rfl) (Nat.le_of_ble_eq_true rfl) (Nat.le_of_ble_eq_true rfl) dX0_init_40 (fun q5 H hP hD hS => ?_)
  refine W.widen (k := 5) (n := 643) (Nat.le_of_ble_eq_true rfl) (Nat.le_of_ble_eq_true rfl) ?_
  refine va_putF hex hbc hts hin0 tyX0 tyX0_ok nmX0 hown hK hP hD hS 0 rfl rfl 7 (by decide) (hts _ (List.mem_of_getElem? (i := 9) rfl)) (fun _ h => h) rfl hini rfl (tyX0_ok 7 (by decide)) rfl rfl (Nat.le_of_ble_eq_true rfl) dX0_init_42 (fun H locs hP hD hS => ?_)
  have hP : va_P G vwCl ((((([(h, .inr (0, [.null, .int 0, .int 0, .ref q1, .ref q2, .ref q3, .ref q4, .ref q5]))] ++ [(q1, .inl (cx 0, 33, .inl (aI zI)))]) ++ [(q2, .inl (cx 0, 16, .inl (aI zI)))]) ++ [(q3, .inl (cx 0, 16, .inl (aI zI)))]) ++ [(q4, .inl (cx 0, 561, .inl (aI zI)))]) ++ [(q5, .inl (cx 0, 17, .inl (aI zI)))]) H := hP
  have hD : va_D (NA h s.heap.size) ((((([(h, .inr (0, [.null, .int 0, .int 0, .ref q1, .ref q2, .ref q3, .ref q4, .ref q5]))] ++ [(q1, .inl (cx 0, 33, .inl (aI zI)))]) ++ [(q2, .inl (cx 0, 16, .inl (aI zI)))]) ++ [(q3, .inl (cx 0, 16, .inl (aI zI)))]) ++ [(q4, .inl (cx 0, 561, .inl (aI zI)))]) ++ [(q5, .inl (cx 0, 17, .inl (aI zI)))]) := hD
  refine lv_aload_n hex hbc dX0_init_45 rfl (lv_at hl 0 rfl) ?_
  refine lv_aload_n hex hbc dX0_init_46 rfl (lv_at hl 1 rfl) ?_
  refine va_putF hex hbc hts hin0 tyX0 tyX0_ok nmX0 hown hK hP hD hS 0 rfl rfl 0 (by decide) (hts _ (List.mem_of_getElem? (i := 10) rfl)) (fun _ h => h) rfl hini rfl (tyX0_ok 0 (by decide)) rfl rfl (Nat.le_of_ble_eq_true rfl) dX0_init_47 (fun H locs hP hD hS => ?_)
  have hP : va_P G vwCl ((((([(h, .inr (0, [.ref lp, .int 0, .int 0, .ref q1, .ref q2, .ref q3, .ref q4, .ref q5]))] ++ [(q1, .inl (cx 0, 33, .inl (aI zI)))]) ++ [(q2, .inl (cx 0, 16, .inl (aI zI)))]) ++ [(q3, .inl (cx 0, 16, .inl (aI zI)))]) ++ [(q4, .inl (cx 0, 561, .inl (aI zI)))]) ++ [(q5, .inl (cx 0, 17, .inl (aI zI)))]) H := hP
  have hD : va_D (NA h s.heap.size) ((((([(h, .inr (0, [.ref lp, .int 0, .int 0, .ref q1, .ref q2, .ref q3, .ref q4, .ref q5]))] ++ [(q1, .inl (cx 0, 33, .inl (aI zI)))]) ++ [(q2, .inl (cx 0, 16, .inl (aI zI)))]) ++ [(q3, .inl (cx 0, 16, .inl (aI zI)))]) ++ [(q4, .inl (cx 0, 561, .inl (aI zI)))]) ++ [(q5, .inl (cx 0, 17, .inl (aI zI)))]) := hD
  exact W.vret hex hbc hrt (fun t ht hW => ⟨⟨(q1, q2, q3, q4, q5), rfl, trivial, by rw [ht]; exact hP, hD⟩, hS.F ht⟩) hS.2.2 dX0_init_50 hlocks
theorem iX3_init_X3 : ∀ w ∈ wsX30, w ∈ wsX3_init := fun _ h => List.mem_cons_of_mem _ (List.mem_append_right _ h)
set_option maxHeartbeats 400000 in
set_option maxRecDepth 100000 in
theorem mX3_init (l : Launch) (G : va_G) (cx : Nat → Nat) (sz : Nat) (h lp gr : Nat) : Met l yX3_init wsX3_init ({ frames := 1, cells := 2, slots := 32, locals := 12 }) (va_Pc [.ref h, .ref lp, .ref gr] (fun U => U.heap.size = sz ∧ va_P G vwCl [(h, .inr (3, [.null, .null, .null, .null]))] U.heap ∧ va_K G vwCl (tx cx) U ∧ (fun _ => True) U)) (va_Qv (fun (_ : Nat × Nat) => True) (fun u t => va_P G vwCl ((fun (u : Nat × Nat) => gs cx h lp gr u.1 u.2) u) t.heap ∧ va_D (NA h sz) ((fun (u : Nat × Nat) => gs cx h lp gr u.1 u.2) u)) (NA h sz)) 2 32 (NA h sz) := by
  refine Met.ofW (cc := cX3_init) (maxL := 3) (ret := none) (by decide) rfl ?_
  intro p e s m args below meth c s₁ B hml hv
  obtain ⟨rfl, hsz, hP, hK, -⟩ := hv
  have hex := B.exec
  have hbc := B.bytes
  have hrt := B.returns
  have hts := atoms_spec (ws := wsX3_init) B.pre
  have hown : s.vm.findClass RX3 = some m.cls := findClass_of_methodNamed B.named
  have hlocks := B.notSynchronized
  have hini : meth.name = "<init>" := (name_of_methodNamed B.named B.method).1
  subst hsz
  have hD : va_D (NA h s.heap.size) [(h, .inr (3, [.null, .null, .null, .null]))] := NA_one
  have hA : ∀ q : Nat, s.heap.size ≤ q → NA h s.heap.size q := fun q z => Or.inr z
  have hS : va_S (NA h s.heap.size) s.heap s.heap [] := va_S.rf
  have hin3 := iX3_init_X3
  have hl := lv_entry ([.ref h, .ref lp, .ref gr]) (n := 3) (Nat.le_of_ble_eq_true rfl)
  rw [lg_entry_eq]
  generalize (lg_sl ([.ref h, .ref lp, .ref gr]) ++ List.replicate (3 - (lg_sl ([.ref h, .ref lp, .ref gr])).length) Slot.unset).toArray = ls at hl ⊢
  have hl : lv_has ls 3 [(0, .ref h), (1, .ref lp), (2, .ref gr)] := hl
  refine lv_aload_n hex hbc dX3_init_0 rfl (lv_at hl 0 rfl) ?_
  refine W.objInit hex hbc hown (hts _ (List.mem_of_getElem? (i := 1) rfl)) (hts _ (List.mem_of_getElem? (i := 2) rfl)) (hts _ (List.mem_of_getElem? (i := 3) rfl)) rfl (by rw [hml]; exact hl.1) rfl dX3_init_1 (Nat.le_of_ble_eq_true rfl) (Nat.le_of_ble_eq_true rfl) ?_
  refine W.eq (g2 := F0 m 4 ls []) rfl ?_
  refine lv_aload_n hex hbc dX3_init_4 rfl (lv_at hl 0 rfl) ?_
  refine lv_bipush (v := iI 16) hex hbc dX3_init_5 (by decide) ?_
  refine g_newa (atype := .int) (ty := .int) 0 hex hbc (hts _ (List.mem_of_getElem? (i := 4) rfl)) rfl hK rfl hP hD hS hA 16 (16, .inl (aI zI)) (zc_i _) ⟨by omega, rfl⟩ (Nat.le_of_ble_eq_true rfl) (Nat.le_of_ble_eq_true rfl) (Nat.le_of_ble_eq_true rfl) dX3_init_7 (fun q1 H hP hD hS => ?_)
  refine W.widen (k := 1) (n := 16) (Nat.le_of_ble_eq_true rfl) (Nat.le_of_ble_eq_true rfl) ?_
  refine va_putF hex hbc hts hin3 tyX3 tyX3_ok nmX3 hown hK hP hD hS 0 rfl rfl 2 (by decide) (hts _ (List.mem_of_getElem? (i := 5) rfl)) (fun _ h => h) rfl hini rfl (tyX3_ok 2 (by decide)) rfl rfl (Nat.le_of_ble_eq_true rfl) dX3_init_9 (fun H locs hP hD hS => ?_)
  have hP : va_P G vwCl ([(h, .inr (3, [.null, .null, .ref q1, .null]))] ++ [(q1, .inl (cx 0, 16, .inl (aI zI)))]) H := hP
  have hD : va_D (NA h s.heap.size) ([(h, .inr (3, [.null, .null, .ref q1, .null]))] ++ [(q1, .inl (cx 0, 16, .inl (aI zI)))]) := hD
  refine lv_aload_n hex hbc dX3_init_12 rfl (lv_at hl 0 rfl) ?_
  refine lv_bipush (v := iI 16) hex hbc dX3_init_13 (by decide) ?_
  refine g_newa (atype := .long) (ty := .long) 1 hex hbc (hts _ (List.mem_of_getElem? (i := 6) rfl)) rfl hK rfl hP hD hS hA 16 (16, .inr (.inl (aL zI))) (zc_l _) ⟨by omega, rfl⟩ (Nat.le_of_ble_eq_true rfl) (Nat.le_of_ble_eq_true rfl) (Nat.le_of_ble_eq_true rfl) dX3_init_15 (fun q2 H hP hD hS => ?_)
  refine W.widen (k := 2) (n := 32) (Nat.le_of_ble_eq_true rfl) (Nat.le_of_ble_eq_true rfl) ?_
  refine va_putF hex hbc hts hin3 tyX3 tyX3_ok nmX3 hown hK hP hD hS 0 rfl rfl 3 (by decide) (hts _ (List.mem_of_getElem? (i := 7) rfl)) (fun _ h => h) rfl hini rfl (tyX3_ok 3 (by decide)) rfl rfl (Nat.le_of_ble_eq_true rfl) dX3_init_17 (fun H locs hP hD hS => ?_)
  have hP : va_P G vwCl (([(h, .inr (3, [.null, .null, .ref q1, .ref q2]))] ++ [(q1, .inl (cx 0, 16, .inl (aI zI)))]) ++ [(q2, .inl (cx 1, 16, .inr (.inl (aL zI))))]) H := hP
  have hD : va_D (NA h s.heap.size) (([(h, .inr (3, [.null, .null, .ref q1, .ref q2]))] ++ [(q1, .inl (cx 0, 16, .inl (aI zI)))]) ++ [(q2, .inl (cx 1, 16, .inr (.inl (aL zI))))]) := hD
  refine lv_aload_n hex hbc dX3_init_20 rfl (lv_at hl 0 rfl) ?_
  refine lv_aload_n hex hbc dX3_init_21 rfl (lv_at hl 1 rfl) ?_
  refine va_putF hex hbc hts hin3 tyX3 tyX3_ok nmX3 hown hK hP hD hS 0 rfl rfl 0 (by decide) (hts _ (List.mem_of_getElem? (i := 8) rfl)) (fun _ h => h) rfl hini rfl (tyX3_ok 0 (by decide)) rfl rfl (Nat.le_of_ble_eq_true rfl) dX3_init_22 (fun H locs hP hD hS => ?_)
  have hP : va_P G vwCl (([(h, .inr (3, [.ref lp, .null, .ref q1, .ref q2]))] ++ [(q1, .inl (cx 0, 16, .inl (aI zI)))]) ++ [(q2, .inl (cx 1, 16, .inr (.inl (aL zI))))]) H := hP
  have hD : va_D (NA h s.heap.size) (([(h, .inr (3, [.ref lp, .null, .ref q1, .ref q2]))] ++ [(q1, .inl (cx 0, 16, .inl (aI zI)))]) ++ [(q2, .inl (cx 1, 16, .inr (.inl (aL zI))))]) := hD
  refine lv_aload_n hex hbc dX3_init_25 rfl (lv_at hl 0 rfl) ?_
  refine lv_aload_n hex hbc dX3_init_26 rfl (lv_at hl 2 rfl) ?_
  refine va_putF hex hbc hts hin3 tyX3 tyX3_ok nmX3 hown hK hP hD hS 0 rfl rfl 1 (by decide) (hts _ (List.mem_of_getElem? (i := 9) rfl)) (fun _ h => h) rfl hini rfl (tyX3_ok 1 (by decide)) rfl rfl (Nat.le_of_ble_eq_true rfl) dX3_init_27 (fun H locs hP hD hS => ?_)
  have hP : va_P G vwCl (([(h, .inr (3, [.ref lp, .ref gr, .ref q1, .ref q2]))] ++ [(q1, .inl (cx 0, 16, .inl (aI zI)))]) ++ [(q2, .inl (cx 1, 16, .inr (.inl (aL zI))))]) H := hP
  have hD : va_D (NA h s.heap.size) (([(h, .inr (3, [.ref lp, .ref gr, .ref q1, .ref q2]))] ++ [(q1, .inl (cx 0, 16, .inl (aI zI)))]) ++ [(q2, .inl (cx 1, 16, .inr (.inl (aL zI))))]) := hD
  exact W.vret hex hbc hrt (fun t ht hW => ⟨⟨(q1, q2), rfl, trivial, by rw [ht]; exact hP, hD⟩, hS.F ht⟩) hS.2.2 dX3_init_30 hlocks
