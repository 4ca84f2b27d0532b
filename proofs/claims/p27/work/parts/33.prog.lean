/-! the program: changes and small questions (rows laid by wip/gen) -/
set_option maxHeartbeats 4000000 in
set_option maxRecDepth 100000 in
theorem mX4_isSetting (l : Launch) (x1 : Int) (h1 : -2147483648 ≤ x1 ∧ x1 < 2147483648) : Met l yX4_isSetting wsX4_isSetting ({ frames := 0, cells := 0, slots := 0, locals := 0 }) (va_Pc [.int (iI x1)] (fun _ => True)) (va_Qi (fun r (_ : Unit) => ∃ z, iI z = r ∧ (((0 ≤ x1 ∧ x1 ≤ 8) ∧ z = 1) ∨ (¬ (0 ≤ x1 ∧ x1 ≤ 8) ∧ z = 0))) (fun _ _ => True) (fun _ => False)) 0 0 (fun _ => False) := by
  refine Met.ofW (cc := cX4_isSetting) (maxL := 1) (ret := some .boolean) (by decide) rfl ?_
  intro p e s m args below meth c s₁ B hml hv
  obtain ⟨rfl, -⟩ := hv
  have hex := B.exec
  have hbc := B.bytes
  have hrt := B.returns
  have hts := atoms_spec (ws := wsX4_isSetting) B.pre
  have hown : s.vm.findClass RX4 = some m.cls := findClass_of_methodNamed B.named
  have hlocks := B.notSynchronized
  have hS : va_S (fun _ => False) s.heap s.heap [] := va_S.rf
  have hl := lv_entry ([.int (iI x1)]) (n := 1) (Nat.le_of_ble_eq_true rfl)
  rw [lg_entry_eq]
  generalize (lg_sl ([.int (iI x1)]) ++ List.replicate (1 - (lg_sl ([.int (iI x1)])).length) Slot.unset).toArray = ls at hl ⊢
  have hl : lv_has ls 1 [(0, .int (iI x1))] := hl
  refine lv_iload_n hex hbc dX4_isSetting_0 rfl (lv_at hl 0 rfl) ?_
  refine zt_if_lt (a := x1) (tgt := 14) hex hbc (by omega) dX4_isSetting_1 (by decide) (fun c1 => ?_) (fun c1 => ?_)
  · skip
    refine lv_iconst (v := iI 0) hex hbc dX4_isSetting_14 rfl ?_
    exact W.zret hex hbc hrt rfl (fun t ht hW => ⟨⟨_, (), rfl, ⟨_, rfl, by omega⟩, trivial⟩, hS.F ht⟩) (fun q hq => hS.2.2 q hq) dX4_isSetting_15 hlocks
  · skip
    refine lv_iload_n hex hbc dX4_isSetting_4 rfl (lv_at hl 0 rfl) ?_
    refine lv_bipush (v := iI 9) hex hbc dX4_isSetting_5 (by decide) ?_
    refine zt_icmp_ge (a := x1) (b := 9) (tgt := 14) hex hbc (by omega) dX4_isSetting_7 (by decide) (fun c7 => ?_) (fun c7 => ?_)
    · skip
      refine lv_iconst (v := iI 0) hex hbc dX4_isSetting_14 rfl ?_
      exact W.zret hex hbc hrt rfl (fun t ht hW => ⟨⟨_, (), rfl, ⟨_, rfl, by omega⟩, trivial⟩, hS.F ht⟩) (fun q hq => hS.2.2 q hq) dX4_isSetting_15 hlocks
    · skip
      refine lv_iconst (v := iI 1) hex hbc dX4_isSetting_10 rfl ?_
      refine lv_goto (tgt := 15) hex hbc dX4_isSetting_11 (by decide) ?_
      exact W.zret hex hbc hrt rfl (fun t ht hW => ⟨⟨_, (), rfl, ⟨_, rfl, by omega⟩, trivial⟩, hS.F ht⟩) (fun q hq => hS.2.2 q hq) dX4_isSetting_15 hlocks
set_option maxHeartbeats 4000000 in
set_option maxRecDepth 100000 in
theorem mX4_isImage (l : Launch) (x1 : Int) (h1 : -2147483648 ≤ x1 ∧ x1 < 2147483648) : Met l yX4_isImage wsX4_isImage ({ frames := 0, cells := 0, slots := 0, locals := 0 }) (va_Pc [.int (iI x1)] (fun _ => True)) (va_Qi (fun r (_ : Unit) => ∃ z, iI z = r ∧ (((0 ≤ x1 ∧ x1 ≤ 1) ∧ z = 1) ∨ (¬ (0 ≤ x1 ∧ x1 ≤ 1) ∧ z = 0))) (fun _ _ => True) (fun _ => False)) 0 0 (fun _ => False) := by
  refine Met.ofW (cc := cX4_isImage) (maxL := 1) (ret := some .boolean) (by decide) rfl ?_
  intro p e s m args below meth c s₁ B hml hv
  obtain ⟨rfl, -⟩ := hv
  have hex := B.exec
  have hbc := B.bytes
  have hrt := B.returns
  have hts := atoms_spec (ws := wsX4_isImage) B.pre
  have hown : s.vm.findClass RX4 = some m.cls := findClass_of_methodNamed B.named
  have hlocks := B.notSynchronized
  have hS : va_S (fun _ => False) s.heap s.heap [] := va_S.rf
  have hl := lv_entry ([.int (iI x1)]) (n := 1) (Nat.le_of_ble_eq_true rfl)
  rw [lg_entry_eq]
  generalize (lg_sl ([.int (iI x1)]) ++ List.replicate (1 - (lg_sl ([.int (iI x1)])).length) Slot.unset).toArray = ls at hl ⊢
  have hl : lv_has ls 1 [(0, .int (iI x1))] := hl
  refine lv_iload_n hex hbc dX4_isImage_0 rfl (lv_at hl 0 rfl) ?_
  refine zt_if_lt (a := x1) (tgt := 13) hex hbc (by omega) dX4_isImage_1 (by decide) (fun c1 => ?_) (fun c1 => ?_)
  · skip
    refine lv_iconst (v := iI 0) hex hbc dX4_isImage_13 rfl ?_
    exact W.zret hex hbc hrt rfl (fun t ht hW => ⟨⟨_, (), rfl, ⟨_, rfl, by omega⟩, trivial⟩, hS.F ht⟩) (fun q hq => hS.2.2 q hq) dX4_isImage_14 hlocks
  · skip
    refine lv_iload_n hex hbc dX4_isImage_4 rfl (lv_at hl 0 rfl) ?_
    refine lv_iconst (v := iI 2) hex hbc dX4_isImage_5 rfl ?_
    refine zt_icmp_ge (a := x1) (b := 2) (tgt := 13) hex hbc (by omega) dX4_isImage_6 (by decide) (fun c6 => ?_) (fun c6 => ?_)
    · skip
      refine lv_iconst (v := iI 0) hex hbc dX4_isImage_13 rfl ?_
      exact W.zret hex hbc hrt rfl (fun t ht hW => ⟨⟨_, (), rfl, ⟨_, rfl, by omega⟩, trivial⟩, hS.F ht⟩) (fun q hq => hS.2.2 q hq) dX4_isImage_14 hlocks
    · skip
      refine lv_iconst (v := iI 1) hex hbc dX4_isImage_9 rfl ?_
      refine lv_goto (tgt := 14) hex hbc dX4_isImage_10 (by decide) ?_
      exact W.zret hex hbc hrt rfl (fun t ht hW => ⟨⟨_, (), rfl, ⟨_, rfl, by omega⟩, trivial⟩, hS.F ht⟩) (fun q hq => hS.2.2 q hq) dX4_isImage_14 hlocks
theorem iX4_isMovable_X4 : ∀ w ∈ wsX40, w ∈ wsX4_isMovable := fun _ h => List.mem_cons_of_mem _ (List.mem_append_left _ (List.mem_append_right _ h))
set_option maxHeartbeats 4000000 in
set_option maxRecDepth 100000 in
theorem mX4_isMovable (l : Launch) (G : va_G) (cx a : Nat → Nat) (σ : Nat → Int → Int)  (x : Int) (hx : -2147483648 ≤ x ∧ x < 2147483648) (hI : Inv (σ 0)) : Met l yX4_isMovable wsX4_isMovable ({ frames := 1, cells := 0, slots := 0, locals := 21 }) (va_Pc [.ref (a 0), .int (iI x)] (gW G (tx cx) (XA a) (wx cx a) σ)) (va_Qi (fun r u => σ = u ∧ ∃ v, iI v = r ∧ (((1 ≤ x ∧ x < σ 0 74) ∧ v = 1) ∨ (¬ (1 ≤ x ∧ x < σ 0 74) ∧ v = 0))) (gW G (tx cx) (XA a) (wx cx a)) (XA a)) 0 0 (XA a) := by
  refine Met.ofW (cc := cX4_isMovable) (maxL := 2) (ret := some .boolean) (by decide) rfl ?_
  intro p e s m args below meth c s₁ B hml hv
  obtain ⟨rfl, hP, hK, hD⟩ := hv
  have hex := B.exec
  have hbc := B.bytes
  have hrt := B.returns
  have hts := atoms_spec (ws := wsX4_isMovable) B.pre
  have hown : s.vm.findClass RX4 = some m.cls := findClass_of_methodNamed B.named
  have hlocks := B.notSynchronized
  have hS : va_S (XA a) s.heap s.heap [] := va_S.rf
  have hin4 := iX4_isMovable_X4
  have hl := lv_entry ([.ref (a 0), .int (iI x)]) (n := 2) (Nat.le_of_ble_eq_true rfl)
  rw [lg_entry_eq]
  generalize (lg_sl ([.ref (a 0), .int (iI x)]) ++ List.replicate (2 - (lg_sl ([.ref (a 0), .int (iI x)])).length) Slot.unset).toArray = ls at hl ⊢
  have hl : lv_has ls 2 [(0, .ref (a 0)), (1, .int (iI x))] := hl
  obtain ⟨hB, hEn, hMk, hAs, hPm⟩ := id hI
  refine lv_iload_n hex hbc dX4_isMovable_0 rfl (lv_at hl 1 rfl) ?_
  refine zt_if_le (a := x) (tgt := 19) hex hbc (by omega) dX4_isMovable_1 (by decide) (fun c1 => ?_) (fun c1 => ?_)
  · skip
    refine lv_iconst (v := iI 0) hex hbc dX4_isMovable_19 rfl ?_
    exact g_zret hex hbc hrt hlocks rfl hK hP hD hS ⟨rfl, _, rfl, by omega⟩ dX4_isMovable_20
  · skip
    refine lv_aload_n hex hbc dX4_isMovable_4 rfl (lv_at hl 0 rfl) ?_
    refine va_get (v := .ref (a 3)) hex hbc hts hin4 hown hK hP 0 rfl rfl 0 (by decide) (hts _ (List.mem_of_getElem? (i := 1) rfl)) (fun _ h => h) rfl dX4_isMovable_5 ?_
    refine lv_iload_n hex hbc dX4_isMovable_8 rfl (lv_at hl 1 rfl) ?_
    refine g_calli [.int (iI x)] ⟨hex, hbc, hml, hown, hts⟩ (mX2_isSlice l G cx a σ x (by omega) hI) (cwV 1 hts gX4_isMovable_X2_isSlice rfl rfl rfl (by decide +kernel) ⟨Nat.le_of_ble_eq_true rfl, Nat.le_of_ble_eq_true rfl⟩) hK hP hD hS (fun _ h => h) 3 2 rfl rfl rfl rfl hl.1 (Nat.le_of_ble_eq_true rfl) dX4_isMovable_9 ⟨Nat.zero_le _, Nat.zero_le _⟩ (fun r_9 u_9 H locs hw_9 hP hD hS hz_9 hk_9 => ?_)
    obtain ⟨rfl, vb9, rfl, hv9⟩ := hw_9
    refine zt_ifb_eq (P := (0 ≤ x ∧ x < σ 0 74)) (tgt := 19) hex hbc hv9 dX4_isMovable_12 (by decide) (fun c12 => ?_) (fun c12 => ?_)
    · skip
      refine lv_iconst (v := iI 0) hex hbc dX4_isMovable_19 rfl ?_
      exact g_zret hex hbc hrt hlocks rfl hK hP hD hS ⟨rfl, _, rfl, by omega⟩ dX4_isMovable_20
    · skip
      refine lv_iconst (v := iI 1) hex hbc dX4_isMovable_15 rfl ?_
      refine lv_goto (tgt := 20) hex hbc dX4_isMovable_16 (by decide) ?_
      exact g_zret hex hbc hrt hlocks rfl hK hP hD hS ⟨rfl, _, rfl, by omega⟩ dX4_isMovable_20
theorem iX4_begin_X2 : ∀ w ∈ wsX20, w ∈ wsX4_begin := fun _ h => List.mem_cons_of_mem _ (List.mem_append_left _ (List.mem_append_right _ h))
theorem iX4_begin_X4 : ∀ w ∈ wsX40, w ∈ wsX4_begin := fun _ h => List.mem_cons_of_mem _ (List.mem_append_left _ (List.mem_append_left _ (List.mem_append_right _ h)))
set_option maxHeartbeats 4000000 in
set_option maxRecDepth 100000 in
theorem mX4_begin (l : Launch) (G : va_G) (cx a : Nat → Nat) (σ : Nat → Int → Int)  (x : Int) (hx : -2147483648 ≤ x ∧ x < 2147483648) (hHs : (0 ≤ σ 12 0 ∧ σ 12 0 ≤ 7) ∧ (0 ≤ σ 12 1 ∧ σ 12 1 ≤ 8)) (hI : Inv (σ 0)) : Met l yX4_begin wsX4_begin ({ frames := 3, cells := 0, slots := 0, locals := 102 }) (va_Pc [.ref (a 0), .int (iI x)] (gW G (tx cx) (XA a) (wx cx a) σ)) (va_Qi (fun r u => ((1 ≤ x ∧ x ≤ 64) → iI (σ 0 0) = r ∧ XC_ σ u (spc (σ 0) x)) ∧ (¬ (1 ≤ x ∧ x ≤ 64) → iI (-1) = r ∧ XQ_ σ u)) (gW G (tx cx) (XA a) (wx cx a)) (XA a)) 0 0 (XA a) := by
  refine Met.ofW (cc := cX4_begin) (maxL := 3) (ret := some .int) (by decide) rfl ?_
  intro p e s m args below meth c s₁ B hml hv
  obtain ⟨rfl, hP, hK, hD⟩ := hv
  have hex := B.exec
  have hbc := B.bytes
  have hrt := B.returns
  have hts := atoms_spec (ws := wsX4_begin) B.pre
  have hown : s.vm.findClass RX4 = some m.cls := findClass_of_methodNamed B.named
  have hlocks := B.notSynchronized
  have hS : va_S (XA a) s.heap s.heap [] := va_S.rf
  have hin2 := iX4_begin_X2
  have hin4 := iX4_begin_X4
  have hl := lv_entry ([.ref (a 0), .int (iI x)]) (n := 3) (Nat.le_of_ble_eq_true rfl)
  rw [lg_entry_eq]
  generalize (lg_sl ([.ref (a 0), .int (iI x)]) ++ List.replicate (3 - (lg_sl ([.ref (a 0), .int (iI x)])).length) Slot.unset).toArray = ls at hl ⊢
  have hl : lv_has ls 3 [(0, .ref (a 0)), (1, .int (iI x))] := hl
  obtain ⟨hB, hEn, hMk, hAs, hPm⟩ := id hI
  refine lv_iload_n hex hbc dX4_begin_0 rfl (lv_at hl 1 rfl) ?_
  refine lv_iconst (v := iI 1) hex hbc dX4_begin_1 rfl ?_
  refine zt_icmp_lt (a := x) (b := 1) (tgt := 11) hex hbc (by omega) dX4_begin_2 (by decide) (fun c2 => ?_) (fun c2 => ?_)
  · skip
    refine lv_iconst (v := iI (-1)) hex hbc dX4_begin_11 rfl ?_
    exact g_iret hex hbc hrt hlocks hK hP hD hS ⟨fun h => (by exfalso; omega), fun _ => ⟨rfl, ⟨rfl, rfl, rfl, rfl, rfl, rfl⟩⟩⟩ dX4_begin_12
  · skip
    refine lv_iload_n hex hbc dX4_begin_5 rfl (lv_at hl 1 rfl) ?_
    refine lv_bipush (v := iI 64) hex hbc dX4_begin_6 (by decide) ?_
    refine zt_icmp_le (a := x) (b := 64) (tgt := 13) hex hbc (by omega) dX4_begin_8 (by decide) (fun c8 => ?_) (fun c8 => ?_)
    · skip
      refine lv_aload_n hex hbc dX4_begin_13 rfl (lv_at hl 0 rfl) ?_
      refine va_get (v := .ref (a 17)) hex hbc hts hin4 hown hK hP 0 rfl rfl 3 (by decide) (hts _ (List.mem_of_getElem? (i := 1) rfl)) (fun _ h => h) rfl dX4_begin_14 ?_
      refine lv_aload_n hex hbc dX4_begin_17 rfl (lv_at hl 0 rfl) ?_
      refine va_get (v := .ref (a 3)) hex hbc hts hin4 hown hK hP 0 rfl rfl 0 (by decide) (hts _ (List.mem_of_getElem? (i := 2) rfl)) (fun _ h => h) rfl dX4_begin_18 ?_
      refine g_callv [.ref (a 3)] ⟨hex, hbc, hml, hown, hts⟩ (mX1_push l G cx a σ  hHs) (cwV 1 hts gX4_begin_X1_push rfl rfl rfl (by decide +kernel) ⟨Nat.le_of_ble_eq_true rfl, Nat.le_of_ble_eq_true rfl⟩) hK hP hD hS (fun _ h => h) 17 1 rfl rfl rfl rfl hl.1 (Nat.le_of_ble_eq_true rfl) dX4_begin_21 ⟨Nat.zero_le _, Nat.zero_le _⟩ (fun u_21 H locs hw_21 hP hD hS hz_21 hk_21 => ?_)
      obtain rfl := hw_21
      have hP : va_P G vwCl (wx cx a (sc (sc σ 1 (cpi (σ 1) (σ 0) (107 * (if σ 12 0 + 1 < 8 then σ 12 0 + 1 else 0)))) 12 (ups (ups (σ 12) 0 (if σ 12 0 + 1 < 8 then σ 12 0 + 1 else 0)) 1 (if σ 12 1 < 8 then σ 12 1 + 1 else σ 12 1)))) H := hP
      have hD : va_D (XA a) (wx cx a (sc (sc σ 1 (cpi (σ 1) (σ 0) (107 * (if σ 12 0 + 1 < 8 then σ 12 0 + 1 else 0)))) 12 (ups (ups (σ 12) 0 (if σ 12 0 + 1 < 8 then σ 12 0 + 1 else 0)) 1 (if σ 12 1 < 8 then σ 12 1 + 1 else σ 12 1)))) := hD
      refine lv_aload_n hex hbc dX4_begin_24 rfl (lv_at hl 0 rfl) ?_
      refine va_get (v := .ref (a 3)) hex hbc hts hin4 hown hK hP 0 rfl rfl 0 (by decide) (hts _ (List.mem_of_getElem? (i := 2) rfl)) (fun _ h => h) rfl dX4_begin_25 ?_
      refine va_get (v := .int (iI (σ 0 0))) hex hbc hts hin2 hown hK hP 3 rfl rfl 0 (by decide) (hts _ (List.mem_of_getElem? (i := 3) rfl)) (fun _ h => h) rfl dX4_begin_28 ?_
      refine lv_istore_n (lv' := [(2, .int (iI (σ 0 0))), (0, .ref (a 0)), (1, .int (iI x))]) hex hbc dX4_begin_31 rfl hl (by decide) rfl (fun ls hl => ?_)
      refine lv_aload_n hex hbc dX4_begin_32 rfl (lv_at hl 1 rfl) ?_
      refine va_get (v := .ref (a 3)) hex hbc hts hin4 hown hK hP 0 rfl rfl 0 (by decide) (hts _ (List.mem_of_getElem? (i := 2) rfl)) (fun _ h => h) rfl dX4_begin_33 ?_
      refine lv_iload_n hex hbc dX4_begin_36 rfl (lv_at hl 2 rfl) ?_
      refine g_callv [.int (iI x)] ⟨hex, hbc, hml, hown, hts⟩ (mX2_clear l G cx a (sc (sc σ 1 (cpi (σ 1) (σ 0) (107 * (if σ 12 0 + 1 < 8 then σ 12 0 + 1 else 0)))) 12 (ups (ups (σ 12) 0 (if σ 12 0 + 1 < 8 then σ 12 0 + 1 else 0)) 1 (if σ 12 1 < 8 then σ 12 1 + 1 else σ 12 1))) x hI) (cwV 1 hts gX4_begin_X2_clear rfl rfl rfl (by decide +kernel) ⟨Nat.le_of_ble_eq_true rfl, Nat.le_of_ble_eq_true rfl⟩) hK hP hD hS (fun _ h => h) 3 2 rfl rfl rfl rfl hl.1 (Nat.le_of_ble_eq_true rfl) dX4_begin_37 ⟨Nat.zero_le _, Nat.zero_le _⟩ (fun u_37 H locs hw_37 hP hD hS hz_37 hk_37 => ?_)
      obtain rfl := hw_37
      have hP : va_P G vwCl (wx cx a (sc (sc (sc σ 0 (spc (σ 0) x)) 1 (cpi (σ 1) (σ 0) (107 * (if σ 12 0 + 1 < 8 then σ 12 0 + 1 else 0)))) 12 (ups (ups (σ 12) 0 (if σ 12 0 + 1 < 8 then σ 12 0 + 1 else 0)) 1 (if σ 12 1 < 8 then σ 12 1 + 1 else σ 12 1)))) H := hP
      have hD : va_D (XA a) (wx cx a (sc (sc (sc σ 0 (spc (σ 0) x)) 1 (cpi (σ 1) (σ 0) (107 * (if σ 12 0 + 1 < 8 then σ 12 0 + 1 else 0)))) 12 (ups (ups (σ 12) 0 (if σ 12 0 + 1 < 8 then σ 12 0 + 1 else 0)) 1 (if σ 12 1 < 8 then σ 12 1 + 1 else σ 12 1)))) := hD
      refine lv_iload_n hex hbc dX4_begin_40 rfl (lv_at hl 0 rfl) ?_
      exact g_iret hex hbc hrt hlocks hK hP hD hS ⟨fun _ => ⟨rfl, ⟨rfl, rfl, (show ups (ups (σ 12) 0 (nxs (σ 12 0))) 1 (szs (σ 12 1)) 0 = nxs (σ 12 0) from pu_0), (show ups (ups (σ 12) 0 (nxs (σ 12 0))) 1 (szs (σ 12 1)) 1 = szs (σ 12 1) from pu_1), rfl, rfl⟩⟩, fun h => absurd ⟨by omega, by omega⟩ h⟩ dX4_begin_41
    · skip
      refine lv_iconst (v := iI (-1)) hex hbc dX4_begin_11 rfl ?_
      exact g_iret hex hbc hrt hlocks hK hP hD hS ⟨fun h => (by exfalso; omega), fun _ => ⟨rfl, ⟨rfl, rfl, rfl, rfl, rfl, rfl⟩⟩⟩ dX4_begin_12
theorem iX4_sound_X2 : ∀ w ∈ wsX20, w ∈ wsX4_sound := fun _ h => List.mem_cons_of_mem _ (List.mem_append_left _ (List.mem_append_right _ h))
theorem iX4_sound_X4 : ∀ w ∈ wsX40, w ∈ wsX4_sound := fun _ h => List.mem_cons_of_mem _ (List.mem_append_left _ (List.mem_append_left _ (List.mem_append_right _ h)))
set_option maxHeartbeats 4000000 in
set_option maxRecDepth 100000 in
theorem mX4_sound (l : Launch) (G : va_G) (cx a : Nat → Nat) (σ : Nat → Int → Int)  (x1 : Int) (x2 : Int) (x3 : Int) (h1 : -2147483648 ≤ x1 ∧ x1 < 2147483648) (h2 : -2147483648 ≤ x2 ∧ x2 < 2147483648) (h3 : -2147483648 ≤ x3 ∧ x3 < 2147483648) (hHs : (0 ≤ σ 12 0 ∧ σ 12 0 ≤ 7) ∧ (0 ≤ σ 12 1 ∧ σ 12 1 ≤ 8)) (hI : Inv (σ 0)) : Met l yX4_sound wsX4_sound ({ frames := 3, cells := 0, slots := 0, locals := 102 }) (va_Pc [.ref (a 0), .int (iI x1), .int (iI x2), .int (iI x3)] (gW G (tx cx) (XA a) (wx cx a) σ)) (va_Qi (fun r u => ((okE (σ 0) x1 x2 x3) → iI (smE (σ 0) x1 (x2 + 1 - x1)) = r ∧ XC_ σ u (spS (σ 0) x1 x2 x3)) ∧ (¬ (okE (σ 0) x1 x2 x3) → iI (-1) = r ∧ XQ_ σ u)) (gW G (tx cx) (XA a) (wx cx a)) (XA a)) 0 0 (XA a) := by
  refine Met.ofW (cc := cX4_sound) (maxL := 6) (ret := some .int) (by decide) rfl ?_
  intro p e s m args below meth c s₁ B hml hv
  obtain ⟨rfl, hP, hK, hD⟩ := hv
  have hex := B.exec
  have hbc := B.bytes
  have hrt := B.returns
  have hts := atoms_spec (ws := wsX4_sound) B.pre
  have hown : s.vm.findClass RX4 = some m.cls := findClass_of_methodNamed B.named
  have hlocks := B.notSynchronized
  have hS : va_S (XA a) s.heap s.heap [] := va_S.rf
  have hin2 := iX4_sound_X2
  have hin4 := iX4_sound_X4
  have hl := lv_entry ([.ref (a 0), .int (iI x1), .int (iI x2), .int (iI x3)]) (n := 6) (Nat.le_of_ble_eq_true rfl)
  rw [lg_entry_eq]
  generalize (lg_sl ([.ref (a 0), .int (iI x1), .int (iI x2), .int (iI x3)]) ++ List.replicate (6 - (lg_sl ([.ref (a 0), .int (iI x1), .int (iI x2), .int (iI x3)])).length) Slot.unset).toArray = ls at hl ⊢
  have hl : lv_has ls 6 [(0, .ref (a 0)), (1, .int (iI x1)), (2, .int (iI x2)), (3, .int (iI x3))] := hl
  obtain ⟨hB, hEn, hMk, hAs, hPm⟩ := id hI
  refine lv_aload_n hex hbc dX4_sound_0 rfl (lv_at hl 0 rfl) ?_
  refine va_get (v := .ref (a 3)) hex hbc hts hin4 hown hK hP 0 rfl rfl 0 (by decide) (hts _ (List.mem_of_getElem? (i := 1) rfl)) (fun _ h => h) rfl dX4_sound_1 ?_
  refine lv_iload_n hex hbc dX4_sound_4 rfl (lv_at hl 1 rfl) ?_
  refine g_calli [.int (iI x1)] ⟨hex, hbc, hml, hown, hts⟩ (mX2_isFrame l G cx a σ x1 (by omega) hI) (cwV 1 hts gX4_sound_X2_isFrame rfl rfl rfl (by decide +kernel) ⟨Nat.le_of_ble_eq_true rfl, Nat.le_of_ble_eq_true rfl⟩) hK hP hD hS (fun _ h => h) 3 2 rfl rfl rfl rfl hl.1 (Nat.le_of_ble_eq_true rfl) dX4_sound_5 ⟨Nat.zero_le _, Nat.zero_le _⟩ (fun r_5 u_5 H locs hw_5 hP hD hS hz_5 hk_5 => ?_)
  obtain ⟨rfl, vb5, rfl, hv5⟩ := hw_5
  refine zt_ifb_eq (P := (0 ≤ x1 ∧ x1 < σ 0 0)) (tgt := 27) hex hbc hv5 dX4_sound_8 (by decide) (fun c8 => ?_) (fun c8 => ?_)
  · skip
    refine lv_iconst (v := iI (-1)) hex hbc dX4_sound_27 rfl ?_
    exact g_iret hex hbc hrt hlocks hK hP hD hS ⟨fun h => (by unfold okE at h; exfalso; omega), fun _ => ⟨rfl, ⟨rfl, rfl, rfl, rfl, rfl, rfl⟩⟩⟩ dX4_sound_28
  · skip
    refine lv_aload_n hex hbc dX4_sound_11 rfl (lv_at hl 0 rfl) ?_
    refine va_get (v := .ref (a 3)) hex hbc hts hin4 hown hK hP 0 rfl rfl 0 (by decide) (hts _ (List.mem_of_getElem? (i := 1) rfl)) (fun _ h => h) rfl dX4_sound_12 ?_
    refine lv_iload_n hex hbc dX4_sound_15 rfl (lv_at hl 2 rfl) ?_
    refine g_calli [.int (iI x2)] ⟨hex, hbc, hml, hown, hts⟩ (mX2_isFrame l G cx a σ x2 (by omega) hI) (cwV 1 hts gX4_sound_X2_isFrame rfl rfl rfl (by decide +kernel) ⟨Nat.le_of_ble_eq_true rfl, Nat.le_of_ble_eq_true rfl⟩) hK hP hD hS (fun _ h => h) 3 2 rfl rfl rfl rfl hl.1 (Nat.le_of_ble_eq_true rfl) dX4_sound_16 ⟨Nat.zero_le _, Nat.zero_le _⟩ (fun r_16 u_16 H locs hw_16 hP hD hS hz_16 hk_16 => ?_)
    obtain ⟨rfl, vb16, rfl, hv16⟩ := hw_16
    refine zt_ifb_eq (P := (0 ≤ x2 ∧ x2 < σ 0 0)) (tgt := 27) hex hbc hv16 dX4_sound_19 (by decide) (fun c19 => ?_) (fun c19 => ?_)
    · skip
      refine lv_iconst (v := iI (-1)) hex hbc dX4_sound_27 rfl ?_
      exact g_iret hex hbc hrt hlocks hK hP hD hS ⟨fun h => (by unfold okE at h; exfalso; omega), fun _ => ⟨rfl, ⟨rfl, rfl, rfl, rfl, rfl, rfl⟩⟩⟩ dX4_sound_28
    · skip
      refine lv_iload_n hex hbc dX4_sound_22 rfl (lv_at hl 2 rfl) ?_
      refine lv_iload_n hex hbc dX4_sound_23 rfl (lv_at hl 1 rfl) ?_
      refine zt_icmp_ge (a := x2) (b := x1) (tgt := 29) hex hbc (by omega) dX4_sound_24 (by decide) (fun c24 => ?_) (fun c24 => ?_)
      · skip
        refine lv_iload_n hex hbc dX4_sound_29 rfl (lv_at hl 3 rfl) ?_
        refine zt_if_lt (a := x3) (tgt := 40) hex hbc (by omega) dX4_sound_30 (by decide) (fun c30 => ?_) (fun c30 => ?_)
        · skip
          refine lv_iconst (v := iI (-1)) hex hbc dX4_sound_40 rfl ?_
          exact g_iret hex hbc hrt hlocks hK hP hD hS ⟨fun h => (by unfold okE at h; exfalso; omega), fun _ => ⟨rfl, ⟨rfl, rfl, rfl, rfl, rfl, rfl⟩⟩⟩ dX4_sound_41
        · skip
          refine lv_iload_n hex hbc dX4_sound_33 rfl (lv_at hl 3 rfl) ?_
          refine lv_sipush (v := iI 999) hex hbc dX4_sound_34 (by decide) ?_
          refine zt_icmp_le (a := x3) (b := 999) (tgt := 42) hex hbc (by omega) dX4_sound_37 (by decide) (fun c37 => ?_) (fun c37 => ?_)
          · skip
            refine lv_aload_n hex hbc dX4_sound_42 rfl (lv_at hl 0 rfl) ?_
            refine va_get (v := .ref (a 17)) hex hbc hts hin4 hown hK hP 0 rfl rfl 3 (by decide) (hts _ (List.mem_of_getElem? (i := 2) rfl)) (fun _ h => h) rfl dX4_sound_43 ?_
            refine lv_aload_n hex hbc dX4_sound_46 rfl (lv_at hl 0 rfl) ?_
            refine va_get (v := .ref (a 3)) hex hbc hts hin4 hown hK hP 0 rfl rfl 0 (by decide) (hts _ (List.mem_of_getElem? (i := 1) rfl)) (fun _ h => h) rfl dX4_sound_47 ?_
            refine g_callv [.ref (a 3)] ⟨hex, hbc, hml, hown, hts⟩ (mX1_push l G cx a σ  hHs) (cwV 1 hts gX4_sound_X1_push rfl rfl rfl (by decide +kernel) ⟨Nat.le_of_ble_eq_true rfl, Nat.le_of_ble_eq_true rfl⟩) hK hP hD hS (fun _ h => h) 17 1 rfl rfl rfl rfl hl.1 (Nat.le_of_ble_eq_true rfl) dX4_sound_50 ⟨Nat.zero_le _, Nat.zero_le _⟩ (fun u_50 H locs hw_50 hP hD hS hz_50 hk_50 => ?_)
            obtain rfl := hw_50
            have hP : va_P G vwCl (wx cx a (sc (sc σ 1 (cpi (σ 1) (σ 0) (107 * (if σ 12 0 + 1 < 8 then σ 12 0 + 1 else 0)))) 12 (ups (ups (σ 12) 0 (if σ 12 0 + 1 < 8 then σ 12 0 + 1 else 0)) 1 (if σ 12 1 < 8 then σ 12 1 + 1 else σ 12 1)))) H := hP
            have hD : va_D (XA a) (wx cx a (sc (sc σ 1 (cpi (σ 1) (σ 0) (107 * (if σ 12 0 + 1 < 8 then σ 12 0 + 1 else 0)))) 12 (ups (ups (σ 12) 0 (if σ 12 0 + 1 < 8 then σ 12 0 + 1 else 0)) 1 (if σ 12 1 < 8 then σ 12 1 + 1 else σ 12 1)))) := hD
            refine lv_iconst (v := iI 0) hex hbc dX4_sound_53 rfl ?_
            refine lv_istore (lv' := [(4, .int (iI 0)), (0, .ref (a 0)), (1, .int (iI x1)), (2, .int (iI x2)), (3, .int (iI x3))]) hex hbc dX4_sound_54 hl (by decide) rfl (fun ls hl => ?_)
            refine lv_iload_n hex hbc dX4_sound_56 rfl (lv_at hl 2 rfl) ?_
            refine lv_istore (lv' := [(5, .int (iI x1)), (4, .int (iI 0)), (0, .ref (a 0)), (1, .int (iI x1)), (2, .int (iI x2)), (3, .int (iI x3))]) hex hbc dX4_sound_57 hl (by decide) rfl (fun ls hl => ?_)
            have loop_59 : ∀ (N : Nat) (i1 : Int) (s1 : Int) (w1 : Int → Int), (x1 ≤ i1 ∧ i1 ≤ x2 + 1 ∧ s1 = smE (σ 0) x1 (i1 - x1) ∧ ∀ k, w1 k = if 10 + x1 ≤ k ∧ k < 10 + i1 then x3 else σ 0 k) → (x2 + 1 - i1) < (N : Int) → ∀ (H : Heap) (locs : List Loc) (ls : Array Slot), va_P G vwCl (wx cx a (sc (sc (sc σ 0 w1) 1 (cpi (σ 1) (σ 0) (107 * (if σ 12 0 + 1 < 8 then σ 12 0 + 1 else 0)))) 12 (ups (ups (σ 12) 0 (if σ 12 0 + 1 < 8 then σ 12 0 + 1 else 0)) 1 (if σ 12 1 < 8 then σ 12 1 + 1 else σ 12 1)))) H → va_D (XA a) (wx cx a (sc (sc (sc σ 0 w1) 1 (cpi (σ 1) (σ 0) (107 * (if σ 12 0 + 1 < 8 then σ 12 0 + 1 else 0)))) 12 (ups (ups (σ 12) 0 (if σ 12 0 + 1 < 8 then σ 12 0 + 1 else 0)) 1 (if σ 12 1 < 8 then σ 12 1 + 1 else σ 12 1)))) → va_S (XA a) s.heap H locs → lv_has ls 6 [(5, .int (iI i1)), (4, .int (iI s1)), (0, .ref (a 0)), (1, .int (iI x1)), (2, .int (iI x2)), (3, .int (iI x3))] → W p l e (headSpec wsX4_sound ({ frames := 3, cells := 0, slots := 0, locals := 102 })).room s m ([.ref (a 0), .int (iI x1), .int (iI x2), .int (iI x3)] : List Value).toArray below meth c H locs 0 0 (MQ below (va_Qi (fun r u => ((okE (σ 0) x1 x2 x3) → iI (smE (σ 0) x1 (x2 + 1 - x1)) = r ∧ XC_ σ u (spS (σ 0) x1 x2 x3)) ∧ (¬ (okE (σ 0) x1 x2 x3) → iI (-1) = r ∧ XQ_ σ u)) (gW G (tx cx) (XA a) (wx cx a)) (XA a)) ([.ref (a 0), .int (iI x1), .int (iI x2), .int (iI x3)] : List Value).toArray s 0 0 (XA a)) (F0 m 59 ls []) := by
              intro N
              induction N with
              | zero => intro i1 s1 w1 hinv hlt; exfalso; have hz := hinv.2.1; omega
              | succ N ih_59 =>
                intro i1 s1 w1 ⟨hi0, hi1, hs, hw⟩ hlt_59 H locs ls hP hD hS hl
                refine lv_iload hex hbc dX4_sound_59 (lv_at hl 0 rfl) ?_
                refine lv_iload_n hex hbc dX4_sound_61 rfl (lv_at hl 4 rfl) ?_
                refine zt_icmp_gt (a := i1) (b := x2) (tgt := 97) hex hbc (by omega) dX4_sound_62 (by decide) (fun c62 => ?_) (fun c62 => ?_)
                · skip
                  refine lv_iload hex hbc dX4_sound_97 (lv_at hl 1 rfl) ?_
                  exact g_iret hex hbc hrt hlocks hK hP hD hS ⟨fun _ => ⟨congrArg iI (by rw [hs, show i1 = x2 + 1 by omega]), ⟨(funext fun k => (hw k).trans (by unfold spS; (repeat' split) <;> first | omega | exact congrArg _ (by omega))), rfl, (show ups (ups (σ 12) 0 (nxs (σ 12 0))) 1 (szs (σ 12 1)) 0 = nxs (σ 12 0) from pu_0), (show ups (ups (σ 12) 0 (nxs (σ 12 0))) 1 (szs (σ 12 1)) 1 = szs (σ 12 1) from pu_1), rfl, rfl⟩⟩, fun h => absurd (by unfold okE; omega) h⟩ dX4_sound_99
                · skip
                  refine lv_iload hex hbc dX4_sound_65 (lv_at hl 1 rfl) ?_
                  refine lv_aload_n hex hbc dX4_sound_67 rfl (lv_at hl 2 rfl) ?_
                  refine va_get (v := .ref (a 3)) hex hbc hts hin4 hown hK hP 0 rfl rfl 0 (by decide) (hts _ (List.mem_of_getElem? (i := 1) rfl)) (fun _ h => h) rfl dX4_sound_68 ?_
                  refine va_get (v := .ref (a 4)) hex hbc hts hin2 hown hK hP 3 rfl rfl 2 (by decide) (hts _ (List.mem_of_getElem? (i := 3) rfl)) (fun _ h => h) rfl dX4_sound_71 ?_
                  refine lv_iload hex hbc dX4_sound_74 (lv_at hl 0 rfl) ?_
                  refine g_iald (f := (fun k => (w1 (10 + k)))) (v := (w1 (10 + i1))) (i := i1) hex hbc hK hP 4 0 rfl rfl (by decide) (by omega) rfl dX4_sound_76 ?_
                  refine zt_nm (a := (w1 (10 + i1))) (b := (σ 0 (10 + i1))) (by rw [hw]; exact if_neg (by omega)) ?_
                  refine zt_iadd hex hbc dX4_sound_77 ?_
                  refine lv_istore (lv' := [(4, .int (iI (s1 + (σ 0 (10 + i1))))), (5, .int (iI i1)), (0, .ref (a 0)), (1, .int (iI x1)), (2, .int (iI x2)), (3, .int (iI x3))]) hex hbc dX4_sound_78 hl (by decide) rfl (fun ls hl => ?_)
                  refine lv_aload_n hex hbc dX4_sound_80 rfl (lv_at hl 2 rfl) ?_
                  refine va_get (v := .ref (a 3)) hex hbc hts hin4 hown hK hP 0 rfl rfl 0 (by decide) (hts _ (List.mem_of_getElem? (i := 1) rfl)) (fun _ h => h) rfl dX4_sound_81 ?_
                  refine va_get (v := .ref (a 4)) hex hbc hts hin2 hown hK hP 3 rfl rfl 2 (by decide) (hts _ (List.mem_of_getElem? (i := 3) rfl)) (fun _ h => h) rfl dX4_sound_84 ?_
                  refine lv_iload hex hbc dX4_sound_87 (lv_at hl 1 rfl) ?_
                  refine lv_iload_n hex hbc dX4_sound_89 rfl (lv_at hl 5 rfl) ?_
                  have hi_90 : (0 : Int) ≤ i1 ∧ i1 < (64 : Int) := (by omega)
                  refine g_iast (σ := (sc (sc (sc σ 0 w1) 1 (cpi (σ 1) (σ 0) (107 * (if σ 12 0 + 1 < 8 then σ 12 0 + 1 else 0)))) 12 (ups (ups (σ 12) 0 (if σ 12 0 + 1 < 8 then σ 12 0 + 1 else 0)) 1 (if σ 12 1 < 8 then σ 12 1 + 1 else σ 12 1)))) (f := (fun k => (w1 (10 + k)))) (i := i1) (v := x3) (τ := st (sc (sc (sc σ 0 w1) 1 (cpi (σ 1) (σ 0) (107 * (if σ 12 0 + 1 < 8 then σ 12 0 + 1 else 0)))) 12 (ups (ups (σ 12) 0 (if σ 12 0 + 1 < 8 then σ 12 0 + 1 else 0)) 1 (if σ 12 1 < 8 then σ 12 1 + 1 else σ 12 1))) 0 (10 + i1) x3) hex hbc hK hP hD hS 4 0 rfl rfl (by decide) hi_90 dX4_sound_90 (wx_up_4 hi_90) (fun H locs hP hD hS => ?_)
                  obtain ⟨f0_90, ef0_90⟩ : ∃ z : Int → Int, z = ups w1 (10 + i1) x3 := ⟨_, rfl⟩
                  have hP : va_P G vwCl (wx cx a (sc (sc (sc σ 0 f0_90) 1 (cpi (σ 1) (σ 0) (107 * (if σ 12 0 + 1 < 8 then σ 12 0 + 1 else 0)))) 12 (ups (ups (σ 12) 0 (if σ 12 0 + 1 < 8 then σ 12 0 + 1 else 0)) 1 (if σ 12 1 < 8 then σ 12 1 + 1 else σ 12 1)))) H := by rw [ef0_90]; exact hP
                  have hD : va_D (XA a) (wx cx a (sc (sc (sc σ 0 f0_90) 1 (cpi (σ 1) (σ 0) (107 * (if σ 12 0 + 1 < 8 then σ 12 0 + 1 else 0)))) 12 (ups (ups (σ 12) 0 (if σ 12 0 + 1 < 8 then σ 12 0 + 1 else 0)) 1 (if σ 12 1 < 8 then σ 12 1 + 1 else σ 12 1)))) := by rw [ef0_90]; exact hD
                  refine lv_iinc (v := iI (i1 + 1)) (lv' := [(5, .int (iI (i1 + 1))), (4, .int (iI (s1 + (σ 0 (10 + i1))))), (0, .ref (a 0)), (1, .int (iI x1)), (2, .int (iI x2)), (3, .int (iI x3))]) hex hbc dX4_sound_91 hl (k := 1) rfl (iI_add _ _) (by decide) rfl (fun ls hl => ?_)
                  refine lv_goto (tgt := 59) hex hbc dX4_sound_94 (by decide) ?_
                  exact ih_59 (i1 + 1) (s1 + (σ 0 (10 + i1))) f0_90 ⟨by omega, by omega, by rw [hs]; unfold smE; rw [show i1 + 1 - x1 = (i1 - x1) + 1 by omega, sumN_at (by omega), show x1 + (i1 - x1) = i1 by omega], fun k => by rw [ef0_90]; unfold ups; rw [hw k]; (repeat' split) <;> first | omega | exact congrArg _ (by omega)⟩ (by omega) _ _ _ hP hD hS (lv_sub hl [0, 1, 2, 3, 4, 5] rfl)
            exact loop_59 _ x1 0 (σ 0) ⟨by omega, by omega, by unfold smE; rw [show (x1 - x1).toNat = 0 by omega]; rfl, fun k => (if_neg (by omega)).symm⟩ (mz_lt _) _ _ _ hP hD hS (lv_sub hl [0, 1, 2, 3, 4, 5] rfl)
          · skip
            refine lv_iconst (v := iI (-1)) hex hbc dX4_sound_40 rfl ?_
            exact g_iret hex hbc hrt hlocks hK hP hD hS ⟨fun h => (by unfold okE at h; exfalso; omega), fun _ => ⟨rfl, ⟨rfl, rfl, rfl, rfl, rfl, rfl⟩⟩⟩ dX4_sound_41
      · skip
        refine lv_iconst (v := iI (-1)) hex hbc dX4_sound_27 rfl ?_
        exact g_iret hex hbc hrt hlocks hK hP hD hS ⟨fun h => (by unfold okE at h; exfalso; omega), fun _ => ⟨rfl, ⟨rfl, rfl, rfl, rfl, rfl, rfl⟩⟩⟩ dX4_sound_28
theorem iX4_find_X2 : ∀ w ∈ wsX20, w ∈ wsX4_find := fun _ h => List.mem_cons_of_mem _ (List.mem_append_left _ (List.mem_append_right _ h))
theorem iX4_find_X4 : ∀ w ∈ wsX40, w ∈ wsX4_find := fun _ h => List.mem_cons_of_mem _ (List.mem_append_left _ (List.mem_append_left _ (List.mem_append_right _ h)))
set_option maxHeartbeats 4000000 in
set_option maxRecDepth 100000 in
theorem mX4_find (l : Launch) (G : va_G) (cx a : Nat → Nat) (σ : Nat → Int → Int)   (hHs : (0 ≤ σ 12 0 ∧ σ 12 0 ≤ 7) ∧ (0 ≤ σ 12 1 ∧ σ 12 1 ≤ 8)) (hI : Inv (σ 0)) : Met l yX4_find wsX4_find ({ frames := 3, cells := 0, slots := 0, locals := 102 }) (va_Pc [.ref (a 0)] (gW G (tx cx) (XA a) (wx cx a) σ)) (va_Qi (fun r u => iI (fnd (σ 0) (σ 0 2)) = r ∧ XC_ σ u (spF (σ 0))) (gW G (tx cx) (XA a) (wx cx a)) (XA a)) 0 0 (XA a) := by
  refine Met.ofW (cc := cX4_find) (maxL := 1) (ret := some .int) (by decide) rfl ?_
  intro p e s m args below meth c s₁ B hml hv
  obtain ⟨rfl, hP, hK, hD⟩ := hv
  have hex := B.exec
  have hbc := B.bytes
  have hrt := B.returns
  have hts := atoms_spec (ws := wsX4_find) B.pre
  have hown : s.vm.findClass RX4 = some m.cls := findClass_of_methodNamed B.named
  have hlocks := B.notSynchronized
  have hS : va_S (XA a) s.heap s.heap [] := va_S.rf
  have hin2 := iX4_find_X2
  have hin4 := iX4_find_X4
  have hl := lv_entry ([.ref (a 0)]) (n := 1) (Nat.le_of_ble_eq_true rfl)
  rw [lg_entry_eq]
  generalize (lg_sl ([.ref (a 0)]) ++ List.replicate (1 - (lg_sl ([.ref (a 0)])).length) Slot.unset).toArray = ls at hl ⊢
  have hl : lv_has ls 1 [(0, .ref (a 0))] := hl
  obtain ⟨hB, hEn, hMk, hAs, hPm⟩ := id hI
  refine lv_aload_n hex hbc dX4_find_0 rfl (lv_at hl 0 rfl) ?_
  refine va_get (v := .ref (a 17)) hex hbc hts hin4 hown hK hP 0 rfl rfl 3 (by decide) (hts _ (List.mem_of_getElem? (i := 1) rfl)) (fun _ h => h) rfl dX4_find_1 ?_
  refine lv_aload_n hex hbc dX4_find_4 rfl (lv_at hl 0 rfl) ?_
  refine va_get (v := .ref (a 3)) hex hbc hts hin4 hown hK hP 0 rfl rfl 0 (by decide) (hts _ (List.mem_of_getElem? (i := 2) rfl)) (fun _ h => h) rfl dX4_find_5 ?_
  refine g_callv [.ref (a 3)] ⟨hex, hbc, hml, hown, hts⟩ (mX1_push l G cx a σ  hHs) (cwV 1 hts gX4_find_X1_push rfl rfl rfl (by decide +kernel) ⟨Nat.le_of_ble_eq_true rfl, Nat.le_of_ble_eq_true rfl⟩) hK hP hD hS (fun _ h => h) 17 1 rfl rfl rfl rfl hl.1 (Nat.le_of_ble_eq_true rfl) dX4_find_8 ⟨Nat.zero_le _, Nat.zero_le _⟩ (fun u_8 H locs hw_8 hP hD hS hz_8 hk_8 => ?_)
  obtain rfl := hw_8
  have hP : va_P G vwCl (wx cx a (sc (sc σ 1 (cpi (σ 1) (σ 0) (107 * (if σ 12 0 + 1 < 8 then σ 12 0 + 1 else 0)))) 12 (ups (ups (σ 12) 0 (if σ 12 0 + 1 < 8 then σ 12 0 + 1 else 0)) 1 (if σ 12 1 < 8 then σ 12 1 + 1 else σ 12 1)))) H := hP
  have hD : va_D (XA a) (wx cx a (sc (sc σ 1 (cpi (σ 1) (σ 0) (107 * (if σ 12 0 + 1 < 8 then σ 12 0 + 1 else 0)))) 12 (ups (ups (σ 12) 0 (if σ 12 0 + 1 < 8 then σ 12 0 + 1 else 0)) 1 (if σ 12 1 < 8 then σ 12 1 + 1 else σ 12 1)))) := hD
  refine lv_aload_n hex hbc dX4_find_11 rfl (lv_at hl 0 rfl) ?_
  refine va_get (v := .ref (a 3)) hex hbc hts hin4 hown hK hP 0 rfl rfl 0 (by decide) (hts _ (List.mem_of_getElem? (i := 2) rfl)) (fun _ h => h) rfl dX4_find_12 ?_
  refine lv_aload_n hex hbc dX4_find_15 rfl (lv_at hl 0 rfl) ?_
  refine va_get (v := .ref (a 3)) hex hbc hts hin4 hown hK hP 0 rfl rfl 0 (by decide) (hts _ (List.mem_of_getElem? (i := 2) rfl)) (fun _ h => h) rfl dX4_find_16 ?_
  refine lv_aload_n hex hbc dX4_find_19 rfl (lv_at hl 0 rfl) ?_
  refine va_get (v := .ref (a 3)) hex hbc hts hin4 hown hK hP 0 rfl rfl 0 (by decide) (hts _ (List.mem_of_getElem? (i := 2) rfl)) (fun _ h => h) rfl dX4_find_20 ?_
  refine va_get (v := .ref (a 5)) hex hbc hts hin2 hown hK hP 3 rfl rfl 3 (by decide) (hts _ (List.mem_of_getElem? (i := 3) rfl)) (fun _ h => h) rfl dX4_find_23 ?_
  refine lv_iconst (v := iI 1) hex hbc dX4_find_26 rfl ?_
  refine g_iald (f := (fun k => (σ 0 (1 + k)))) (v := (σ 0 2)) (i := 1) hex hbc hK hP 5 0 rfl rfl (by decide) (by omega) rfl dX4_find_27 ?_
  refine lv_aload_n hex hbc dX4_find_28 rfl (lv_at hl 0 rfl) ?_
  refine va_get (v := .ref (a 3)) hex hbc hts hin4 hown hK hP 0 rfl rfl 0 (by decide) (hts _ (List.mem_of_getElem? (i := 2) rfl)) (fun _ h => h) rfl dX4_find_29 ?_
  refine va_get (v := .ref (a 6)) hex hbc hts hin2 hown hK hP 3 rfl rfl 4 (by decide) (hts _ (List.mem_of_getElem? (i := 4) rfl)) (fun _ h => h) rfl dX4_find_32 ?_
  refine g_calli [.int (iI (σ 0 2)), .ref (a 6)] ⟨hex, hbc, hml, hown, hts⟩ (mX2_findRises_6 l G cx a (sc (sc σ 1 (cpi (σ 1) (σ 0) (107 * (if σ 12 0 + 1 < 8 then σ 12 0 + 1 else 0)))) 12 (ups (ups (σ 12) 0 (if σ 12 0 + 1 < 8 then σ 12 0 + 1 else 0)) 1 (if σ 12 1 < 8 then σ 12 1 + 1 else σ 12 1))) (σ 0 2) (show -2147483648 ≤ (σ 0 2) ∧ (σ 0 2) < 2147483648 from by omega) hI) (cwV 2 hts gX4_find_X2_findRises rfl rfl rfl (by decide +kernel) ⟨Nat.le_of_ble_eq_true rfl, Nat.le_of_ble_eq_true rfl⟩) hK hP hD hS (fun _ h => h) 3 2 rfl rfl rfl rfl hl.1 (Nat.le_of_ble_eq_true rfl) dX4_find_35 ⟨Nat.zero_le _, Nat.zero_le _⟩ (fun r_35 u_35 H locs hw_35 hP hD hS hz_35 hk_35 => ?_)
  obtain ⟨rfl, rfl⟩ := hw_35
  have hP : va_P G vwCl (wx cx a (sc (sc (sc σ 0 (fun k => if 75 ≤ k ∧ k < 91 then (fbn (σ 0) (σ 0 2) (fun k => σ 0 (75 + k)) (σ 0 0 - 1).toNat).2 (k - 75) else σ 0 k)) 1 (cpi (σ 1) (σ 0) (107 * (if σ 12 0 + 1 < 8 then σ 12 0 + 1 else 0)))) 12 (ups (ups (σ 12) 0 (if σ 12 0 + 1 < 8 then σ 12 0 + 1 else 0)) 1 (if σ 12 1 < 8 then σ 12 1 + 1 else σ 12 1)))) H := hP
  have hD : va_D (XA a) (wx cx a (sc (sc (sc σ 0 (fun k => if 75 ≤ k ∧ k < 91 then (fbn (σ 0) (σ 0 2) (fun k => σ 0 (75 + k)) (σ 0 0 - 1).toNat).2 (k - 75) else σ 0 k)) 1 (cpi (σ 1) (σ 0) (107 * (if σ 12 0 + 1 < 8 then σ 12 0 + 1 else 0)))) 12 (ups (ups (σ 12) 0 (if σ 12 0 + 1 < 8 then σ 12 0 + 1 else 0)) 1 (if σ 12 1 < 8 then σ 12 1 + 1 else σ 12 1)))) := hD
  refine va_put hex hbc hts hin2 tyX2 tyX2_ok nmX2 hown hK hP hD hS 3 rfl rfl 1 (by decide) (hts _ (List.mem_of_getElem? (i := 5) rfl)) (fun _ h => h) rfl (tyX2_ok 1 (by decide)) rfl rfl (Nat.le_of_ble_eq_true rfl) dX4_find_38 (fun H locs hP hD hS => ?_)
  have hP := leW_P (wx_pf_3_1 (G := G) (cx := cx) (a := a) (σ := (sc (sc (sc σ 0 (fun k => if 75 ≤ k ∧ k < 91 then (fbn (σ 0) (σ 0 2) (fun k => σ 0 (75 + k)) (σ 0 0 - 1).toNat).2 (k - 75) else σ 0 k)) 1 (cpi (σ 1) (σ 0) (107 * (if σ 12 0 + 1 < 8 then σ 12 0 + 1 else 0)))) 12 (ups (ups (σ 12) 0 (if σ 12 0 + 1 < 8 then σ 12 0 + 1 else 0)) 1 (if σ 12 1 < 8 then σ 12 1 + 1 else σ 12 1))))) hP
  have hD := leW_D (wx_pf_3_1 (G := G) (cx := cx) (a := a) (σ := (sc (sc (sc σ 0 (fun k => if 75 ≤ k ∧ k < 91 then (fbn (σ 0) (σ 0 2) (fun k => σ 0 (75 + k)) (σ 0 0 - 1).toNat).2 (k - 75) else σ 0 k)) 1 (cpi (σ 1) (σ 0) (107 * (if σ 12 0 + 1 < 8 then σ 12 0 + 1 else 0)))) 12 (ups (ups (σ 12) 0 (if σ 12 0 + 1 < 8 then σ 12 0 + 1 else 0)) 1 (if σ 12 1 < 8 then σ 12 1 + 1 else σ 12 1))))) hD
  obtain ⟨f0_38, ef0_38⟩ : ∃ z : Int → Int, z = ups (fun k => if 75 ≤ k ∧ k < 91 then (fbn (σ 0) (σ 0 2) (fun k => σ 0 (75 + k)) (σ 0 0 - 1).toNat).2 (k - 75) else σ 0 k) 74 ((fbn (σ 0) (σ 0 2) (fun k => σ 0 (75 + k)) (σ 0 0 - 1).toNat).1) := ⟨_, rfl⟩
  have hP : va_P G vwCl (wx cx a (sc (sc (sc σ 0 f0_38) 1 (cpi (σ 1) (σ 0) (107 * (if σ 12 0 + 1 < 8 then σ 12 0 + 1 else 0)))) 12 (ups (ups (σ 12) 0 (if σ 12 0 + 1 < 8 then σ 12 0 + 1 else 0)) 1 (if σ 12 1 < 8 then σ 12 1 + 1 else σ 12 1)))) H := by rw [ef0_38]; exact hP
  have hD : va_D (XA a) (wx cx a (sc (sc (sc σ 0 f0_38) 1 (cpi (σ 1) (σ 0) (107 * (if σ 12 0 + 1 < 8 then σ 12 0 + 1 else 0)))) 12 (ups (ups (σ 12) 0 (if σ 12 0 + 1 < 8 then σ 12 0 + 1 else 0)) 1 (if σ 12 1 < 8 then σ 12 1 + 1 else σ 12 1)))) := by rw [ef0_38]; exact hD
  refine lv_aload_n hex hbc dX4_find_41 rfl (lv_at hl 0 rfl) ?_
  refine va_get (v := .ref (a 3)) hex hbc hts hin4 hown hK hP 0 rfl rfl 0 (by decide) (hts _ (List.mem_of_getElem? (i := 2) rfl)) (fun _ h => h) rfl dX4_find_42 ?_
  refine g_callv [] ⟨hex, hbc, hml, hown, hts⟩ (mX2_resetSequence l G cx a (sc (sc (sc σ 0 f0_38) 1 (cpi (σ 1) (σ 0) (107 * (if σ 12 0 + 1 < 8 then σ 12 0 + 1 else 0)))) 12 (ups (ups (σ 12) 0 (if σ 12 0 + 1 < 8 then σ 12 0 + 1 else 0)) 1 (if σ 12 1 < 8 then σ 12 1 + 1 else σ 12 1)))  ) (cwV 0 hts gX4_find_X2_resetSequence rfl rfl rfl (by decide +kernel) ⟨Nat.le_of_ble_eq_true rfl, Nat.le_of_ble_eq_true rfl⟩) hK hP hD hS (fun _ h => h) 3 2 rfl rfl rfl rfl hl.1 (Nat.le_of_ble_eq_true rfl) dX4_find_45 ⟨Nat.zero_le _, Nat.zero_le _⟩ (fun u_45 H locs hw_45 hP hD hS hz_45 hk_45 => ?_)
  obtain rfl := hw_45
  have hP : va_P G vwCl (wx cx a (sc (sc (sc σ 0 (spo (f0_38))) 1 (cpi (σ 1) (σ 0) (107 * (if σ 12 0 + 1 < 8 then σ 12 0 + 1 else 0)))) 12 (ups (ups (σ 12) 0 (if σ 12 0 + 1 < 8 then σ 12 0 + 1 else 0)) 1 (if σ 12 1 < 8 then σ 12 1 + 1 else σ 12 1)))) H := hP
  have hD : va_D (XA a) (wx cx a (sc (sc (sc σ 0 (spo (f0_38))) 1 (cpi (σ 1) (σ 0) (107 * (if σ 12 0 + 1 < 8 then σ 12 0 + 1 else 0)))) 12 (ups (ups (σ 12) 0 (if σ 12 0 + 1 < 8 then σ 12 0 + 1 else 0)) 1 (if σ 12 1 < 8 then σ 12 1 + 1 else σ 12 1)))) := hD
  refine lv_aload_n hex hbc dX4_find_48 rfl (lv_at hl 0 rfl) ?_
  refine va_get (v := .ref (a 3)) hex hbc hts hin4 hown hK hP 0 rfl rfl 0 (by decide) (hts _ (List.mem_of_getElem? (i := 2) rfl)) (fun _ h => h) rfl dX4_find_49 ?_
  refine va_get (v := .int (iI ((spo (f0_38)) 74))) hex hbc hts hin2 hown hK hP 3 rfl rfl 1 (by decide) (hts _ (List.mem_of_getElem? (i := 5) rfl)) (fun _ h => h) rfl dX4_find_52 ?_
  refine zt_nm (a := ((spo (f0_38)) 74)) (b := (fnd (σ 0) (σ 0 2))) (show spo f0_38 74 = fnd (σ 0) (σ 0 2) from (if_neg (by omega)).trans (by rw [ef0_38]; exact ups_s _ _ _)) ?_
  exact g_iret hex hbc hrt hlocks hK hP hD hS ⟨rfl, ⟨(funext fun k => by show spo f0_38 k = _; rw [ef0_38]; unfold spo spF fnd ups; dsimp only; (repeat' split) <;> first | rfl | omega), rfl, (show ups (ups (σ 12) 0 (nxs (σ 12 0))) 1 (szs (σ 12 1)) 0 = nxs (σ 12 0) from pu_0), (show ups (ups (σ 12) 0 (nxs (σ 12 0))) 1 (szs (σ 12 1)) 1 = szs (σ 12 1) from pu_1), rfl, rfl⟩⟩ dX4_find_55
theorem iX4_mark_X2 : ∀ w ∈ wsX20, w ∈ wsX4_mark := fun _ h => List.mem_cons_of_mem _ (List.mem_append_left _ (List.mem_append_right _ h))
theorem iX4_mark_X4 : ∀ w ∈ wsX40, w ∈ wsX4_mark := fun _ h => List.mem_cons_of_mem _ (List.mem_append_left _ (List.mem_append_left _ (List.mem_append_right _ h)))
set_option maxHeartbeats 4000000 in
set_option maxRecDepth 100000 in
theorem mX4_mark (l : Launch) (G : va_G) (cx a : Nat → Nat) (σ : Nat → Int → Int)  (x : Int) (hx : -2147483648 ≤ x ∧ x < 2147483648) (hHs : (0 ≤ σ 12 0 ∧ σ 12 0 ≤ 7) ∧ (0 ≤ σ 12 1 ∧ σ 12 1 ≤ 8)) (hI : Inv (σ 0)) : Met l yX4_mark wsX4_mark ({ frames := 3, cells := 0, slots := 0, locals := 102 }) (va_Pc [.ref (a 0), .int (iI x)] (gW G (tx cx) (XA a) (wx cx a) σ)) (va_Qi (fun r u => Rmark (σ 0) x r (XQ_ σ u) (XC_ σ u)) (gW G (tx cx) (XA a) (wx cx a)) (XA a)) 0 0 (XA a) := by
  refine Met.ofW (cc := cX4_mark) (maxL := 3) (ret := some .int) (by decide) rfl ?_
  intro p e s m args below meth c s₁ B hml hv
  obtain ⟨rfl, hP, hK, hD⟩ := hv
  have hex := B.exec
  have hbc := B.bytes
  have hrt := B.returns
  have hts := atoms_spec (ws := wsX4_mark) B.pre
  have hown : s.vm.findClass RX4 = some m.cls := findClass_of_methodNamed B.named
  have hlocks := B.notSynchronized
  have hS : va_S (XA a) s.heap s.heap [] := va_S.rf
  have hin2 := iX4_mark_X2
  have hin4 := iX4_mark_X4
  have hl := lv_entry ([.ref (a 0), .int (iI x)]) (n := 3) (Nat.le_of_ble_eq_true rfl)
  rw [lg_entry_eq]
  generalize (lg_sl ([.ref (a 0), .int (iI x)]) ++ List.replicate (3 - (lg_sl ([.ref (a 0), .int (iI x)])).length) Slot.unset).toArray = ls at hl ⊢
  have hl : lv_has ls 3 [(0, .ref (a 0)), (1, .int (iI x))] := hl
  obtain ⟨hB, hEn, hMk, hAs, hPm⟩ := id hI
  refine lv_aload_n hex hbc dX4_mark_0 rfl (lv_at hl 0 rfl) ?_
  refine va_get (v := .ref (a 3)) hex hbc hts hin4 hown hK hP 0 rfl rfl 0 (by decide) (hts _ (List.mem_of_getElem? (i := 1) rfl)) (fun _ h => h) rfl dX4_mark_1 ?_
  refine lv_iload_n hex hbc dX4_mark_4 rfl (lv_at hl 1 rfl) ?_
  refine g_calli [.int (iI x)] ⟨hex, hbc, hml, hown, hts⟩ (mX2_isFrame l G cx a σ x (by omega) hI) (cwV 1 hts gX4_mark_X2_isFrame rfl rfl rfl (by decide +kernel) ⟨Nat.le_of_ble_eq_true rfl, Nat.le_of_ble_eq_true rfl⟩) hK hP hD hS (fun _ h => h) 3 2 rfl rfl rfl rfl hl.1 (Nat.le_of_ble_eq_true rfl) dX4_mark_5 ⟨Nat.zero_le _, Nat.zero_le _⟩ (fun r_5 u_5 H locs hw_5 hP hD hS hz_5 hk_5 => ?_)
  obtain ⟨rfl, vb5, rfl, hv5⟩ := hw_5
  refine zt_ifb_ne (P := (0 ≤ x ∧ x < σ 0 0)) (tgt := 13) hex hbc hv5 dX4_mark_8 (by decide) (fun c8 => ?_) (fun c8 => ?_)
  · skip
    refine lv_aload_n hex hbc dX4_mark_13 rfl (lv_at hl 0 rfl) ?_
    refine va_get (v := .ref (a 3)) hex hbc hts hin4 hown hK hP 0 rfl rfl 0 (by decide) (hts _ (List.mem_of_getElem? (i := 1) rfl)) (fun _ h => h) rfl dX4_mark_14 ?_
    refine lv_iload_n hex hbc dX4_mark_17 rfl (lv_at hl 1 rfl) ?_
    refine g_calli [.int (iI x)] ⟨hex, hbc, hml, hown, hts⟩ (mX2_marksBefore l G cx a σ x (by omega) hI) (cwV 1 hts gX4_mark_X2_marksBefore rfl rfl rfl (by decide +kernel) ⟨Nat.le_of_ble_eq_true rfl, Nat.le_of_ble_eq_true rfl⟩) hK hP hD hS (fun _ h => h) 3 2 rfl rfl rfl rfl hl.1 (Nat.le_of_ble_eq_true rfl) dX4_mark_18 ⟨Nat.zero_le _, Nat.zero_le _⟩ (fun r_18 u_18 H locs hw_18 hP hD hS hz_18 hk_18 => ?_)
    obtain ⟨rfl, p18, rfl, hp18⟩ := hw_18
    refine lv_istore_n (lv' := [(2, .int (iI p18)), (0, .ref (a 0)), (1, .int (iI x))]) hex hbc dX4_mark_21 rfl hl (by decide) rfl (fun ls hl => ?_)
    obtain ⟨hp1, hp2, hp3, hp4⟩ := id hp18
    refine lv_aload_n hex hbc dX4_mark_22 rfl (lv_at hl 1 rfl) ?_
    refine va_get (v := .ref (a 3)) hex hbc hts hin4 hown hK hP 0 rfl rfl 0 (by decide) (hts _ (List.mem_of_getElem? (i := 1) rfl)) (fun _ h => h) rfl dX4_mark_23 ?_
    refine lv_iload_n hex hbc dX4_mark_26 rfl (lv_at hl 0 rfl) ?_
    refine g_calli [.int (iI p18)] ⟨hex, hbc, hml, hown, hts⟩ (mX2_isSlice l G cx a σ p18 (by omega) hI) (cwV 1 hts gX4_mark_X2_isSlice rfl rfl rfl (by decide +kernel) ⟨Nat.le_of_ble_eq_true rfl, Nat.le_of_ble_eq_true rfl⟩) hK hP hD hS (fun _ h => h) 3 2 rfl rfl rfl rfl hl.1 (Nat.le_of_ble_eq_true rfl) dX4_mark_27 ⟨Nat.zero_le _, Nat.zero_le _⟩ (fun r_27 u_27 H locs hw_27 hP hD hS hz_27 hk_27 => ?_)
    obtain ⟨rfl, vb27, rfl, hv27⟩ := hw_27
    refine zt_ifb_eq (P := (0 ≤ p18 ∧ p18 < σ 0 74)) (tgt := 49) hex hbc hv27 dX4_mark_30 (by decide) (fun c30 => ?_) (fun c30 => ?_)
    · skip
      refine lv_aload_n hex hbc dX4_mark_49 rfl (lv_at hl 1 rfl) ?_
      refine va_get (v := .ref (a 3)) hex hbc hts hin4 hown hK hP 0 rfl rfl 0 (by decide) (hts _ (List.mem_of_getElem? (i := 1) rfl)) (fun _ h => h) rfl dX4_mark_50 ?_
      refine va_get (v := .int (iI (σ 0 74))) hex hbc hts hin2 hown hK hP 3 rfl rfl 1 (by decide) (hts _ (List.mem_of_getElem? (i := 3) rfl)) (fun _ h => h) rfl dX4_mark_53 ?_
      refine lv_bipush (v := iI 16) hex hbc dX4_mark_56 (by decide) ?_
      refine zt_icmp_lt (a := (σ 0 74)) (b := 16) (tgt := 64) hex hbc (by omega) dX4_mark_58 (by decide) (fun c58 => ?_) (fun c58 => ?_)
      · skip
        refine lv_aload_n hex hbc dX4_mark_64 rfl (lv_at hl 1 rfl) ?_
        refine va_get (v := .ref (a 17)) hex hbc hts hin4 hown hK hP 0 rfl rfl 3 (by decide) (hts _ (List.mem_of_getElem? (i := 4) rfl)) (fun _ h => h) rfl dX4_mark_65 ?_
        refine lv_aload_n hex hbc dX4_mark_68 rfl (lv_at hl 1 rfl) ?_
        refine va_get (v := .ref (a 3)) hex hbc hts hin4 hown hK hP 0 rfl rfl 0 (by decide) (hts _ (List.mem_of_getElem? (i := 1) rfl)) (fun _ h => h) rfl dX4_mark_69 ?_
        refine g_callv [.ref (a 3)] ⟨hex, hbc, hml, hown, hts⟩ (mX1_push l G cx a σ  hHs) (cwV 1 hts gX4_mark_X1_push rfl rfl rfl (by decide +kernel) ⟨Nat.le_of_ble_eq_true rfl, Nat.le_of_ble_eq_true rfl⟩) hK hP hD hS (fun _ h => h) 17 1 rfl rfl rfl rfl hl.1 (Nat.le_of_ble_eq_true rfl) dX4_mark_72 ⟨Nat.zero_le _, Nat.zero_le _⟩ (fun u_72 H locs hw_72 hP hD hS hz_72 hk_72 => ?_)
        obtain rfl := hw_72
        have hP : va_P G vwCl (wx cx a (sc (sc σ 1 (cpi (σ 1) (σ 0) (107 * (if σ 12 0 + 1 < 8 then σ 12 0 + 1 else 0)))) 12 (ups (ups (σ 12) 0 (if σ 12 0 + 1 < 8 then σ 12 0 + 1 else 0)) 1 (if σ 12 1 < 8 then σ 12 1 + 1 else σ 12 1)))) H := hP
        have hD : va_D (XA a) (wx cx a (sc (sc σ 1 (cpi (σ 1) (σ 0) (107 * (if σ 12 0 + 1 < 8 then σ 12 0 + 1 else 0)))) 12 (ups (ups (σ 12) 0 (if σ 12 0 + 1 < 8 then σ 12 0 + 1 else 0)) 1 (if σ 12 1 < 8 then σ 12 1 + 1 else σ 12 1)))) := hD
        refine lv_aload_n hex hbc dX4_mark_75 rfl (lv_at hl 1 rfl) ?_
        refine va_get (v := .ref (a 3)) hex hbc hts hin4 hown hK hP 0 rfl rfl 0 (by decide) (hts _ (List.mem_of_getElem? (i := 1) rfl)) (fun _ h => h) rfl dX4_mark_76 ?_
        refine lv_iload_n hex hbc dX4_mark_79 rfl (lv_at hl 0 rfl) ?_
        refine lv_iload_n hex hbc dX4_mark_80 rfl (lv_at hl 2 rfl) ?_
        refine g_callv [.int (iI p18), .int (iI x)] ⟨hex, hbc, hml, hown, hts⟩ (mX2_insertMark l G cx a (sc (sc σ 1 (cpi (σ 1) (σ 0) (107 * (if σ 12 0 + 1 < 8 then σ 12 0 + 1 else 0)))) 12 (ups (ups (σ 12) 0 (if σ 12 0 + 1 < 8 then σ 12 0 + 1 else 0)) 1 (if σ 12 1 < 8 then σ 12 1 + 1 else σ 12 1))) p18 x (show 0 ≤ p18 ∧ p18 ≤ σ 0 74 from by omega) (show 1 ≤ σ 0 74 ∧ σ 0 74 < 16 from by omega)) (cwV 2 hts gX4_mark_X2_insertMark rfl rfl rfl (by decide +kernel) ⟨Nat.le_of_ble_eq_true rfl, Nat.le_of_ble_eq_true rfl⟩) hK hP hD hS (fun _ h => h) 3 2 rfl rfl rfl rfl hl.1 (Nat.le_of_ble_eq_true rfl) dX4_mark_81 ⟨Nat.zero_le _, Nat.zero_le _⟩ (fun u_81 H locs hw_81 hP hD hS hz_81 hk_81 => ?_)
        obtain rfl := hw_81
        have hP : va_P G vwCl (wx cx a (sc (sc (sc σ 0 (spi (σ 0) p18 x)) 1 (cpi (σ 1) (σ 0) (107 * (if σ 12 0 + 1 < 8 then σ 12 0 + 1 else 0)))) 12 (ups (ups (σ 12) 0 (if σ 12 0 + 1 < 8 then σ 12 0 + 1 else 0)) 1 (if σ 12 1 < 8 then σ 12 1 + 1 else σ 12 1)))) H := hP
        have hD : va_D (XA a) (wx cx a (sc (sc (sc σ 0 (spi (σ 0) p18 x)) 1 (cpi (σ 1) (σ 0) (107 * (if σ 12 0 + 1 < 8 then σ 12 0 + 1 else 0)))) 12 (ups (ups (σ 12) 0 (if σ 12 0 + 1 < 8 then σ 12 0 + 1 else 0)) 1 (if σ 12 1 < 8 then σ 12 1 + 1 else σ 12 1)))) := hD
        refine lv_iload_n hex hbc dX4_mark_84 rfl (lv_at hl 0 rfl) ?_
        exact g_iret hex hbc hrt hlocks hK hP hD hS ⟨fun h => absurd c8 h, fun _ => ⟨p18, hp18, fun h => (by exfalso; omega), fun _ => ⟨fun h => (by exfalso; omega), fun _ => ⟨rfl, ⟨rfl, rfl, (show ups (ups (σ 12) 0 (nxs (σ 12 0))) 1 (szs (σ 12 1)) 0 = nxs (σ 12 0) from pu_0), (show ups (ups (σ 12) 0 (nxs (σ 12 0))) 1 (szs (σ 12 1)) 1 = szs (σ 12 1) from pu_1), rfl, rfl⟩⟩⟩⟩⟩ dX4_mark_85
      · skip
        refine lv_bipush (v := iI (-3)) hex hbc dX4_mark_61 (by decide) ?_
        exact g_iret hex hbc hrt hlocks hK hP hD hS ⟨fun h => absurd c8 h, fun _ => ⟨p18, hp18, fun h => (by exfalso; omega), fun _ => ⟨fun _ => ⟨rfl, ⟨rfl, rfl, rfl, rfl, rfl, rfl⟩⟩, fun h => (by exfalso; omega)⟩⟩⟩ dX4_mark_63
    · skip
      have hm := hMk p18 hp1 (by omega)
      refine lv_aload_n hex hbc dX4_mark_33 rfl (lv_at hl 1 rfl) ?_
      refine va_get (v := .ref (a 3)) hex hbc hts hin4 hown hK hP 0 rfl rfl 0 (by decide) (hts _ (List.mem_of_getElem? (i := 1) rfl)) (fun _ h => h) rfl dX4_mark_34 ?_
      refine va_get (v := .ref (a 6)) hex hbc hts hin2 hown hK hP 3 rfl rfl 4 (by decide) (hts _ (List.mem_of_getElem? (i := 2) rfl)) (fun _ h => h) rfl dX4_mark_37 ?_
      refine lv_iload_n hex hbc dX4_mark_40 rfl (lv_at hl 0 rfl) ?_
      refine g_iald (f := (fun k => (σ 0 (75 + k)))) (v := (σ 0 (75 + p18))) (i := p18) hex hbc hK hP 6 0 rfl rfl (by decide) (by omega) rfl dX4_mark_41 ?_
      refine lv_iload_n hex hbc dX4_mark_42 rfl (lv_at hl 2 rfl) ?_
      refine zt_icmp_ne (a := (σ 0 (75 + p18))) (b := x) (tgt := 49) hex hbc (by omega) dX4_mark_43 (by decide) (fun c43 => ?_) (fun c43 => ?_)
      · skip
        refine lv_aload_n hex hbc dX4_mark_49 rfl (lv_at hl 1 rfl) ?_
        refine va_get (v := .ref (a 3)) hex hbc hts hin4 hown hK hP 0 rfl rfl 0 (by decide) (hts _ (List.mem_of_getElem? (i := 1) rfl)) (fun _ h => h) rfl dX4_mark_50 ?_
        refine va_get (v := .int (iI (σ 0 74))) hex hbc hts hin2 hown hK hP 3 rfl rfl 1 (by decide) (hts _ (List.mem_of_getElem? (i := 3) rfl)) (fun _ h => h) rfl dX4_mark_53 ?_
        refine lv_bipush (v := iI 16) hex hbc dX4_mark_56 (by decide) ?_
        refine zt_icmp_lt (a := (σ 0 74)) (b := 16) (tgt := 64) hex hbc (by omega) dX4_mark_58 (by decide) (fun c58 => ?_) (fun c58 => ?_)
        · skip
          refine lv_aload_n hex hbc dX4_mark_64 rfl (lv_at hl 1 rfl) ?_
          refine va_get (v := .ref (a 17)) hex hbc hts hin4 hown hK hP 0 rfl rfl 3 (by decide) (hts _ (List.mem_of_getElem? (i := 4) rfl)) (fun _ h => h) rfl dX4_mark_65 ?_
          refine lv_aload_n hex hbc dX4_mark_68 rfl (lv_at hl 1 rfl) ?_
          refine va_get (v := .ref (a 3)) hex hbc hts hin4 hown hK hP 0 rfl rfl 0 (by decide) (hts _ (List.mem_of_getElem? (i := 1) rfl)) (fun _ h => h) rfl dX4_mark_69 ?_
          refine g_callv [.ref (a 3)] ⟨hex, hbc, hml, hown, hts⟩ (mX1_push l G cx a σ  hHs) (cwV 1 hts gX4_mark_X1_push rfl rfl rfl (by decide +kernel) ⟨Nat.le_of_ble_eq_true rfl, Nat.le_of_ble_eq_true rfl⟩) hK hP hD hS (fun _ h => h) 17 1 rfl rfl rfl rfl hl.1 (Nat.le_of_ble_eq_true rfl) dX4_mark_72 ⟨Nat.zero_le _, Nat.zero_le _⟩ (fun u_72 H locs hw_72 hP hD hS hz_72 hk_72 => ?_)
          obtain rfl := hw_72
          have hP : va_P G vwCl (wx cx a (sc (sc σ 1 (cpi (σ 1) (σ 0) (107 * (if σ 12 0 + 1 < 8 then σ 12 0 + 1 else 0)))) 12 (ups (ups (σ 12) 0 (if σ 12 0 + 1 < 8 then σ 12 0 + 1 else 0)) 1 (if σ 12 1 < 8 then σ 12 1 + 1 else σ 12 1)))) H := hP
          have hD : va_D (XA a) (wx cx a (sc (sc σ 1 (cpi (σ 1) (σ 0) (107 * (if σ 12 0 + 1 < 8 then σ 12 0 + 1 else 0)))) 12 (ups (ups (σ 12) 0 (if σ 12 0 + 1 < 8 then σ 12 0 + 1 else 0)) 1 (if σ 12 1 < 8 then σ 12 1 + 1 else σ 12 1)))) := hD
          refine lv_aload_n hex hbc dX4_mark_75 rfl (lv_at hl 1 rfl) ?_
          refine va_get (v := .ref (a 3)) hex hbc hts hin4 hown hK hP 0 rfl rfl 0 (by decide) (hts _ (List.mem_of_getElem? (i := 1) rfl)) (fun _ h => h) rfl dX4_mark_76 ?_
          refine lv_iload_n hex hbc dX4_mark_79 rfl (lv_at hl 0 rfl) ?_
          refine lv_iload_n hex hbc dX4_mark_80 rfl (lv_at hl 2 rfl) ?_
          refine g_callv [.int (iI p18), .int (iI x)] ⟨hex, hbc, hml, hown, hts⟩ (mX2_insertMark l G cx a (sc (sc σ 1 (cpi (σ 1) (σ 0) (107 * (if σ 12 0 + 1 < 8 then σ 12 0 + 1 else 0)))) 12 (ups (ups (σ 12) 0 (if σ 12 0 + 1 < 8 then σ 12 0 + 1 else 0)) 1 (if σ 12 1 < 8 then σ 12 1 + 1 else σ 12 1))) p18 x (show 0 ≤ p18 ∧ p18 ≤ σ 0 74 from by omega) (show 1 ≤ σ 0 74 ∧ σ 0 74 < 16 from by omega)) (cwV 2 hts gX4_mark_X2_insertMark rfl rfl rfl (by decide +kernel) ⟨Nat.le_of_ble_eq_true rfl, Nat.le_of_ble_eq_true rfl⟩) hK hP hD hS (fun _ h => h) 3 2 rfl rfl rfl rfl hl.1 (Nat.le_of_ble_eq_true rfl) dX4_mark_81 ⟨Nat.zero_le _, Nat.zero_le _⟩ (fun u_81 H locs hw_81 hP hD hS hz_81 hk_81 => ?_)
          obtain rfl := hw_81
          have hP : va_P G vwCl (wx cx a (sc (sc (sc σ 0 (spi (σ 0) p18 x)) 1 (cpi (σ 1) (σ 0) (107 * (if σ 12 0 + 1 < 8 then σ 12 0 + 1 else 0)))) 12 (ups (ups (σ 12) 0 (if σ 12 0 + 1 < 8 then σ 12 0 + 1 else 0)) 1 (if σ 12 1 < 8 then σ 12 1 + 1 else σ 12 1)))) H := hP
          have hD : va_D (XA a) (wx cx a (sc (sc (sc σ 0 (spi (σ 0) p18 x)) 1 (cpi (σ 1) (σ 0) (107 * (if σ 12 0 + 1 < 8 then σ 12 0 + 1 else 0)))) 12 (ups (ups (σ 12) 0 (if σ 12 0 + 1 < 8 then σ 12 0 + 1 else 0)) 1 (if σ 12 1 < 8 then σ 12 1 + 1 else σ 12 1)))) := hD
          refine lv_iload_n hex hbc dX4_mark_84 rfl (lv_at hl 0 rfl) ?_
          exact g_iret hex hbc hrt hlocks hK hP hD hS ⟨fun h => absurd c8 h, fun _ => ⟨p18, hp18, fun h => (by exfalso; omega), fun _ => ⟨fun h => (by exfalso; omega), fun _ => ⟨rfl, ⟨rfl, rfl, (show ups (ups (σ 12) 0 (nxs (σ 12 0))) 1 (szs (σ 12 1)) 0 = nxs (σ 12 0) from pu_0), (show ups (ups (σ 12) 0 (nxs (σ 12 0))) 1 (szs (σ 12 1)) 1 = szs (σ 12 1) from pu_1), rfl, rfl⟩⟩⟩⟩⟩ dX4_mark_85
        · skip
          refine lv_bipush (v := iI (-3)) hex hbc dX4_mark_61 (by decide) ?_
          exact g_iret hex hbc hrt hlocks hK hP hD hS ⟨fun h => absurd c8 h, fun _ => ⟨p18, hp18, fun h => (by exfalso; omega), fun _ => ⟨fun _ => ⟨rfl, ⟨rfl, rfl, rfl, rfl, rfl, rfl⟩⟩, fun h => (by exfalso; omega)⟩⟩⟩ dX4_mark_63
      · skip
        refine lv_bipush (v := iI (-2)) hex hbc dX4_mark_46 (by decide) ?_
        exact g_iret hex hbc hrt hlocks hK hP hD hS ⟨fun h => absurd c8 h, fun _ => ⟨p18, hp18, fun _ => ⟨rfl, ⟨rfl, rfl, rfl, rfl, rfl, rfl⟩⟩, fun h => absurd ⟨by omega, by omega⟩ h⟩⟩ dX4_mark_48
  · skip
    refine lv_iconst (v := iI (-1)) hex hbc dX4_mark_11 rfl ?_
    exact g_iret hex hbc hrt hlocks hK hP hD hS ⟨fun _ => ⟨rfl, ⟨rfl, rfl, rfl, rfl, rfl, rfl⟩⟩, fun h => absurd h c8⟩ dX4_mark_12
theorem iX4_unmark_X2 : ∀ w ∈ wsX20, w ∈ wsX4_unmark := fun _ h => List.mem_cons_of_mem _ (List.mem_append_left _ (List.mem_append_right _ h))
theorem iX4_unmark_X4 : ∀ w ∈ wsX40, w ∈ wsX4_unmark := fun _ h => List.mem_cons_of_mem _ (List.mem_append_left _ (List.mem_append_left _ (List.mem_append_right _ h)))
set_option maxHeartbeats 4000000 in
set_option maxRecDepth 100000 in
theorem mX4_unmark (l : Launch) (G : va_G) (cx a : Nat → Nat) (σ : Nat → Int → Int)  (x : Int) (hx : -2147483648 ≤ x ∧ x < 2147483648) (hHs : (0 ≤ σ 12 0 ∧ σ 12 0 ≤ 7) ∧ (0 ≤ σ 12 1 ∧ σ 12 1 ≤ 8)) (hI : Inv (σ 0)) : Met l yX4_unmark wsX4_unmark ({ frames := 3, cells := 0, slots := 0, locals := 102 }) (va_Pc [.ref (a 0), .int (iI x)] (gW G (tx cx) (XA a) (wx cx a) σ)) (va_Qi (fun r u => ((1 ≤ x ∧ x < σ 0 74) → iI (σ 0 74 - 1) = r ∧ XC_ σ u (spr (σ 0) x)) ∧ (¬ (1 ≤ x ∧ x < σ 0 74) → iI (-1) = r ∧ XQ_ σ u)) (gW G (tx cx) (XA a) (wx cx a)) (XA a)) 0 0 (XA a) := by
  refine Met.ofW (cc := cX4_unmark) (maxL := 2) (ret := some .int) (by decide) rfl ?_
  intro p e s m args below meth c s₁ B hml hv
  obtain ⟨rfl, hP, hK, hD⟩ := hv
  have hex := B.exec
  have hbc := B.bytes
  have hrt := B.returns
  have hts := atoms_spec (ws := wsX4_unmark) B.pre
  have hown : s.vm.findClass RX4 = some m.cls := findClass_of_methodNamed B.named
  have hlocks := B.notSynchronized
  have hS : va_S (XA a) s.heap s.heap [] := va_S.rf
  have hin2 := iX4_unmark_X2
  have hin4 := iX4_unmark_X4
  have hl := lv_entry ([.ref (a 0), .int (iI x)]) (n := 2) (Nat.le_of_ble_eq_true rfl)
  rw [lg_entry_eq]
  generalize (lg_sl ([.ref (a 0), .int (iI x)]) ++ List.replicate (2 - (lg_sl ([.ref (a 0), .int (iI x)])).length) Slot.unset).toArray = ls at hl ⊢
  have hl : lv_has ls 2 [(0, .ref (a 0)), (1, .int (iI x))] := hl
  obtain ⟨hB, hEn, hMk, hAs, hPm⟩ := id hI
  refine lv_aload_n hex hbc dX4_unmark_0 rfl (lv_at hl 0 rfl) ?_
  refine lv_iload_n hex hbc dX4_unmark_1 rfl (lv_at hl 1 rfl) ?_
  refine g_calli [.int (iI x)] ⟨hex, hbc, hml, hown, hts⟩ (mX4_isMovable l G cx a σ x (by omega) hI) (cwV 1 hts gX4_unmark_X4_isMovable rfl rfl rfl (by decide +kernel) ⟨Nat.le_of_ble_eq_true rfl, Nat.le_of_ble_eq_true rfl⟩) hK hP hD hS (fun _ h => h) 0 4 rfl rfl rfl rfl hl.1 (Nat.le_of_ble_eq_true rfl) dX4_unmark_2 ⟨Nat.zero_le _, Nat.zero_le _⟩ (fun r_2 u_2 H locs hw_2 hP hD hS hz_2 hk_2 => ?_)
  obtain ⟨rfl, vb2, rfl, hv2⟩ := hw_2
  refine zt_ifb_ne (P := (1 ≤ x ∧ x < σ 0 74)) (tgt := 10) hex hbc hv2 dX4_unmark_5 (by decide) (fun c5 => ?_) (fun c5 => ?_)
  · skip
    refine lv_aload_n hex hbc dX4_unmark_10 rfl (lv_at hl 0 rfl) ?_
    refine va_get (v := .ref (a 17)) hex hbc hts hin4 hown hK hP 0 rfl rfl 3 (by decide) (hts _ (List.mem_of_getElem? (i := 1) rfl)) (fun _ h => h) rfl dX4_unmark_11 ?_
    refine lv_aload_n hex hbc dX4_unmark_14 rfl (lv_at hl 0 rfl) ?_
    refine va_get (v := .ref (a 3)) hex hbc hts hin4 hown hK hP 0 rfl rfl 0 (by decide) (hts _ (List.mem_of_getElem? (i := 2) rfl)) (fun _ h => h) rfl dX4_unmark_15 ?_
    refine g_callv [.ref (a 3)] ⟨hex, hbc, hml, hown, hts⟩ (mX1_push l G cx a σ  hHs) (cwV 1 hts gX4_unmark_X1_push rfl rfl rfl (by decide +kernel) ⟨Nat.le_of_ble_eq_true rfl, Nat.le_of_ble_eq_true rfl⟩) hK hP hD hS (fun _ h => h) 17 1 rfl rfl rfl rfl hl.1 (Nat.le_of_ble_eq_true rfl) dX4_unmark_18 ⟨Nat.zero_le _, Nat.zero_le _⟩ (fun u_18 H locs hw_18 hP hD hS hz_18 hk_18 => ?_)
    obtain rfl := hw_18
    have hP : va_P G vwCl (wx cx a (sc (sc σ 1 (cpi (σ 1) (σ 0) (107 * (if σ 12 0 + 1 < 8 then σ 12 0 + 1 else 0)))) 12 (ups (ups (σ 12) 0 (if σ 12 0 + 1 < 8 then σ 12 0 + 1 else 0)) 1 (if σ 12 1 < 8 then σ 12 1 + 1 else σ 12 1)))) H := hP
    have hD : va_D (XA a) (wx cx a (sc (sc σ 1 (cpi (σ 1) (σ 0) (107 * (if σ 12 0 + 1 < 8 then σ 12 0 + 1 else 0)))) 12 (ups (ups (σ 12) 0 (if σ 12 0 + 1 < 8 then σ 12 0 + 1 else 0)) 1 (if σ 12 1 < 8 then σ 12 1 + 1 else σ 12 1)))) := hD
    refine lv_aload_n hex hbc dX4_unmark_21 rfl (lv_at hl 0 rfl) ?_
    refine va_get (v := .ref (a 3)) hex hbc hts hin4 hown hK hP 0 rfl rfl 0 (by decide) (hts _ (List.mem_of_getElem? (i := 2) rfl)) (fun _ h => h) rfl dX4_unmark_22 ?_
    refine lv_iload_n hex hbc dX4_unmark_25 rfl (lv_at hl 1 rfl) ?_
    refine g_callv [.int (iI x)] ⟨hex, hbc, hml, hown, hts⟩ (mX2_removeMark l G cx a (sc (sc σ 1 (cpi (σ 1) (σ 0) (107 * (if σ 12 0 + 1 < 8 then σ 12 0 + 1 else 0)))) 12 (ups (ups (σ 12) 0 (if σ 12 0 + 1 < 8 then σ 12 0 + 1 else 0)) 1 (if σ 12 1 < 8 then σ 12 1 + 1 else σ 12 1))) x (show 1 ≤ x ∧ x < σ 0 74 from by omega) (show σ 0 74 ≤ 16 from by omega)) (cwV 1 hts gX4_unmark_X2_removeMark rfl rfl rfl (by decide +kernel) ⟨Nat.le_of_ble_eq_true rfl, Nat.le_of_ble_eq_true rfl⟩) hK hP hD hS (fun _ h => h) 3 2 rfl rfl rfl rfl hl.1 (Nat.le_of_ble_eq_true rfl) dX4_unmark_26 ⟨Nat.zero_le _, Nat.zero_le _⟩ (fun u_26 H locs hw_26 hP hD hS hz_26 hk_26 => ?_)
    obtain rfl := hw_26
    have hP : va_P G vwCl (wx cx a (sc (sc (sc σ 0 (spr (σ 0) x)) 1 (cpi (σ 1) (σ 0) (107 * (if σ 12 0 + 1 < 8 then σ 12 0 + 1 else 0)))) 12 (ups (ups (σ 12) 0 (if σ 12 0 + 1 < 8 then σ 12 0 + 1 else 0)) 1 (if σ 12 1 < 8 then σ 12 1 + 1 else σ 12 1)))) H := hP
    have hD : va_D (XA a) (wx cx a (sc (sc (sc σ 0 (spr (σ 0) x)) 1 (cpi (σ 1) (σ 0) (107 * (if σ 12 0 + 1 < 8 then σ 12 0 + 1 else 0)))) 12 (ups (ups (σ 12) 0 (if σ 12 0 + 1 < 8 then σ 12 0 + 1 else 0)) 1 (if σ 12 1 < 8 then σ 12 1 + 1 else σ 12 1)))) := hD
    refine lv_aload_n hex hbc dX4_unmark_29 rfl (lv_at hl 0 rfl) ?_
    refine va_get (v := .ref (a 3)) hex hbc hts hin4 hown hK hP 0 rfl rfl 0 (by decide) (hts _ (List.mem_of_getElem? (i := 2) rfl)) (fun _ h => h) rfl dX4_unmark_30 ?_
    refine va_get (v := .int (iI ((spr (σ 0) x) 74))) hex hbc hts hin2 hown hK hP 3 rfl rfl 1 (by decide) (hts _ (List.mem_of_getElem? (i := 3) rfl)) (fun _ h => h) rfl dX4_unmark_33 ?_
    refine zt_nm (a := ((spr (σ 0) x) 74)) (b := (σ 0 74 - 1)) (by show spr (σ 0) x 74 = _; unfold spr; (repeat' split) <;> omega) ?_
    exact g_iret hex hbc hrt hlocks hK hP hD hS ⟨fun _ => ⟨rfl, ⟨rfl, rfl, (show ups (ups (σ 12) 0 (nxs (σ 12 0))) 1 (szs (σ 12 1)) 0 = nxs (σ 12 0) from pu_0), (show ups (ups (σ 12) 0 (nxs (σ 12 0))) 1 (szs (σ 12 1)) 1 = szs (σ 12 1) from pu_1), rfl, rfl⟩⟩, fun h => absurd c5 h⟩ dX4_unmark_36
  · skip
    refine lv_iconst (v := iI (-1)) hex hbc dX4_unmark_8 rfl ?_
    exact g_iret hex hbc hrt hlocks hK hP hD hS ⟨fun h => absurd h c5, fun _ => ⟨rfl, ⟨rfl, rfl, rfl, rfl, rfl, rfl⟩⟩⟩ dX4_unmark_9
theorem iX4_moveMark_X2 : ∀ w ∈ wsX20, w ∈ wsX4_moveMark := fun _ h => List.mem_cons_of_mem _ (List.mem_append_left _ (List.mem_append_right _ h))
theorem iX4_moveMark_X4 : ∀ w ∈ wsX40, w ∈ wsX4_moveMark := fun _ h => List.mem_cons_of_mem _ (List.mem_append_left _ (List.mem_append_left _ (List.mem_append_right _ h)))
set_option maxHeartbeats 4000000 in
set_option maxRecDepth 100000 in
theorem mX4_moveMark (l : Launch) (G : va_G) (cx a : Nat → Nat) (σ : Nat → Int → Int)  (x1 : Int) (x2 : Int) (h1 : -2147483648 ≤ x1 ∧ x1 < 2147483648) (h2 : -2147483648 ≤ x2 ∧ x2 < 2147483648) (hHs : (0 ≤ σ 12 0 ∧ σ 12 0 ≤ 7) ∧ (0 ≤ σ 12 1 ∧ σ 12 1 ≤ 8)) (hI : Inv (σ 0)) : Met l yX4_moveMark wsX4_moveMark ({ frames := 3, cells := 0, slots := 0, locals := 102 }) (va_Pc [.ref (a 0), .int (iI x1), .int (iI x2)] (gW G (tx cx) (XA a) (wx cx a) σ)) (va_Qi (fun r u => Rmove (σ 0) x1 x2 r (XQ_ σ u) (XC_ σ u)) (gW G (tx cx) (XA a) (wx cx a)) (XA a)) 0 0 (XA a) := by
  refine Met.ofW (cc := cX4_moveMark) (maxL := 4) (ret := some .int) (by decide) rfl ?_
  intro p e s m args below meth c s₁ B hml hv
  obtain ⟨rfl, hP, hK, hD⟩ := hv
  have hex := B.exec
  have hbc := B.bytes
  have hrt := B.returns
  have hts := atoms_spec (ws := wsX4_moveMark) B.pre
  have hown : s.vm.findClass RX4 = some m.cls := findClass_of_methodNamed B.named
  have hlocks := B.notSynchronized
  have hS : va_S (XA a) s.heap s.heap [] := va_S.rf
  have hin2 := iX4_moveMark_X2
  have hin4 := iX4_moveMark_X4
  have hl := lv_entry ([.ref (a 0), .int (iI x1), .int (iI x2)]) (n := 4) (Nat.le_of_ble_eq_true rfl)
  rw [lg_entry_eq]
  generalize (lg_sl ([.ref (a 0), .int (iI x1), .int (iI x2)]) ++ List.replicate (4 - (lg_sl ([.ref (a 0), .int (iI x1), .int (iI x2)])).length) Slot.unset).toArray = ls at hl ⊢
  have hl : lv_has ls 4 [(0, .ref (a 0)), (1, .int (iI x1)), (2, .int (iI x2))] := hl
  obtain ⟨hB, hEn, hMk, hAs, hPm⟩ := id hI
  refine lv_aload_n hex hbc dX4_moveMark_0 rfl (lv_at hl 0 rfl) ?_
  refine lv_iload_n hex hbc dX4_moveMark_1 rfl (lv_at hl 1 rfl) ?_
  refine g_calli [.int (iI x1)] ⟨hex, hbc, hml, hown, hts⟩ (mX4_isMovable l G cx a σ x1 (by omega) hI) (cwV 1 hts gX4_moveMark_X4_isMovable rfl rfl rfl (by decide +kernel) ⟨Nat.le_of_ble_eq_true rfl, Nat.le_of_ble_eq_true rfl⟩) hK hP hD hS (fun _ h => h) 0 4 rfl rfl rfl rfl hl.1 (Nat.le_of_ble_eq_true rfl) dX4_moveMark_2 ⟨Nat.zero_le _, Nat.zero_le _⟩ (fun r_2 u_2 H locs hw_2 hP hD hS hz_2 hk_2 => ?_)
  obtain ⟨rfl, vb2, rfl, hv2⟩ := hw_2
  refine zt_ifb_eq (P := (1 ≤ x1 ∧ x1 < σ 0 74)) (tgt := 19) hex hbc hv2 dX4_moveMark_5 (by decide) (fun c5 => ?_) (fun c5 => ?_)
  · skip
    refine lv_iconst (v := iI (-1)) hex hbc dX4_moveMark_19 rfl ?_
    exact g_iret hex hbc hrt hlocks hK hP hD hS ⟨fun _ => ⟨rfl, ⟨rfl, rfl, rfl, rfl, rfl, rfl⟩⟩, fun h => (by exfalso; omega)⟩ dX4_moveMark_20
  · skip
    refine lv_aload_n hex hbc dX4_moveMark_8 rfl (lv_at hl 0 rfl) ?_
    refine va_get (v := .ref (a 3)) hex hbc hts hin4 hown hK hP 0 rfl rfl 0 (by decide) (hts _ (List.mem_of_getElem? (i := 1) rfl)) (fun _ h => h) rfl dX4_moveMark_9 ?_
    refine lv_iload_n hex hbc dX4_moveMark_12 rfl (lv_at hl 2 rfl) ?_
    refine g_calli [.int (iI x2)] ⟨hex, hbc, hml, hown, hts⟩ (mX2_isFrame l G cx a σ x2 (by omega) hI) (cwV 1 hts gX4_moveMark_X2_isFrame rfl rfl rfl (by decide +kernel) ⟨Nat.le_of_ble_eq_true rfl, Nat.le_of_ble_eq_true rfl⟩) hK hP hD hS (fun _ h => h) 3 2 rfl rfl rfl rfl hl.1 (Nat.le_of_ble_eq_true rfl) dX4_moveMark_13 ⟨Nat.zero_le _, Nat.zero_le _⟩ (fun r_13 u_13 H locs hw_13 hP hD hS hz_13 hk_13 => ?_)
    obtain ⟨rfl, vb13, rfl, hv13⟩ := hw_13
    refine zt_ifb_ne (P := (0 ≤ x2 ∧ x2 < σ 0 0)) (tgt := 21) hex hbc hv13 dX4_moveMark_16 (by decide) (fun c16 => ?_) (fun c16 => ?_)
    · skip
      have hfa := fr_lt (w := σ 0) (k := x1 - 1) (by omega)
      have hm := hMk (x1 - 1) (by omega) (by omega)
      have hfb := hI.fr_in (k := x1 + 1) (by omega)
      have hmx := hMk x1 (by omega) (by omega)
      refine lv_iload_n hex hbc dX4_moveMark_21 rfl (lv_at hl 2 rfl) ?_
      refine lv_aload_n hex hbc dX4_moveMark_22 rfl (lv_at hl 0 rfl) ?_
      refine va_get (v := .ref (a 3)) hex hbc hts hin4 hown hK hP 0 rfl rfl 0 (by decide) (hts _ (List.mem_of_getElem? (i := 1) rfl)) (fun _ h => h) rfl dX4_moveMark_23 ?_
      refine va_get (v := .ref (a 6)) hex hbc hts hin2 hown hK hP 3 rfl rfl 4 (by decide) (hts _ (List.mem_of_getElem? (i := 2) rfl)) (fun _ h => h) rfl dX4_moveMark_26 ?_
      refine lv_iload_n hex hbc dX4_moveMark_29 rfl (lv_at hl 1 rfl) ?_
      refine lv_iconst (v := iI 1) hex hbc dX4_moveMark_30 rfl ?_
      refine zt_isub hex hbc dX4_moveMark_31 ?_
      refine g_iald (f := (fun k => (σ 0 (75 + k)))) (v := (σ 0 (75 + (x1 - 1)))) (i := (x1 - 1)) hex hbc hK hP 6 0 rfl rfl (by decide) (by omega) rfl dX4_moveMark_32 ?_
      refine zt_icmp_le (a := x2) (b := (σ 0 (75 + (x1 - 1)))) (tgt := 48) hex hbc (by omega) dX4_moveMark_33 (by decide) (fun c33 => ?_) (fun c33 => ?_)
      · skip
        refine lv_bipush (v := iI (-2)) hex hbc dX4_moveMark_48 (by decide) ?_
        exact g_iret hex hbc hrt hlocks hK hP hD hS ⟨fun h => absurd ⟨c5, c16⟩ h, fun _ => ⟨fun _ => ⟨rfl, ⟨rfl, rfl, rfl, rfl, rfl, rfl⟩⟩, fun h => (by exfalso; omega)⟩⟩ dX4_moveMark_50
      · skip
        refine lv_iload_n hex hbc dX4_moveMark_36 rfl (lv_at hl 2 rfl) ?_
        refine lv_aload_n hex hbc dX4_moveMark_37 rfl (lv_at hl 0 rfl) ?_
        refine va_get (v := .ref (a 3)) hex hbc hts hin4 hown hK hP 0 rfl rfl 0 (by decide) (hts _ (List.mem_of_getElem? (i := 1) rfl)) (fun _ h => h) rfl dX4_moveMark_38 ?_
        refine lv_iload_n hex hbc dX4_moveMark_41 rfl (lv_at hl 1 rfl) ?_
        refine g_calli [.int (iI x1)] ⟨hex, hbc, hml, hown, hts⟩ (mX2_endFrame l G cx a σ x1 (by omega) hI) (cwV 1 hts gX4_moveMark_X2_endFrame rfl rfl rfl (by decide +kernel) ⟨Nat.le_of_ble_eq_true rfl, Nat.le_of_ble_eq_true rfl⟩) hK hP hD hS (fun _ h => h) 3 2 rfl rfl rfl rfl hl.1 (Nat.le_of_ble_eq_true rfl) dX4_moveMark_42 ⟨Nat.zero_le _, Nat.zero_le _⟩ (fun r_42 u_42 H locs hw_42 hP hD hS hz_42 hk_42 => ?_)
        obtain ⟨rfl, rfl⟩ := hw_42
        refine zt_icmp_lt (a := x2) (b := (fr (σ 0) (x1 + 1))) (tgt := 51) hex hbc (by omega) dX4_moveMark_45 (by decide) (fun c45 => ?_) (fun c45 => ?_)
        · skip
          refine lv_aload_n hex hbc dX4_moveMark_51 rfl (lv_at hl 0 rfl) ?_
          refine va_get (v := .ref (a 17)) hex hbc hts hin4 hown hK hP 0 rfl rfl 3 (by decide) (hts _ (List.mem_of_getElem? (i := 3) rfl)) (fun _ h => h) rfl dX4_moveMark_52 ?_
          refine lv_aload_n hex hbc dX4_moveMark_55 rfl (lv_at hl 0 rfl) ?_
          refine va_get (v := .ref (a 3)) hex hbc hts hin4 hown hK hP 0 rfl rfl 0 (by decide) (hts _ (List.mem_of_getElem? (i := 1) rfl)) (fun _ h => h) rfl dX4_moveMark_56 ?_
          refine g_callv [.ref (a 3)] ⟨hex, hbc, hml, hown, hts⟩ (mX1_push l G cx a σ  hHs) (cwV 1 hts gX4_moveMark_X1_push rfl rfl rfl (by decide +kernel) ⟨Nat.le_of_ble_eq_true rfl, Nat.le_of_ble_eq_true rfl⟩) hK hP hD hS (fun _ h => h) 17 1 rfl rfl rfl rfl hl.1 (Nat.le_of_ble_eq_true rfl) dX4_moveMark_59 ⟨Nat.zero_le _, Nat.zero_le _⟩ (fun u_59 H locs hw_59 hP hD hS hz_59 hk_59 => ?_)
          obtain rfl := hw_59
          have hP : va_P G vwCl (wx cx a (sc (sc σ 1 (cpi (σ 1) (σ 0) (107 * (if σ 12 0 + 1 < 8 then σ 12 0 + 1 else 0)))) 12 (ups (ups (σ 12) 0 (if σ 12 0 + 1 < 8 then σ 12 0 + 1 else 0)) 1 (if σ 12 1 < 8 then σ 12 1 + 1 else σ 12 1)))) H := hP
          have hD : va_D (XA a) (wx cx a (sc (sc σ 1 (cpi (σ 1) (σ 0) (107 * (if σ 12 0 + 1 < 8 then σ 12 0 + 1 else 0)))) 12 (ups (ups (σ 12) 0 (if σ 12 0 + 1 < 8 then σ 12 0 + 1 else 0)) 1 (if σ 12 1 < 8 then σ 12 1 + 1 else σ 12 1)))) := hD
          refine lv_aload_n hex hbc dX4_moveMark_62 rfl (lv_at hl 0 rfl) ?_
          refine va_get (v := .ref (a 3)) hex hbc hts hin4 hown hK hP 0 rfl rfl 0 (by decide) (hts _ (List.mem_of_getElem? (i := 1) rfl)) (fun _ h => h) rfl dX4_moveMark_63 ?_
          refine va_get (v := .ref (a 6)) hex hbc hts hin2 hown hK hP 3 rfl rfl 4 (by decide) (hts _ (List.mem_of_getElem? (i := 2) rfl)) (fun _ h => h) rfl dX4_moveMark_66 ?_
          refine lv_iload_n hex hbc dX4_moveMark_69 rfl (lv_at hl 1 rfl) ?_
          refine g_iald (f := (fun k => (σ 0 (75 + k)))) (v := (σ 0 (75 + x1))) (i := x1) hex hbc hK hP 6 0 rfl rfl (by decide) (by omega) rfl dX4_moveMark_70 ?_
          refine lv_istore_n (lv' := [(3, .int (iI (σ 0 (75 + x1)))), (0, .ref (a 0)), (1, .int (iI x1)), (2, .int (iI x2))]) hex hbc dX4_moveMark_71 rfl hl (by decide) rfl (fun ls hl => ?_)
          refine lv_aload_n hex hbc dX4_moveMark_72 rfl (lv_at hl 1 rfl) ?_
          refine va_get (v := .ref (a 3)) hex hbc hts hin4 hown hK hP 0 rfl rfl 0 (by decide) (hts _ (List.mem_of_getElem? (i := 1) rfl)) (fun _ h => h) rfl dX4_moveMark_73 ?_
          refine va_get (v := .ref (a 6)) hex hbc hts hin2 hown hK hP 3 rfl rfl 4 (by decide) (hts _ (List.mem_of_getElem? (i := 2) rfl)) (fun _ h => h) rfl dX4_moveMark_76 ?_
          refine lv_iload_n hex hbc dX4_moveMark_79 rfl (lv_at hl 2 rfl) ?_
          refine lv_iload_n hex hbc dX4_moveMark_80 rfl (lv_at hl 3 rfl) ?_
          have hi_81 : (0 : Int) ≤ x1 ∧ x1 < (16 : Int) := (by omega)
          refine g_iast (σ := (sc (sc σ 1 (cpi (σ 1) (σ 0) (107 * (if σ 12 0 + 1 < 8 then σ 12 0 + 1 else 0)))) 12 (ups (ups (σ 12) 0 (if σ 12 0 + 1 < 8 then σ 12 0 + 1 else 0)) 1 (if σ 12 1 < 8 then σ 12 1 + 1 else σ 12 1)))) (f := (fun k => (σ 0 (75 + k)))) (i := x1) (v := x2) (τ := st (sc (sc σ 1 (cpi (σ 1) (σ 0) (107 * (if σ 12 0 + 1 < 8 then σ 12 0 + 1 else 0)))) 12 (ups (ups (σ 12) 0 (if σ 12 0 + 1 < 8 then σ 12 0 + 1 else 0)) 1 (if σ 12 1 < 8 then σ 12 1 + 1 else σ 12 1))) 0 (75 + x1) x2) hex hbc hK hP hD hS 6 0 rfl rfl (by decide) hi_81 dX4_moveMark_81 (wx_up_6 hi_81) (fun H locs hP hD hS => ?_)
          obtain ⟨f0_81, ef0_81⟩ : ∃ z : Int → Int, z = ups (σ 0) (75 + x1) x2 := ⟨_, rfl⟩
          have hP : va_P G vwCl (wx cx a (sc (sc (sc σ 0 f0_81) 1 (cpi (σ 1) (σ 0) (107 * (if σ 12 0 + 1 < 8 then σ 12 0 + 1 else 0)))) 12 (ups (ups (σ 12) 0 (if σ 12 0 + 1 < 8 then σ 12 0 + 1 else 0)) 1 (if σ 12 1 < 8 then σ 12 1 + 1 else σ 12 1)))) H := by rw [ef0_81]; exact hP
          have hD : va_D (XA a) (wx cx a (sc (sc (sc σ 0 f0_81) 1 (cpi (σ 1) (σ 0) (107 * (if σ 12 0 + 1 < 8 then σ 12 0 + 1 else 0)))) 12 (ups (ups (σ 12) 0 (if σ 12 0 + 1 < 8 then σ 12 0 + 1 else 0)) 1 (if σ 12 1 < 8 then σ 12 1 + 1 else σ 12 1)))) := by rw [ef0_81]; exact hD
          refine lv_iload_n hex hbc dX4_moveMark_82 rfl (lv_at hl 0 rfl) ?_
          exact g_iret hex hbc hrt hlocks hK hP hD hS ⟨fun h => absurd ⟨c5, c16⟩ h, fun _ => ⟨fun h => absurd ⟨by omega, by omega⟩ h, fun _ => ⟨rfl, ⟨ef0_81, rfl, (show ups (ups (σ 12) 0 (nxs (σ 12 0))) 1 (szs (σ 12 1)) 0 = nxs (σ 12 0) from pu_0), (show ups (ups (σ 12) 0 (nxs (σ 12 0))) 1 (szs (σ 12 1)) 1 = szs (σ 12 1) from pu_1), rfl, rfl⟩⟩⟩⟩ dX4_moveMark_83
        · skip
          refine lv_bipush (v := iI (-2)) hex hbc dX4_moveMark_48 (by decide) ?_
          exact g_iret hex hbc hrt hlocks hK hP hD hS ⟨fun h => absurd ⟨c5, c16⟩ h, fun _ => ⟨fun _ => ⟨rfl, ⟨rfl, rfl, rfl, rfl, rfl, rfl⟩⟩, fun h => (by exfalso; omega)⟩⟩ dX4_moveMark_50
    · skip
      refine lv_iconst (v := iI (-1)) hex hbc dX4_moveMark_19 rfl ?_
      exact g_iret hex hbc hrt hlocks hK hP hD hS ⟨fun _ => ⟨rfl, ⟨rfl, rfl, rfl, rfl, rfl, rfl⟩⟩, fun h => (by exfalso; omega)⟩ dX4_moveMark_20
theorem iX4_swap_X2 : ∀ w ∈ wsX20, w ∈ wsX4_swap := fun _ h => List.mem_cons_of_mem _ (List.mem_append_left _ (List.mem_append_right _ h))
theorem iX4_swap_X4 : ∀ w ∈ wsX40, w ∈ wsX4_swap := fun _ h => List.mem_cons_of_mem _ (List.mem_append_left _ (List.mem_append_left _ (List.mem_append_right _ h)))
set_option maxHeartbeats 4000000 in
set_option maxRecDepth 100000 in
theorem mX4_swap (l : Launch) (G : va_G) (cx a : Nat → Nat) (σ : Nat → Int → Int)  (x1 : Int) (x2 : Int) (h1 : -2147483648 ≤ x1 ∧ x1 < 2147483648) (h2 : -2147483648 ≤ x2 ∧ x2 < 2147483648) (hHs : (0 ≤ σ 12 0 ∧ σ 12 0 ≤ 7) ∧ (0 ≤ σ 12 1 ∧ σ 12 1 ≤ 8)) (hI : Inv (σ 0)) : Met l yX4_swap wsX4_swap ({ frames := 3, cells := 0, slots := 0, locals := 102 }) (va_Pc [.ref (a 0), .int (iI x1), .int (iI x2)] (gW G (tx cx) (XA a) (wx cx a) σ)) (va_Qi (fun r u => (((0 ≤ x1 ∧ x1 < σ 0 74) ∧ (0 ≤ x2 ∧ x2 < σ 0 74)) → iI (σ 0 (91 + x2)) = r ∧ XC_ σ u (spx (σ 0) x1 x2)) ∧ (¬ ((0 ≤ x1 ∧ x1 < σ 0 74) ∧ (0 ≤ x2 ∧ x2 < σ 0 74)) → iI (-1) = r ∧ XQ_ σ u)) (gW G (tx cx) (XA a) (wx cx a)) (XA a)) 0 0 (XA a) := by
  refine Met.ofW (cc := cX4_swap) (maxL := 3) (ret := some .int) (by decide) rfl ?_
  intro p e s m args below meth c s₁ B hml hv
  obtain ⟨rfl, hP, hK, hD⟩ := hv
  have hex := B.exec
  have hbc := B.bytes
  have hrt := B.returns
  have hts := atoms_spec (ws := wsX4_swap) B.pre
  have hown : s.vm.findClass RX4 = some m.cls := findClass_of_methodNamed B.named
  have hlocks := B.notSynchronized
  have hS : va_S (XA a) s.heap s.heap [] := va_S.rf
  have hin2 := iX4_swap_X2
  have hin4 := iX4_swap_X4
  have hl := lv_entry ([.ref (a 0), .int (iI x1), .int (iI x2)]) (n := 3) (Nat.le_of_ble_eq_true rfl)
  rw [lg_entry_eq]
  generalize (lg_sl ([.ref (a 0), .int (iI x1), .int (iI x2)]) ++ List.replicate (3 - (lg_sl ([.ref (a 0), .int (iI x1), .int (iI x2)])).length) Slot.unset).toArray = ls at hl ⊢
  have hl : lv_has ls 3 [(0, .ref (a 0)), (1, .int (iI x1)), (2, .int (iI x2))] := hl
  obtain ⟨hB, hEn, hMk, hAs, hPm⟩ := id hI
  refine lv_aload_n hex hbc dX4_swap_0 rfl (lv_at hl 0 rfl) ?_
  refine va_get (v := .ref (a 3)) hex hbc hts hin4 hown hK hP 0 rfl rfl 0 (by decide) (hts _ (List.mem_of_getElem? (i := 1) rfl)) (fun _ h => h) rfl dX4_swap_1 ?_
  refine lv_iload_n hex hbc dX4_swap_4 rfl (lv_at hl 1 rfl) ?_
  refine g_calli [.int (iI x1)] ⟨hex, hbc, hml, hown, hts⟩ (mX2_isSlice l G cx a σ x1 (by omega) hI) (cwV 1 hts gX4_swap_X2_isSlice rfl rfl rfl (by decide +kernel) ⟨Nat.le_of_ble_eq_true rfl, Nat.le_of_ble_eq_true rfl⟩) hK hP hD hS (fun _ h => h) 3 2 rfl rfl rfl rfl hl.1 (Nat.le_of_ble_eq_true rfl) dX4_swap_5 ⟨Nat.zero_le _, Nat.zero_le _⟩ (fun r_5 u_5 H locs hw_5 hP hD hS hz_5 hk_5 => ?_)
  obtain ⟨rfl, vb5, rfl, hv5⟩ := hw_5
  refine zt_ifb_eq (P := (0 ≤ x1 ∧ x1 < σ 0 74)) (tgt := 22) hex hbc hv5 dX4_swap_8 (by decide) (fun c8 => ?_) (fun c8 => ?_)
  · skip
    refine lv_iconst (v := iI (-1)) hex hbc dX4_swap_22 rfl ?_
    exact g_iret hex hbc hrt hlocks hK hP hD hS ⟨fun h => (by exfalso; omega), fun _ => ⟨rfl, ⟨rfl, rfl, rfl, rfl, rfl, rfl⟩⟩⟩ dX4_swap_23
  · skip
    refine lv_aload_n hex hbc dX4_swap_11 rfl (lv_at hl 0 rfl) ?_
    refine va_get (v := .ref (a 3)) hex hbc hts hin4 hown hK hP 0 rfl rfl 0 (by decide) (hts _ (List.mem_of_getElem? (i := 1) rfl)) (fun _ h => h) rfl dX4_swap_12 ?_
    refine lv_iload_n hex hbc dX4_swap_15 rfl (lv_at hl 2 rfl) ?_
    refine g_calli [.int (iI x2)] ⟨hex, hbc, hml, hown, hts⟩ (mX2_isSlice l G cx a σ x2 (by omega) hI) (cwV 1 hts gX4_swap_X2_isSlice rfl rfl rfl (by decide +kernel) ⟨Nat.le_of_ble_eq_true rfl, Nat.le_of_ble_eq_true rfl⟩) hK hP hD hS (fun _ h => h) 3 2 rfl rfl rfl rfl hl.1 (Nat.le_of_ble_eq_true rfl) dX4_swap_16 ⟨Nat.zero_le _, Nat.zero_le _⟩ (fun r_16 u_16 H locs hw_16 hP hD hS hz_16 hk_16 => ?_)
    obtain ⟨rfl, vb16, rfl, hv16⟩ := hw_16
    refine zt_ifb_ne (P := (0 ≤ x2 ∧ x2 < σ 0 74)) (tgt := 24) hex hbc hv16 dX4_swap_19 (by decide) (fun c19 => ?_) (fun c19 => ?_)
    · skip
      refine lv_aload_n hex hbc dX4_swap_24 rfl (lv_at hl 0 rfl) ?_
      refine va_get (v := .ref (a 17)) hex hbc hts hin4 hown hK hP 0 rfl rfl 3 (by decide) (hts _ (List.mem_of_getElem? (i := 2) rfl)) (fun _ h => h) rfl dX4_swap_25 ?_
      refine lv_aload_n hex hbc dX4_swap_28 rfl (lv_at hl 0 rfl) ?_
      refine va_get (v := .ref (a 3)) hex hbc hts hin4 hown hK hP 0 rfl rfl 0 (by decide) (hts _ (List.mem_of_getElem? (i := 1) rfl)) (fun _ h => h) rfl dX4_swap_29 ?_
      refine g_callv [.ref (a 3)] ⟨hex, hbc, hml, hown, hts⟩ (mX1_push l G cx a σ  hHs) (cwV 1 hts gX4_swap_X1_push rfl rfl rfl (by decide +kernel) ⟨Nat.le_of_ble_eq_true rfl, Nat.le_of_ble_eq_true rfl⟩) hK hP hD hS (fun _ h => h) 17 1 rfl rfl rfl rfl hl.1 (Nat.le_of_ble_eq_true rfl) dX4_swap_32 ⟨Nat.zero_le _, Nat.zero_le _⟩ (fun u_32 H locs hw_32 hP hD hS hz_32 hk_32 => ?_)
      obtain rfl := hw_32
      have hP : va_P G vwCl (wx cx a (sc (sc σ 1 (cpi (σ 1) (σ 0) (107 * (if σ 12 0 + 1 < 8 then σ 12 0 + 1 else 0)))) 12 (ups (ups (σ 12) 0 (if σ 12 0 + 1 < 8 then σ 12 0 + 1 else 0)) 1 (if σ 12 1 < 8 then σ 12 1 + 1 else σ 12 1)))) H := hP
      have hD : va_D (XA a) (wx cx a (sc (sc σ 1 (cpi (σ 1) (σ 0) (107 * (if σ 12 0 + 1 < 8 then σ 12 0 + 1 else 0)))) 12 (ups (ups (σ 12) 0 (if σ 12 0 + 1 < 8 then σ 12 0 + 1 else 0)) 1 (if σ 12 1 < 8 then σ 12 1 + 1 else σ 12 1)))) := hD
      refine lv_aload_n hex hbc dX4_swap_35 rfl (lv_at hl 0 rfl) ?_
      refine va_get (v := .ref (a 3)) hex hbc hts hin4 hown hK hP 0 rfl rfl 0 (by decide) (hts _ (List.mem_of_getElem? (i := 1) rfl)) (fun _ h => h) rfl dX4_swap_36 ?_
      refine lv_iload_n hex hbc dX4_swap_39 rfl (lv_at hl 1 rfl) ?_
      refine lv_iload_n hex hbc dX4_swap_40 rfl (lv_at hl 2 rfl) ?_
      refine g_callv [.int (iI x1), .int (iI x2)] ⟨hex, hbc, hml, hown, hts⟩ (mX2_exchange l G cx a (sc (sc σ 1 (cpi (σ 1) (σ 0) (107 * (if σ 12 0 + 1 < 8 then σ 12 0 + 1 else 0)))) 12 (ups (ups (σ 12) 0 (if σ 12 0 + 1 < 8 then σ 12 0 + 1 else 0)) 1 (if σ 12 1 < 8 then σ 12 1 + 1 else σ 12 1))) x1 x2 (show 0 ≤ x1 ∧ x1 < 16 from by omega) (show 0 ≤ x2 ∧ x2 < 16 from by omega)) (cwV 2 hts gX4_swap_X2_exchange rfl rfl rfl (by decide +kernel) ⟨Nat.le_of_ble_eq_true rfl, Nat.le_of_ble_eq_true rfl⟩) hK hP hD hS (fun _ h => h) 3 2 rfl rfl rfl rfl hl.1 (Nat.le_of_ble_eq_true rfl) dX4_swap_41 ⟨Nat.zero_le _, Nat.zero_le _⟩ (fun u_41 H locs hw_41 hP hD hS hz_41 hk_41 => ?_)
      obtain rfl := hw_41
      have hP : va_P G vwCl (wx cx a (sc (sc (sc σ 0 (spx (σ 0) x1 x2)) 1 (cpi (σ 1) (σ 0) (107 * (if σ 12 0 + 1 < 8 then σ 12 0 + 1 else 0)))) 12 (ups (ups (σ 12) 0 (if σ 12 0 + 1 < 8 then σ 12 0 + 1 else 0)) 1 (if σ 12 1 < 8 then σ 12 1 + 1 else σ 12 1)))) H := hP
      have hD : va_D (XA a) (wx cx a (sc (sc (sc σ 0 (spx (σ 0) x1 x2)) 1 (cpi (σ 1) (σ 0) (107 * (if σ 12 0 + 1 < 8 then σ 12 0 + 1 else 0)))) 12 (ups (ups (σ 12) 0 (if σ 12 0 + 1 < 8 then σ 12 0 + 1 else 0)) 1 (if σ 12 1 < 8 then σ 12 1 + 1 else σ 12 1)))) := hD
      refine lv_aload_n hex hbc dX4_swap_44 rfl (lv_at hl 0 rfl) ?_
      refine va_get (v := .ref (a 3)) hex hbc hts hin4 hown hK hP 0 rfl rfl 0 (by decide) (hts _ (List.mem_of_getElem? (i := 1) rfl)) (fun _ h => h) rfl dX4_swap_45 ?_
      refine va_get (v := .ref (a 7)) hex hbc hts hin2 hown hK hP 3 rfl rfl 5 (by decide) (hts _ (List.mem_of_getElem? (i := 3) rfl)) (fun _ h => h) rfl dX4_swap_48 ?_
      refine lv_iload_n hex hbc dX4_swap_51 rfl (lv_at hl 1 rfl) ?_
      refine g_iald (f := (fun k => ((spx (σ 0) x1 x2) (91 + k)))) (v := ((spx (σ 0) x1 x2) (91 + x1))) (i := x1) hex hbc hK hP 7 0 rfl rfl (by decide) (by omega) rfl dX4_swap_52 ?_
      refine zt_nm (a := ((spx (σ 0) x1 x2) (91 + x1))) (b := (σ 0 (91 + x2))) (by show spx (σ 0) x1 x2 (91 + x1) = _; unfold spx ups; (repeat' split) <;> first | omega | exact congrArg _ (by omega)) ?_
      exact g_iret hex hbc hrt hlocks hK hP hD hS ⟨fun _ => ⟨rfl, ⟨rfl, rfl, (show ups (ups (σ 12) 0 (nxs (σ 12 0))) 1 (szs (σ 12 1)) 0 = nxs (σ 12 0) from pu_0), (show ups (ups (σ 12) 0 (nxs (σ 12 0))) 1 (szs (σ 12 1)) 1 = szs (σ 12 1) from pu_1), rfl, rfl⟩⟩, fun h => absurd ⟨c8, c19⟩ h⟩ dX4_swap_53
    · skip
      refine lv_iconst (v := iI (-1)) hex hbc dX4_swap_22 rfl ?_
      exact g_iret hex hbc hrt hlocks hK hP hD hS ⟨fun h => (by exfalso; omega), fun _ => ⟨rfl, ⟨rfl, rfl, rfl, rfl, rfl, rfl⟩⟩⟩ dX4_swap_23
theorem iX4_reverse_X2 : ∀ w ∈ wsX20, w ∈ wsX4_reverse := fun _ h => List.mem_cons_of_mem _ (List.mem_append_left _ (List.mem_append_right _ h))
theorem iX4_reverse_X4 : ∀ w ∈ wsX40, w ∈ wsX4_reverse := fun _ h => List.mem_cons_of_mem _ (List.mem_append_left _ (List.mem_append_left _ (List.mem_append_right _ h)))
set_option maxHeartbeats 4000000 in
set_option maxRecDepth 100000 in
theorem mX4_reverse (l : Launch) (G : va_G) (cx a : Nat → Nat) (σ : Nat → Int → Int)   (hHs : (0 ≤ σ 12 0 ∧ σ 12 0 ≤ 7) ∧ (0 ≤ σ 12 1 ∧ σ 12 1 ≤ 8)) (hI : Inv (σ 0)) : Met l yX4_reverse wsX4_reverse ({ frames := 3, cells := 0, slots := 0, locals := 102 }) (va_Pc [.ref (a 0)] (gW G (tx cx) (XA a) (wx cx a) σ)) (va_Qi (fun r u => iI (σ 0 (91 + (σ 0 74 - 1))) = r ∧ XC_ σ u (spV (σ 0))) (gW G (tx cx) (XA a) (wx cx a)) (XA a)) 0 0 (XA a) := by
  refine Met.ofW (cc := cX4_reverse) (maxL := 2) (ret := some .int) (by decide) rfl ?_
  intro p e s m args below meth c s₁ B hml hv
  obtain ⟨rfl, hP, hK, hD⟩ := hv
  have hex := B.exec
  have hbc := B.bytes
  have hrt := B.returns
  have hts := atoms_spec (ws := wsX4_reverse) B.pre
  have hown : s.vm.findClass RX4 = some m.cls := findClass_of_methodNamed B.named
  have hlocks := B.notSynchronized
  have hS : va_S (XA a) s.heap s.heap [] := va_S.rf
  have hin2 := iX4_reverse_X2
  have hin4 := iX4_reverse_X4
  have hl := lv_entry ([.ref (a 0)]) (n := 2) (Nat.le_of_ble_eq_true rfl)
  rw [lg_entry_eq]
  generalize (lg_sl ([.ref (a 0)]) ++ List.replicate (2 - (lg_sl ([.ref (a 0)])).length) Slot.unset).toArray = ls at hl ⊢
  have hl : lv_has ls 2 [(0, .ref (a 0))] := hl
  obtain ⟨hB, hEn, hMk, hAs, hPm⟩ := id hI
  refine lv_aload_n hex hbc dX4_reverse_0 rfl (lv_at hl 0 rfl) ?_
  refine va_get (v := .ref (a 17)) hex hbc hts hin4 hown hK hP 0 rfl rfl 3 (by decide) (hts _ (List.mem_of_getElem? (i := 1) rfl)) (fun _ h => h) rfl dX4_reverse_1 ?_
  refine lv_aload_n hex hbc dX4_reverse_4 rfl (lv_at hl 0 rfl) ?_
  refine va_get (v := .ref (a 3)) hex hbc hts hin4 hown hK hP 0 rfl rfl 0 (by decide) (hts _ (List.mem_of_getElem? (i := 2) rfl)) (fun _ h => h) rfl dX4_reverse_5 ?_
  refine g_callv [.ref (a 3)] ⟨hex, hbc, hml, hown, hts⟩ (mX1_push l G cx a σ  hHs) (cwV 1 hts gX4_reverse_X1_push rfl rfl rfl (by decide +kernel) ⟨Nat.le_of_ble_eq_true rfl, Nat.le_of_ble_eq_true rfl⟩) hK hP hD hS (fun _ h => h) 17 1 rfl rfl rfl rfl hl.1 (Nat.le_of_ble_eq_true rfl) dX4_reverse_8 ⟨Nat.zero_le _, Nat.zero_le _⟩ (fun u_8 H locs hw_8 hP hD hS hz_8 hk_8 => ?_)
  obtain rfl := hw_8
  have hP : va_P G vwCl (wx cx a (sc (sc σ 1 (cpi (σ 1) (σ 0) (107 * (if σ 12 0 + 1 < 8 then σ 12 0 + 1 else 0)))) 12 (ups (ups (σ 12) 0 (if σ 12 0 + 1 < 8 then σ 12 0 + 1 else 0)) 1 (if σ 12 1 < 8 then σ 12 1 + 1 else σ 12 1)))) H := hP
  have hD : va_D (XA a) (wx cx a (sc (sc σ 1 (cpi (σ 1) (σ 0) (107 * (if σ 12 0 + 1 < 8 then σ 12 0 + 1 else 0)))) 12 (ups (ups (σ 12) 0 (if σ 12 0 + 1 < 8 then σ 12 0 + 1 else 0)) 1 (if σ 12 1 < 8 then σ 12 1 + 1 else σ 12 1)))) := hD
  refine lv_iconst (v := iI 0) hex hbc dX4_reverse_11 rfl ?_
  refine lv_istore_n (lv' := [(1, .int (iI 0)), (0, .ref (a 0))]) hex hbc dX4_reverse_12 rfl hl (by decide) rfl (fun ls hl => ?_)
  have loop_13 : ∀ (N : Nat) (i1 : Int) (w1 : Int → Int), (0 ≤ i1 ∧ i1 ≤ σ 0 74 / 2 ∧ ∀ k, w1 k = if (91 ≤ k ∧ k < 91 + i1) ∨ (91 + σ 0 74 - i1 ≤ k ∧ k < 91 + σ 0 74) then σ 0 (91 + (σ 0 74 - 1 - (k - 91))) else σ 0 k) → (16 - i1) < (N : Int) → ∀ (H : Heap) (locs : List Loc) (ls : Array Slot), va_P G vwCl (wx cx a (sc (sc (sc σ 0 w1) 1 (cpi (σ 1) (σ 0) (107 * (if σ 12 0 + 1 < 8 then σ 12 0 + 1 else 0)))) 12 (ups (ups (σ 12) 0 (if σ 12 0 + 1 < 8 then σ 12 0 + 1 else 0)) 1 (if σ 12 1 < 8 then σ 12 1 + 1 else σ 12 1)))) H → va_D (XA a) (wx cx a (sc (sc (sc σ 0 w1) 1 (cpi (σ 1) (σ 0) (107 * (if σ 12 0 + 1 < 8 then σ 12 0 + 1 else 0)))) 12 (ups (ups (σ 12) 0 (if σ 12 0 + 1 < 8 then σ 12 0 + 1 else 0)) 1 (if σ 12 1 < 8 then σ 12 1 + 1 else σ 12 1)))) → va_S (XA a) s.heap H locs → lv_has ls 2 [(1, .int (iI i1)), (0, .ref (a 0))] → W p l e (headSpec wsX4_reverse ({ frames := 3, cells := 0, slots := 0, locals := 102 })).room s m ([.ref (a 0)] : List Value).toArray below meth c H locs 0 0 (MQ below (va_Qi (fun r u => iI (σ 0 (91 + (σ 0 74 - 1))) = r ∧ XC_ σ u (spV (σ 0))) (gW G (tx cx) (XA a) (wx cx a)) (XA a)) ([.ref (a 0)] : List Value).toArray s 0 0 (XA a)) (F0 m 13 ls []) := by
    intro N
    induction N with
    | zero => intro i1 w1 hinv hlt; exfalso; omega
    | succ N ih_13 =>
      intro i1 w1 ⟨hi0, hi1, hw⟩ hlt_13 H locs ls hP hD hS hl
      refine lv_iload_n hex hbc dX4_reverse_13 rfl (lv_at hl 0 rfl) ?_
      refine lv_aload_n hex hbc dX4_reverse_14 rfl (lv_at hl 1 rfl) ?_
      refine va_get (v := .ref (a 3)) hex hbc hts hin4 hown hK hP 0 rfl rfl 0 (by decide) (hts _ (List.mem_of_getElem? (i := 2) rfl)) (fun _ h => h) rfl dX4_reverse_15 ?_
      refine va_get (v := .int (iI (w1 74))) hex hbc hts hin2 hown hK hP 3 rfl rfl 1 (by decide) (hts _ (List.mem_of_getElem? (i := 3) rfl)) (fun _ h => h) rfl dX4_reverse_18 ?_
      refine zt_nm (a := (w1 74)) (b := (σ 0 74)) (by rw [hw]; exact if_neg (by omega)) ?_
      refine lv_iconst (v := iI 2) hex hbc dX4_reverse_21 rfl ?_
      refine zt_idiv (a := (σ 0 74)) (b := 2) hex hbc (by omega) dX4_reverse_22 ?_
      refine zt_icmp_ge (a := i1) (b := ((σ 0 74) / 2)) (tgt := 51) hex hbc (by omega) dX4_reverse_23 (by decide) (fun c23 => ?_) (fun c23 => ?_)
      · skip
        refine lv_aload_n hex hbc dX4_reverse_51 rfl (lv_at hl 1 rfl) ?_
        refine va_get (v := .ref (a 3)) hex hbc hts hin4 hown hK hP 0 rfl rfl 0 (by decide) (hts _ (List.mem_of_getElem? (i := 2) rfl)) (fun _ h => h) rfl dX4_reverse_52 ?_
        refine va_get (v := .ref (a 7)) hex hbc hts hin2 hown hK hP 3 rfl rfl 5 (by decide) (hts _ (List.mem_of_getElem? (i := 4) rfl)) (fun _ h => h) rfl dX4_reverse_55 ?_
        refine lv_iconst (v := iI 0) hex hbc dX4_reverse_58 rfl ?_
        refine g_iald (f := (fun k => (w1 (91 + k)))) (v := (w1 91)) (i := 0) hex hbc hK hP 7 0 rfl rfl (by decide) (by omega) rfl dX4_reverse_59 ?_
        refine zt_nm (a := (w1 91)) (b := (σ 0 (91 + (σ 0 74 - 1)))) (by rw [hw]; (repeat' split) <;> first | omega | exact congrArg _ (by omega)) ?_
        exact g_iret hex hbc hrt hlocks hK hP hD hS ⟨rfl, ⟨(funext fun k => by show w1 k = _; rw [hw k]; unfold spV; (repeat' split) <;> first | omega | exact congrArg _ (by omega)), rfl, (show ups (ups (σ 12) 0 (nxs (σ 12 0))) 1 (szs (σ 12 1)) 0 = nxs (σ 12 0) from pu_0), (show ups (ups (σ 12) 0 (nxs (σ 12 0))) 1 (szs (σ 12 1)) 1 = szs (σ 12 1) from pu_1), rfl, rfl⟩⟩ dX4_reverse_60
      · skip
        refine lv_aload_n hex hbc dX4_reverse_26 rfl (lv_at hl 1 rfl) ?_
        refine va_get (v := .ref (a 3)) hex hbc hts hin4 hown hK hP 0 rfl rfl 0 (by decide) (hts _ (List.mem_of_getElem? (i := 2) rfl)) (fun _ h => h) rfl dX4_reverse_27 ?_
        refine lv_iload_n hex hbc dX4_reverse_30 rfl (lv_at hl 0 rfl) ?_
        refine lv_aload_n hex hbc dX4_reverse_31 rfl (lv_at hl 1 rfl) ?_
        refine va_get (v := .ref (a 3)) hex hbc hts hin4 hown hK hP 0 rfl rfl 0 (by decide) (hts _ (List.mem_of_getElem? (i := 2) rfl)) (fun _ h => h) rfl dX4_reverse_32 ?_
        refine va_get (v := .int (iI (w1 74))) hex hbc hts hin2 hown hK hP 3 rfl rfl 1 (by decide) (hts _ (List.mem_of_getElem? (i := 3) rfl)) (fun _ h => h) rfl dX4_reverse_35 ?_
        refine zt_nm (a := (w1 74)) (b := (σ 0 74)) (by rw [hw]; exact if_neg (by omega)) ?_
        refine lv_iconst (v := iI 1) hex hbc dX4_reverse_38 rfl ?_
        refine zt_isub hex hbc dX4_reverse_39 ?_
        refine lv_iload_n hex hbc dX4_reverse_40 rfl (lv_at hl 0 rfl) ?_
        refine zt_isub hex hbc dX4_reverse_41 ?_
        refine g_callv [.int (iI i1), .int (iI (((σ 0 74) - 1) - i1))] ⟨hex, hbc, hml, hown, hts⟩ (mX2_exchange l G cx a (sc (sc (sc σ 0 w1) 1 (cpi (σ 1) (σ 0) (107 * (if σ 12 0 + 1 < 8 then σ 12 0 + 1 else 0)))) 12 (ups (ups (σ 12) 0 (if σ 12 0 + 1 < 8 then σ 12 0 + 1 else 0)) 1 (if σ 12 1 < 8 then σ 12 1 + 1 else σ 12 1))) i1 (((σ 0 74) - 1) - i1) (show 0 ≤ i1 ∧ i1 < 16 from by omega) (show 0 ≤ (((σ 0 74) - 1) - i1) ∧ (((σ 0 74) - 1) - i1) < 16 from by omega)) (cwV 2 hts gX4_reverse_X2_exchange rfl rfl rfl (by decide +kernel) ⟨Nat.le_of_ble_eq_true rfl, Nat.le_of_ble_eq_true rfl⟩) hK hP hD hS (fun _ h => h) 3 2 rfl rfl rfl rfl hl.1 (Nat.le_of_ble_eq_true rfl) dX4_reverse_42 ⟨Nat.zero_le _, Nat.zero_le _⟩ (fun u_42 H locs hw_42 hP hD hS hz_42 hk_42 => ?_)
        obtain rfl := hw_42
        have hP : va_P G vwCl (wx cx a (sc (sc (sc σ 0 (spx (w1) i1 (((σ 0 74) - 1) - i1))) 1 (cpi (σ 1) (σ 0) (107 * (if σ 12 0 + 1 < 8 then σ 12 0 + 1 else 0)))) 12 (ups (ups (σ 12) 0 (if σ 12 0 + 1 < 8 then σ 12 0 + 1 else 0)) 1 (if σ 12 1 < 8 then σ 12 1 + 1 else σ 12 1)))) H := hP
        have hD : va_D (XA a) (wx cx a (sc (sc (sc σ 0 (spx (w1) i1 (((σ 0 74) - 1) - i1))) 1 (cpi (σ 1) (σ 0) (107 * (if σ 12 0 + 1 < 8 then σ 12 0 + 1 else 0)))) 12 (ups (ups (σ 12) 0 (if σ 12 0 + 1 < 8 then σ 12 0 + 1 else 0)) 1 (if σ 12 1 < 8 then σ 12 1 + 1 else σ 12 1)))) := hD
        refine lv_iinc (v := iI (i1 + 1)) (lv' := [(1, .int (iI (i1 + 1))), (0, .ref (a 0))]) hex hbc dX4_reverse_45 hl (k := 0) rfl (iI_add _ _) (by decide) rfl (fun ls hl => ?_)
        refine lv_goto (tgt := 13) hex hbc dX4_reverse_48 (by decide) ?_
        exact ih_13 (i1 + 1) (spx (w1) i1 (((σ 0 74) - 1) - i1)) ⟨by omega, by omega, fun k => by show spx w1 i1 _ k = _; unfold spx ups; simp only [hw]; (repeat' split) <;> first | omega | exact congrArg _ (by omega)⟩ (by omega) _ _ _ hP hD hS (lv_sub hl [0, 1] rfl)
  exact loop_13 _ 0 (σ 0) ⟨by omega, by omega, fun k => (if_neg (by omega)).symm⟩ (mz_lt _) _ _ _ hP hD hS (lv_sub hl [0, 1] rfl)
theorem iX4_undo_X1 : ∀ w ∈ wsX10, w ∈ wsX4_undo := fun _ h => List.mem_cons_of_mem _ (List.mem_append_left _ (List.mem_append_right _ h))
theorem iX4_undo_X4 : ∀ w ∈ wsX40, w ∈ wsX4_undo := fun _ h => List.mem_cons_of_mem _ (List.mem_append_left _ (List.mem_append_left _ (List.mem_append_right _ h)))
set_option maxHeartbeats 4000000 in
set_option maxRecDepth 100000 in
theorem mX4_undo (l : Launch) (G : va_G) (cx a : Nat → Nat) (σ : Nat → Int → Int)   (hHs : (0 ≤ σ 12 0 ∧ σ 12 0 ≤ 7) ∧ (0 ≤ σ 12 1 ∧ σ 12 1 ≤ 8)) (hI : Inv (σ 0)) : Met l yX4_undo wsX4_undo ({ frames := 3, cells := 0, slots := 0, locals := 102 }) (va_Pc [.ref (a 0)] (gW G (tx cx) (XA a) (wx cx a) σ)) (va_Qi (fun r u => (σ 12 1 = 0 → iI (-2) = r ∧ XQ_ σ u) ∧ (σ 12 1 ≠ 0 → iI (σ 12 1 - 1) = r ∧ u 0 = cpo (σ 0) (σ 1) (107 * σ 12 0) ∧ u 1 = σ 1 ∧ u 12 0 = (if 0 < σ 12 0 then σ 12 0 - 1 else 7) ∧ u 12 1 = σ 12 1 - 1 ∧ u 9 = σ 9 ∧ u 11 = σ 11)) (gW G (tx cx) (XA a) (wx cx a)) (XA a)) 0 0 (XA a) := by
  refine Met.ofW (cc := cX4_undo) (maxL := 1) (ret := some .int) (by decide) rfl ?_
  intro p e s m args below meth c s₁ B hml hv
  obtain ⟨rfl, hP, hK, hD⟩ := hv
  have hex := B.exec
  have hbc := B.bytes
  have hrt := B.returns
  have hts := atoms_spec (ws := wsX4_undo) B.pre
  have hown : s.vm.findClass RX4 = some m.cls := findClass_of_methodNamed B.named
  have hlocks := B.notSynchronized
  have hS : va_S (XA a) s.heap s.heap [] := va_S.rf
  have hin1 := iX4_undo_X1
  have hin4 := iX4_undo_X4
  have hl := lv_entry ([.ref (a 0)]) (n := 1) (Nat.le_of_ble_eq_true rfl)
  rw [lg_entry_eq]
  generalize (lg_sl ([.ref (a 0)]) ++ List.replicate (1 - (lg_sl ([.ref (a 0)])).length) Slot.unset).toArray = ls at hl ⊢
  have hl : lv_has ls 1 [(0, .ref (a 0))] := hl
  obtain ⟨hB, hEn, hMk, hAs, hPm⟩ := id hI
  refine lv_aload_n hex hbc dX4_undo_0 rfl (lv_at hl 0 rfl) ?_
  refine va_get (v := .ref (a 17)) hex hbc hts hin4 hown hK hP 0 rfl rfl 3 (by decide) (hts _ (List.mem_of_getElem? (i := 1) rfl)) (fun _ h => h) rfl dX4_undo_1 ?_
  refine va_get (v := .int (iI (σ 12 1))) hex hbc hts hin1 hown hK hP 17 rfl rfl 2 (by decide) (hts _ (List.mem_of_getElem? (i := 2) rfl)) (fun _ h => h) rfl dX4_undo_4 ?_
  refine zt_if_ne (a := (σ 12 1)) (tgt := 13) hex hbc (by omega) dX4_undo_7 (by decide) (fun c7 => ?_) (fun c7 => ?_)
  · skip
    refine lv_aload_n hex hbc dX4_undo_13 rfl (lv_at hl 0 rfl) ?_
    refine va_get (v := .ref (a 17)) hex hbc hts hin4 hown hK hP 0 rfl rfl 3 (by decide) (hts _ (List.mem_of_getElem? (i := 1) rfl)) (fun _ h => h) rfl dX4_undo_14 ?_
    refine lv_aload_n hex hbc dX4_undo_17 rfl (lv_at hl 0 rfl) ?_
    refine va_get (v := .ref (a 3)) hex hbc hts hin4 hown hK hP 0 rfl rfl 0 (by decide) (hts _ (List.mem_of_getElem? (i := 3) rfl)) (fun _ h => h) rfl dX4_undo_18 ?_
    refine g_callv [.ref (a 3)] ⟨hex, hbc, hml, hown, hts⟩ (mX1_pop l G cx a σ  hHs) (cwV 1 hts gX4_undo_X1_pop rfl rfl rfl (by decide +kernel) ⟨Nat.le_of_ble_eq_true rfl, Nat.le_of_ble_eq_true rfl⟩) hK hP hD hS (fun _ h => h) 17 1 rfl rfl rfl rfl hl.1 (Nat.le_of_ble_eq_true rfl) dX4_undo_21 ⟨Nat.zero_le _, Nat.zero_le _⟩ (fun u_21 H locs hw_21 hP hD hS hz_21 hk_21 => ?_)
    obtain rfl := hw_21
    have hP : va_P G vwCl (wx cx a (sc (sc σ 0 (cpo (σ 0) (σ 1) (107 * σ 12 0))) 12 (ups (ups (σ 12) 0 (if 0 < σ 12 0 then σ 12 0 - 1 else 7)) 1 (σ 12 1 - 1)))) H := hP
    have hD : va_D (XA a) (wx cx a (sc (sc σ 0 (cpo (σ 0) (σ 1) (107 * σ 12 0))) 12 (ups (ups (σ 12) 0 (if 0 < σ 12 0 then σ 12 0 - 1 else 7)) 1 (σ 12 1 - 1)))) := hD
    refine lv_aload_n hex hbc dX4_undo_24 rfl (lv_at hl 0 rfl) ?_
    refine va_get (v := .ref (a 17)) hex hbc hts hin4 hown hK hP 0 rfl rfl 3 (by decide) (hts _ (List.mem_of_getElem? (i := 1) rfl)) (fun _ h => h) rfl dX4_undo_25 ?_
    refine va_get (v := .int (iI ((ups (ups (σ 12) 0 (if 0 < σ 12 0 then σ 12 0 - 1 else 7)) 1 (σ 12 1 - 1)) 1))) hex hbc hts hin1 hown hK hP 17 rfl rfl 2 (by decide) (hts _ (List.mem_of_getElem? (i := 2) rfl)) (fun _ h => h) rfl dX4_undo_28 ?_
    refine zt_nm (a := ((ups (ups (σ 12) 0 (if 0 < σ 12 0 then σ 12 0 - 1 else 7)) 1 (σ 12 1 - 1)) 1)) (b := (σ 12 1 - 1)) pu_1 ?_
    exact g_iret hex hbc hrt hlocks hK hP hD hS ⟨fun h => absurd h c7, fun _ => ⟨rfl, rfl, rfl, (show ups (ups (σ 12) 0 (if 0 < σ 12 0 then σ 12 0 - 1 else 7)) 1 (σ 12 1 - 1) 0 = _ from pu_0), (show ups (ups (σ 12) 0 (if 0 < σ 12 0 then σ 12 0 - 1 else 7)) 1 (σ 12 1 - 1) 1 = _ from pu_1), rfl, rfl⟩⟩ dX4_undo_31
  · skip
    refine lv_bipush (v := iI (-2)) hex hbc dX4_undo_10 (by decide) ?_
    exact g_iret hex hbc hrt hlocks hK hP hD hS ⟨fun _ => ⟨rfl, ⟨rfl, rfl, rfl, rfl, rfl, rfl⟩⟩, fun h => absurd c7 h⟩ dX4_undo_12
theorem iX4_setting_X2 : ∀ w ∈ wsX20, w ∈ wsX4_setting := fun _ h => List.mem_cons_of_mem _ (List.mem_append_right _ h)
theorem iX4_setting_X4 : ∀ w ∈ wsX40, w ∈ wsX4_setting := fun _ h => List.mem_cons_of_mem _ (List.mem_append_left _ (List.mem_append_right _ h))
set_option maxHeartbeats 4000000 in
set_option maxRecDepth 100000 in
theorem mX4_setting (l : Launch) (G : va_G) (cx a : Nat → Nat) (σ : Nat → Int → Int)  (x : Int) (hx : -2147483648 ≤ x ∧ x < 2147483648) (hI : Inv (σ 0)) : Met l yX4_setting wsX4_setting ({ frames := 1, cells := 0, slots := 0, locals := 20 }) (va_Pc [.ref (a 0), .int (iI x)] (gW G (tx cx) (XA a) (wx cx a) σ)) (va_Qi (fun r u => ((0 ≤ x ∧ x ≤ 8) → iI (σ 0 (1 + x)) = r) ∧ (¬ (0 ≤ x ∧ x ≤ 8) → iI (-1) = r) ∧ XQ_ σ u) (gW G (tx cx) (XA a) (wx cx a)) (XA a)) 0 0 (XA a) := by
  refine Met.ofW (cc := cX4_setting) (maxL := 2) (ret := some .int) (by decide) rfl ?_
  intro p e s m args below meth c s₁ B hml hv
  obtain ⟨rfl, hP, hK, hD⟩ := hv
  have hex := B.exec
  have hbc := B.bytes
  have hrt := B.returns
  have hts := atoms_spec (ws := wsX4_setting) B.pre
  have hown : s.vm.findClass RX4 = some m.cls := findClass_of_methodNamed B.named
  have hlocks := B.notSynchronized
  have hS : va_S (XA a) s.heap s.heap [] := va_S.rf
  have hin2 := iX4_setting_X2
  have hin4 := iX4_setting_X4
  have hl := lv_entry ([.ref (a 0), .int (iI x)]) (n := 2) (Nat.le_of_ble_eq_true rfl)
  rw [lg_entry_eq]
  generalize (lg_sl ([.ref (a 0), .int (iI x)]) ++ List.replicate (2 - (lg_sl ([.ref (a 0), .int (iI x)])).length) Slot.unset).toArray = ls at hl ⊢
  have hl : lv_has ls 2 [(0, .ref (a 0)), (1, .int (iI x))] := hl
  obtain ⟨hB, hEn, hMk, hAs, hPm⟩ := id hI
  refine lv_iload_n hex hbc dX4_setting_0 rfl (lv_at hl 1 rfl) ?_
  refine g_callS [.int (iI x)] ⟨hex, hbc, hml, hown, hts⟩ (mX4_isSetting l x (by omega)) (va_cwS 1 hts gX4_setting_X4_isSetting rfl rfl rfl (by decide +kernel) ⟨Nat.le_of_ble_eq_true rfl, Nat.le_of_ble_eq_true rfl⟩) hP hS rfl rfl hl.1 (Nat.le_of_ble_eq_true rfl) dX4_setting_1 ⟨Nat.zero_le _, Nat.zero_le _⟩ (fun r_1 H locs hw_1 hP hS => ?_)
  obtain ⟨vb1, rfl, hv1⟩ := hw_1
  refine zt_ifb_eq (P := (0 ≤ x ∧ x ≤ 8)) (tgt := 19) hex hbc hv1 dX4_setting_4 (by decide) (fun c4 => ?_) (fun c4 => ?_)
  · skip
    refine lv_iconst (v := iI (-1)) hex hbc dX4_setting_19 rfl ?_
    exact g_iret hex hbc hrt hlocks hK hP hD hS ⟨fun h => absurd h c4, fun _ => rfl, ⟨rfl, rfl, rfl, rfl, rfl, rfl⟩⟩ dX4_setting_20
  · skip
    refine lv_aload_n hex hbc dX4_setting_7 rfl (lv_at hl 0 rfl) ?_
    refine va_get (v := .ref (a 3)) hex hbc hts hin4 hown hK hP 0 rfl rfl 0 (by decide) (hts _ (List.mem_of_getElem? (i := 1) rfl)) (fun _ h => h) rfl dX4_setting_8 ?_
    refine va_get (v := .ref (a 5)) hex hbc hts hin2 hown hK hP 3 rfl rfl 3 (by decide) (hts _ (List.mem_of_getElem? (i := 2) rfl)) (fun _ h => h) rfl dX4_setting_11 ?_
    refine lv_iload_n hex hbc dX4_setting_14 rfl (lv_at hl 1 rfl) ?_
    refine g_iald (f := (fun k => (σ 0 (1 + k)))) (v := (σ 0 (1 + x))) (i := x) hex hbc hK hP 5 0 rfl rfl (by decide) (by omega) rfl dX4_setting_15 ?_
    refine lv_goto (tgt := 20) hex hbc dX4_setting_16 (by decide) ?_
    exact g_iret hex hbc hrt hlocks hK hP hD hS ⟨fun _ => rfl, fun h => absurd c4 h, ⟨rfl, rfl, rfl, rfl, rfl, rfl⟩⟩ dX4_setting_20
theorem iX4_energy_X2 : ∀ w ∈ wsX20, w ∈ wsX4_energy := fun _ h => List.mem_cons_of_mem _ (List.mem_append_right _ h)
theorem iX4_energy_X4 : ∀ w ∈ wsX40, w ∈ wsX4_energy := fun _ h => List.mem_cons_of_mem _ (List.mem_append_left _ (List.mem_append_right _ h))
set_option maxHeartbeats 4000000 in
set_option maxRecDepth 100000 in
theorem mX4_energy (l : Launch) (G : va_G) (cx a : Nat → Nat) (σ : Nat → Int → Int)  (x : Int) (hx : -2147483648 ≤ x ∧ x < 2147483648) (hI : Inv (σ 0)) : Met l yX4_energy wsX4_energy ({ frames := 1, cells := 0, slots := 0, locals := 21 }) (va_Pc [.ref (a 0), .int (iI x)] (gW G (tx cx) (XA a) (wx cx a) σ)) (va_Qi (fun r u => ((0 ≤ x ∧ x < σ 0 0) → iI (σ 0 (10 + x)) = r) ∧ (¬ (0 ≤ x ∧ x < σ 0 0) → iI (-1) = r) ∧ XQ_ σ u) (gW G (tx cx) (XA a) (wx cx a)) (XA a)) 0 0 (XA a) := by
  refine Met.ofW (cc := cX4_energy) (maxL := 2) (ret := some .int) (by decide) rfl ?_
  intro p e s m args below meth c s₁ B hml hv
  obtain ⟨rfl, hP, hK, hD⟩ := hv
  have hex := B.exec
  have hbc := B.bytes
  have hrt := B.returns
  have hts := atoms_spec (ws := wsX4_energy) B.pre
  have hown : s.vm.findClass RX4 = some m.cls := findClass_of_methodNamed B.named
  have hlocks := B.notSynchronized
  have hS : va_S (XA a) s.heap s.heap [] := va_S.rf
  have hin2 := iX4_energy_X2
  have hin4 := iX4_energy_X4
  have hl := lv_entry ([.ref (a 0), .int (iI x)]) (n := 2) (Nat.le_of_ble_eq_true rfl)
  rw [lg_entry_eq]
  generalize (lg_sl ([.ref (a 0), .int (iI x)]) ++ List.replicate (2 - (lg_sl ([.ref (a 0), .int (iI x)])).length) Slot.unset).toArray = ls at hl ⊢
  have hl : lv_has ls 2 [(0, .ref (a 0)), (1, .int (iI x))] := hl
  obtain ⟨hB, hEn, hMk, hAs, hPm⟩ := id hI
  refine lv_aload_n hex hbc dX4_energy_0 rfl (lv_at hl 0 rfl) ?_
  refine va_get (v := .ref (a 3)) hex hbc hts hin4 hown hK hP 0 rfl rfl 0 (by decide) (hts _ (List.mem_of_getElem? (i := 1) rfl)) (fun _ h => h) rfl dX4_energy_1 ?_
  refine lv_iload_n hex hbc dX4_energy_4 rfl (lv_at hl 1 rfl) ?_
  refine g_calli [.int (iI x)] ⟨hex, hbc, hml, hown, hts⟩ (mX2_isFrame l G cx a σ x (by omega) hI) (cwV 1 hts gX4_energy_X2_isFrame rfl rfl rfl (by decide +kernel) ⟨Nat.le_of_ble_eq_true rfl, Nat.le_of_ble_eq_true rfl⟩) hK hP hD hS (fun _ h => h) 3 2 rfl rfl rfl rfl hl.1 (Nat.le_of_ble_eq_true rfl) dX4_energy_5 ⟨Nat.zero_le _, Nat.zero_le _⟩ (fun r_5 u_5 H locs hw_5 hP hD hS hz_5 hk_5 => ?_)
  obtain ⟨rfl, vb5, rfl, hv5⟩ := hw_5
  refine zt_ifb_eq (P := (0 ≤ x ∧ x < σ 0 0)) (tgt := 23) hex hbc hv5 dX4_energy_8 (by decide) (fun c8 => ?_) (fun c8 => ?_)
  · skip
    refine lv_iconst (v := iI (-1)) hex hbc dX4_energy_23 rfl ?_
    exact g_iret hex hbc hrt hlocks hK hP hD hS ⟨fun h => absurd h c8, fun _ => rfl, ⟨rfl, rfl, rfl, rfl, rfl, rfl⟩⟩ dX4_energy_24
  · skip
    refine lv_aload_n hex hbc dX4_energy_11 rfl (lv_at hl 0 rfl) ?_
    refine va_get (v := .ref (a 3)) hex hbc hts hin4 hown hK hP 0 rfl rfl 0 (by decide) (hts _ (List.mem_of_getElem? (i := 1) rfl)) (fun _ h => h) rfl dX4_energy_12 ?_
    refine va_get (v := .ref (a 4)) hex hbc hts hin2 hown hK hP 3 rfl rfl 2 (by decide) (hts _ (List.mem_of_getElem? (i := 2) rfl)) (fun _ h => h) rfl dX4_energy_15 ?_
    refine lv_iload_n hex hbc dX4_energy_18 rfl (lv_at hl 1 rfl) ?_
    refine g_iald (f := (fun k => (σ 0 (10 + k)))) (v := (σ 0 (10 + x))) (i := x) hex hbc hK hP 4 0 rfl rfl (by decide) (by omega) rfl dX4_energy_19 ?_
    refine lv_goto (tgt := 24) hex hbc dX4_energy_20 (by decide) ?_
    exact g_iret hex hbc hrt hlocks hK hP hD hS ⟨fun _ => rfl, fun h => absurd c8 h, ⟨rfl, rfl, rfl, rfl, rfl, rfl⟩⟩ dX4_energy_24
theorem iX4_order_X2 : ∀ w ∈ wsX20, w ∈ wsX4_order := fun _ h => List.mem_cons_of_mem _ (List.mem_append_right _ h)
theorem iX4_order_X4 : ∀ w ∈ wsX40, w ∈ wsX4_order := fun _ h => List.mem_cons_of_mem _ (List.mem_append_left _ (List.mem_append_right _ h))
set_option maxHeartbeats 4000000 in
set_option maxRecDepth 100000 in
theorem mX4_order (l : Launch) (G : va_G) (cx a : Nat → Nat) (σ : Nat → Int → Int)  (x : Int) (hx : -2147483648 ≤ x ∧ x < 2147483648) (hI : Inv (σ 0)) : Met l yX4_order wsX4_order ({ frames := 1, cells := 0, slots := 0, locals := 21 }) (va_Pc [.ref (a 0), .int (iI x)] (gW G (tx cx) (XA a) (wx cx a) σ)) (va_Qi (fun r u => ((0 ≤ x ∧ x < σ 0 74) → iI (σ 0 (91 + x)) = r) ∧ (¬ (0 ≤ x ∧ x < σ 0 74) → iI (-1) = r) ∧ XQ_ σ u) (gW G (tx cx) (XA a) (wx cx a)) (XA a)) 0 0 (XA a) := by
  refine Met.ofW (cc := cX4_order) (maxL := 2) (ret := some .int) (by decide) rfl ?_
  intro p e s m args below meth c s₁ B hml hv
  obtain ⟨rfl, hP, hK, hD⟩ := hv
  have hex := B.exec
  have hbc := B.bytes
  have hrt := B.returns
  have hts := atoms_spec (ws := wsX4_order) B.pre
  have hown : s.vm.findClass RX4 = some m.cls := findClass_of_methodNamed B.named
  have hlocks := B.notSynchronized
  have hS : va_S (XA a) s.heap s.heap [] := va_S.rf
  have hin2 := iX4_order_X2
  have hin4 := iX4_order_X4
  have hl := lv_entry ([.ref (a 0), .int (iI x)]) (n := 2) (Nat.le_of_ble_eq_true rfl)
  rw [lg_entry_eq]
  generalize (lg_sl ([.ref (a 0), .int (iI x)]) ++ List.replicate (2 - (lg_sl ([.ref (a 0), .int (iI x)])).length) Slot.unset).toArray = ls at hl ⊢
  have hl : lv_has ls 2 [(0, .ref (a 0)), (1, .int (iI x))] := hl
  obtain ⟨hB, hEn, hMk, hAs, hPm⟩ := id hI
  refine lv_aload_n hex hbc dX4_order_0 rfl (lv_at hl 0 rfl) ?_
  refine va_get (v := .ref (a 3)) hex hbc hts hin4 hown hK hP 0 rfl rfl 0 (by decide) (hts _ (List.mem_of_getElem? (i := 1) rfl)) (fun _ h => h) rfl dX4_order_1 ?_
  refine lv_iload_n hex hbc dX4_order_4 rfl (lv_at hl 1 rfl) ?_
  refine g_calli [.int (iI x)] ⟨hex, hbc, hml, hown, hts⟩ (mX2_isSlice l G cx a σ x (by omega) hI) (cwV 1 hts gX4_order_X2_isSlice rfl rfl rfl (by decide +kernel) ⟨Nat.le_of_ble_eq_true rfl, Nat.le_of_ble_eq_true rfl⟩) hK hP hD hS (fun _ h => h) 3 2 rfl rfl rfl rfl hl.1 (Nat.le_of_ble_eq_true rfl) dX4_order_5 ⟨Nat.zero_le _, Nat.zero_le _⟩ (fun r_5 u_5 H locs hw_5 hP hD hS hz_5 hk_5 => ?_)
  obtain ⟨rfl, vb5, rfl, hv5⟩ := hw_5
  refine zt_ifb_eq (P := (0 ≤ x ∧ x < σ 0 74)) (tgt := 23) hex hbc hv5 dX4_order_8 (by decide) (fun c8 => ?_) (fun c8 => ?_)
  · skip
    refine lv_iconst (v := iI (-1)) hex hbc dX4_order_23 rfl ?_
    exact g_iret hex hbc hrt hlocks hK hP hD hS ⟨fun h => absurd h c8, fun _ => rfl, ⟨rfl, rfl, rfl, rfl, rfl, rfl⟩⟩ dX4_order_24
  · skip
    refine lv_aload_n hex hbc dX4_order_11 rfl (lv_at hl 0 rfl) ?_
    refine va_get (v := .ref (a 3)) hex hbc hts hin4 hown hK hP 0 rfl rfl 0 (by decide) (hts _ (List.mem_of_getElem? (i := 1) rfl)) (fun _ h => h) rfl dX4_order_12 ?_
    refine va_get (v := .ref (a 7)) hex hbc hts hin2 hown hK hP 3 rfl rfl 5 (by decide) (hts _ (List.mem_of_getElem? (i := 2) rfl)) (fun _ h => h) rfl dX4_order_15 ?_
    refine lv_iload_n hex hbc dX4_order_18 rfl (lv_at hl 1 rfl) ?_
    refine g_iald (f := (fun k => (σ 0 (91 + k)))) (v := (σ 0 (91 + x))) (i := x) hex hbc hK hP 7 0 rfl rfl (by decide) (by omega) rfl dX4_order_19 ?_
    refine lv_goto (tgt := 24) hex hbc dX4_order_20 (by decide) ?_
    exact g_iret hex hbc hrt hlocks hK hP hD hS ⟨fun _ => rfl, fun h => absurd c8 h, ⟨rfl, rfl, rfl, rfl, rfl, rfl⟩⟩ dX4_order_24
