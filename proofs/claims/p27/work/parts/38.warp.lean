/-! how much a slice is warped (rows laid by wip/gen) -/
theorem iX4_warp_X3 : ∀ w ∈ wsX30, w ∈ wsX4_warp := fun _ h => List.mem_cons_of_mem _ (List.mem_append_left _ (List.mem_append_left _ (List.mem_append_right _ h)))
theorem iX4_warp_X4 : ∀ w ∈ wsX40, w ∈ wsX4_warp := fun _ h => List.mem_cons_of_mem _ (List.mem_append_left _ (List.mem_append_left _ (List.mem_append_left _ (List.mem_append_right _ h))))
set_option maxHeartbeats 4000000 in
set_option maxRecDepth 100000 in
theorem mX4_warp (l : Launch) (G : va_G) (cx a : Nat → Nat) (σ : Nat → Int → Int)  (x : Int) (hx : -2147483648 ≤ x ∧ x < 2147483648) (hI : Inv (σ 0)) : Met l yX4_warp wsX4_warp ({ frames := 6, cells := 0, slots := 0, locals := 150 }) (va_Pc [.ref (a 0), .int (iI x)] (gW G (tx cx) (XA a) (wx cx a) σ)) (va_Qf (fun r u => WV_ (σ 0) x r ∧ XQ_ σ u) (gW G (tx cx) (XA a) (wx cx a)) (XA a)) 0 0 (XA a) := by
  refine Met.ofW (cc := cX4_warp) (maxL := 2) (ret := some .float) (by decide) rfl ?_
  intro p e s m args below meth c s₁ B hml hv
  obtain ⟨rfl, hP, hK, hD⟩ := hv
  have hex := B.exec
  have hbc := B.bytes
  have hrt := B.returns
  have hts := atoms_spec (ws := wsX4_warp) B.pre
  have hown : s.vm.findClass RX4 = some m.cls := findClass_of_methodNamed B.named
  have hlocks := B.notSynchronized
  have hS : va_S (XA a) s.heap s.heap [] := va_S.rf
  have hin3 := iX4_warp_X3
  have hin4 := iX4_warp_X4
  have hl := lv_entry ([.ref (a 0), .int (iI x)]) (n := 2) (Nat.le_of_ble_eq_true rfl)
  rw [lg_entry_eq]
  generalize (lg_sl ([.ref (a 0), .int (iI x)]) ++ List.replicate (2 - (lg_sl ([.ref (a 0), .int (iI x)])).length) Slot.unset).toArray = ls at hl ⊢
  have hl : lv_has ls 2 [(0, .ref (a 0)), (1, .int (iI x))] := hl
  obtain ⟨hB, hEn, hMk, hAs, hPm⟩ := id hI
  refine lv_aload_n hex hbc dX4_warp_0 rfl (lv_at hl 0 rfl) ?_
  refine va_get (v := .ref (a 3)) hex hbc hts hin4 hown hK hP 0 rfl rfl 0 (by decide) (hts _ (List.mem_of_getElem? (i := 1) rfl)) (fun _ h => h) rfl dX4_warp_1 ?_
  refine lv_iload_n hex hbc dX4_warp_4 rfl (lv_at hl 1 rfl) ?_
  refine g_calli [.int (iI x)] ⟨hex, hbc, hml, hown, hts⟩ (mX2_isSlice l G cx a σ x (by omega) hI) (cwV 1 hts gX4_warp_X2_isSlice rfl rfl rfl (by decide +kernel) ⟨Nat.le_of_ble_eq_true rfl, Nat.le_of_ble_eq_true rfl⟩) hK hP hD hS (fun _ h => h) 3 2 rfl rfl rfl rfl hl.1 (Nat.le_of_ble_eq_true rfl) dX4_warp_5 ⟨Nat.zero_le _, Nat.zero_le _⟩ (fun r_5 u_5 H locs hw_5 hP hD hS hz_5 hk_5 => ?_)
  obtain ⟨rfl, vb5, rfl, hv5⟩ := hw_5
  refine zt_ifb_ne (P := (0 ≤ x ∧ x < σ 0 74)) (tgt := 14) hex hbc hv5 dX4_warp_8 (by decide) (fun c8 => ?_) (fun c8 => ?_)
  · skip
    refine lv_aload_n hex hbc dX4_warp_14 rfl (lv_at hl 0 rfl) ?_
    refine va_get (v := .ref (a 14)) hex hbc hts hin4 hown hK hP 0 rfl rfl 2 (by decide) (hts _ (List.mem_of_getElem? (i := 3) rfl)) (fun _ h => h) rfl dX4_warp_15 ?_
    refine g_calli [] ⟨hex, hbc, hml, hown, hts⟩ (mX3_lay l G cx a σ  hI) (cwV 0 hts gX4_warp_X3_lay rfl rfl rfl (by decide +kernel) ⟨Nat.le_of_ble_eq_true rfl, Nat.le_of_ble_eq_true rfl⟩) hK hP hD hS (fun _ h => h) 14 3 rfl rfl rfl rfl hl.1 (Nat.le_of_ble_eq_true rfl) dX4_warp_18 ⟨Nat.zero_le _, Nat.zero_le _⟩ (fun r_18 u_18 H locs hw_18 hP hD hS hz_18 hk_18 => ?_)
    obtain ⟨⟨vb18, rfl, hv18⟩, f14_18, f15_18, f16_18, f17_18, f18_18, f19_18, f20_18, f21_18, hbu_18, hst_18, rfl⟩ := hw_18
    have hP : va_P G vwCl (wx cx a (sc (sc (sc (sc (sc (sc (sc (sc σ 14 f14_18) 15 f15_18) 16 f16_18) 17 f17_18) 18 f18_18) 19 f19_18) 20 f20_18) 21 f21_18)) H := hP
    have hD : va_D (XA a) (wx cx a (sc (sc (sc (sc (sc (sc (sc (sc σ 14 f14_18) 15 f15_18) 16 f16_18) 17 f17_18) 18 f18_18) 19 f19_18) 20 f20_18) 21 f21_18)) := hD
    refine zt_ifb_ne (P := (lay_ (σ 0))) (tgt := 27) hex hbc hv18 dX4_warp_21 (by decide) (fun c21 => ?_) (fun c21 => ?_)
    · skip
      refine lv_aload_n hex hbc dX4_warp_27 rfl (lv_at hl 0 rfl) ?_
      refine va_get (v := .ref (a 14)) hex hbc hts hin4 hown hK hP 0 rfl rfl 2 (by decide) (hts _ (List.mem_of_getElem? (i := 3) rfl)) (fun _ h => h) rfl dX4_warp_28 ?_
      refine va_get (v := .ref (a 15)) hex hbc hts hin3 hown hK hP 14 rfl rfl 2 (by decide) (hts _ (List.mem_of_getElem? (i := 5) rfl)) (fun _ h => h) rfl dX4_warp_31 ?_
      refine lv_iload_n hex hbc dX4_warp_34 rfl (lv_at hl 1 rfl) ?_
      refine g_iald (f := f19_18) (v := (f19_18 x)) (i := x) hex hbc hK hP 15 0 rfl rfl (by decide) (by omega) rfl dX4_warp_35 ?_
      refine zt_nm (a := (f19_18 x)) (b := (bud (σ 0) x)) (hbu_18 c21 x c8.1 c8.2) ?_
      refine lv_i2f hex hbc dX4_warp_36 ?_
      refine lv_aload_n hex hbc dX4_warp_37 rfl (lv_at hl 0 rfl) ?_
      refine va_get (v := .ref (a 3)) hex hbc hts hin4 hown hK hP 0 rfl rfl 0 (by decide) (hts _ (List.mem_of_getElem? (i := 1) rfl)) (fun _ h => h) rfl dX4_warp_38 ?_
      refine lv_iload_n hex hbc dX4_warp_41 rfl (lv_at hl 1 rfl) ?_
      refine g_calli [.int (iI x)] ⟨hex, hbc, hml, hown, hts⟩ (mX2_lengthOf l G cx a (sc (sc (sc (sc (sc (sc (sc (sc σ 14 f14_18) 15 f15_18) 16 f16_18) 17 f17_18) 18 f18_18) 19 f19_18) 20 f20_18) 21 f21_18) x (show 0 ≤ x ∧ x < σ 0 74 from by omega) hI) (cwV 1 hts gX4_warp_X2_lengthOf rfl rfl rfl (by decide +kernel) ⟨Nat.le_of_ble_eq_true rfl, Nat.le_of_ble_eq_true rfl⟩) hK hP hD hS (fun _ h => h) 3 2 rfl rfl rfl rfl hl.1 (Nat.le_of_ble_eq_true rfl) dX4_warp_42 ⟨Nat.zero_le _, Nat.zero_le _⟩ (fun r_42 u_42 H locs hw_42 hP hD hS hz_42 hk_42 => ?_)
      obtain ⟨rfl, rfl⟩ := hw_42
      refine lv_i2f hex hbc dX4_warp_45 ?_
      have hln := hI.ln_in c8.1 c8.2
      refine lv_fdiv hex hbc dX4_warp_46 (wv_n (show 1 ≤ ln (σ 0) x ∧ ln (σ 0) x < 2147483648 from by omega)) ?_
      exact g_fret hex hbc hrt hlocks hK hP hD hS ⟨⟨fun h => absurd c8 h, fun _ => ⟨fun _ => rfl, fun h => absurd c21 h⟩⟩, ⟨rfl, rfl, rfl, rfl, rfl, rfl⟩⟩ dX4_warp_47
    · skip
      refine lv_ldcf (v := 3239051264) hex hbc hown (hts _ (List.mem_of_getElem? (i := 4) rfl)) dX4_warp_24 ?_
      exact g_fret hex hbc hrt hlocks hK hP hD hS ⟨⟨fun h => absurd c8 h, fun _ => ⟨fun h => absurd h c21, fun _ => rfl⟩⟩, ⟨rfl, rfl, rfl, rfl, rfl, rfl⟩⟩ dX4_warp_26
  · skip
    refine lv_ldcf (v := 3212836864) hex hbc hown (hts _ (List.mem_of_getElem? (i := 2) rfl)) dX4_warp_11 ?_
    exact g_fret hex hbc hrt hlocks hK hP hD hS ⟨⟨fun _ => rfl, fun h => absurd h c8⟩, ⟨rfl, rfl, rfl, rfl, rfl, rfl⟩⟩ dX4_warp_13
