/-! the program: a setting is changed (rows laid by wip/gen) -/
theorem iX4_set_X2 : ∀ w ∈ wsX20, w ∈ wsX4_set := fun _ h => List.mem_cons_of_mem _ (List.mem_append_left _ (List.mem_append_right _ h))
theorem iX4_set_X4 : ∀ w ∈ wsX40, w ∈ wsX4_set := fun _ h => List.mem_cons_of_mem _ (List.mem_append_left _ (List.mem_append_left _ (List.mem_append_right _ h)))
set_option maxHeartbeats 4000000 in
set_option maxRecDepth 100000 in
theorem mX4_set (l : Launch) (G : va_G) (cx a : Nat → Nat) (σ : Nat → Int → Int) (tl : Nat) (th : Nat) (x1 : Int) (x2 : Int) (h1 : -2147483648 ≤ x1 ∧ x1 < 2147483648) (h2 : -2147483648 ≤ x2 ∧ x2 < 2147483648) (hHs : (0 ≤ σ 12 0 ∧ σ 12 0 ≤ 7) ∧ (0 ≤ σ 12 1 ∧ σ 12 1 ≤ 8)) (hI : Inv (σ 0)) : Met l yX4_set wsX4_set ({ frames := 3, cells := 0, slots := 0, locals := 102 }) (va_Pc [.ref (a 0), .int (iI x1), .int (iI x2)] (fun U => gW G (tx cx) (XA a) (wx cx a) σ U ∧ st4 (XA a) tl th U)) (va_Qi (fun r u => ((okS x1 x2) → iI (σ 0 (1 + x1)) = r ∧ XC_ σ u (ups (σ 0) (1 + x1) x2)) ∧ (¬ (okS x1 x2) → iI (-1) = r ∧ XQ_ σ u)) (gW G (tx cx) (XA a) (wx cx a)) (XA a)) 0 0 (XA a) := by
  refine Met.ofW (cc := cX4_set) (maxL := 4) (ret := some .int) (by decide) rfl ?_
  intro p e s m args below meth c s₁ B hml hv
  obtain ⟨rfl, ⟨hP, hK, hD⟩, hZl, hTl, hZh, hTh⟩ := hv
  have hex := B.exec
  have hbc := B.bytes
  have hrt := B.returns
  have hts := atoms_spec (ws := wsX4_set) B.pre
  have hown : s.vm.findClass RX4 = some m.cls := findClass_of_methodNamed B.named
  have hlocks := B.notSynchronized
  have hS : va_S (XA a) s.heap s.heap [] := va_S.rf
  have hin2 := iX4_set_X2
  have hin4 := iX4_set_X4
  have hl := lv_entry ([.ref (a 0), .int (iI x1), .int (iI x2)]) (n := 4) (Nat.le_of_ble_eq_true rfl)
  rw [lg_entry_eq]
  generalize (lg_sl ([.ref (a 0), .int (iI x1), .int (iI x2)]) ++ List.replicate (4 - (lg_sl ([.ref (a 0), .int (iI x1), .int (iI x2)])).length) Slot.unset).toArray = ls at hl ⊢
  have hl : lv_has ls 4 [(0, .ref (a 0)), (1, .int (iI x1)), (2, .int (iI x2))] := hl
  obtain ⟨hB, hEn, hMk, hAs, hPm⟩ := id hI
  have hlo := lowS_in x1
  have hhi := highS_in x1
  refine lv_iload_n hex hbc dX4_set_0 rfl (lv_at hl 1 rfl) ?_
  refine g_callS [.int (iI x1)] ⟨hex, hbc, hml, hown, hts⟩ (mX4_isSetting l x1 (by omega)) (va_cwS 1 hts gX4_set_X4_isSetting rfl rfl rfl (by decide +kernel) ⟨Nat.le_of_ble_eq_true rfl, Nat.le_of_ble_eq_true rfl⟩) hP hS rfl rfl hl.1 (Nat.le_of_ble_eq_true rfl) dX4_set_1 ⟨Nat.zero_le _, Nat.zero_le _⟩ (fun r_1 H locs hw_1 hP hS => ?_)
  obtain ⟨vb1, rfl, hv1⟩ := hw_1
  refine zt_ifb_ne (P := (0 ≤ x1 ∧ x1 ≤ 8)) (tgt := 9) hex hbc hv1 dX4_set_4 (by decide) (fun c4 => ?_) (fun c4 => ?_)
  · skip
    refine lv_iload_n hex hbc dX4_set_9 rfl (lv_at hl 2 rfl) ?_
    refine va_gets (v := .ref tl) hex hbc hZl hS hown (hts _ (List.mem_of_getElem? (i := 1) rfl)) (fun _ h => h) dX4_set_10 ?_
    refine lv_iload_n hex hbc dX4_set_13 rfl (lv_at hl 1 rfl) ?_
    refine g_sald (v := (lowS x1)) (i := x1) hex hbc hTl hS (by decide) (by omega) rfl dX4_set_14 ?_
    refine zt_icmp_lt (a := x2) (b := (lowS x1)) (tgt := 27) hex hbc (by omega) dX4_set_15 (by decide) (fun c15 => ?_) (fun c15 => ?_)
    · skip
      refine lv_iconst (v := iI (-1)) hex hbc dX4_set_27 rfl ?_
      exact g_iret hex hbc hrt hlocks hK hP hD hS ⟨fun h => (by unfold okS at h; exfalso; omega), fun _ => ⟨rfl, ⟨rfl, rfl, rfl, rfl, rfl, rfl⟩⟩⟩ dX4_set_28
    · skip
      refine lv_iload_n hex hbc dX4_set_18 rfl (lv_at hl 2 rfl) ?_
      refine va_gets (v := .ref th) hex hbc hZh hS hown (hts _ (List.mem_of_getElem? (i := 2) rfl)) (fun _ h => h) dX4_set_19 ?_
      refine lv_iload_n hex hbc dX4_set_22 rfl (lv_at hl 1 rfl) ?_
      refine g_sald (v := (highS x1)) (i := x1) hex hbc hTh hS (by decide) (by omega) rfl dX4_set_23 ?_
      refine zt_icmp_le (a := x2) (b := (highS x1)) (tgt := 29) hex hbc (by omega) dX4_set_24 (by decide) (fun c24 => ?_) (fun c24 => ?_)
      · skip
        refine lv_aload_n hex hbc dX4_set_29 rfl (lv_at hl 0 rfl) ?_
        refine va_get (v := .ref (a 17)) hex hbc hts hin4 hown hK hP 0 rfl rfl 3 (by decide) (hts _ (List.mem_of_getElem? (i := 3) rfl)) (fun _ h => h) rfl dX4_set_30 ?_
        refine lv_aload_n hex hbc dX4_set_33 rfl (lv_at hl 0 rfl) ?_
        refine va_get (v := .ref (a 3)) hex hbc hts hin4 hown hK hP 0 rfl rfl 0 (by decide) (hts _ (List.mem_of_getElem? (i := 4) rfl)) (fun _ h => h) rfl dX4_set_34 ?_
        refine g_callv [.ref (a 3)] ⟨hex, hbc, hml, hown, hts⟩ (mX1_push l G cx a σ  hHs) (cwV 1 hts gX4_set_X1_push rfl rfl rfl (by decide +kernel) ⟨Nat.le_of_ble_eq_true rfl, Nat.le_of_ble_eq_true rfl⟩) hK hP hD hS (fun _ h => h) 17 1 rfl rfl rfl rfl hl.1 (Nat.le_of_ble_eq_true rfl) dX4_set_37 ⟨Nat.zero_le _, Nat.zero_le _⟩ (fun u_37 H locs hw_37 hP hD hS hz_37 hk_37 => ?_)
        obtain rfl := hw_37
        have hP : va_P G vwCl (wx cx a (sc (sc σ 1 (cpi (σ 1) (σ 0) (107 * (if σ 12 0 + 1 < 8 then σ 12 0 + 1 else 0)))) 12 (ups (ups (σ 12) 0 (if σ 12 0 + 1 < 8 then σ 12 0 + 1 else 0)) 1 (if σ 12 1 < 8 then σ 12 1 + 1 else σ 12 1)))) H := hP
        have hD : va_D (XA a) (wx cx a (sc (sc σ 1 (cpi (σ 1) (σ 0) (107 * (if σ 12 0 + 1 < 8 then σ 12 0 + 1 else 0)))) 12 (ups (ups (σ 12) 0 (if σ 12 0 + 1 < 8 then σ 12 0 + 1 else 0)) 1 (if σ 12 1 < 8 then σ 12 1 + 1 else σ 12 1)))) := hD
        refine lv_aload_n hex hbc dX4_set_40 rfl (lv_at hl 0 rfl) ?_
        refine va_get (v := .ref (a 3)) hex hbc hts hin4 hown hK hP 0 rfl rfl 0 (by decide) (hts _ (List.mem_of_getElem? (i := 4) rfl)) (fun _ h => h) rfl dX4_set_41 ?_
        refine va_get (v := .ref (a 5)) hex hbc hts hin2 hown hK hP 3 rfl rfl 3 (by decide) (hts _ (List.mem_of_getElem? (i := 5) rfl)) (fun _ h => h) rfl dX4_set_44 ?_
        refine lv_iload_n hex hbc dX4_set_47 rfl (lv_at hl 1 rfl) ?_
        refine g_iald (f := (fun k => (σ 0 (1 + k)))) (v := (σ 0 (1 + x1))) (i := x1) hex hbc hK hP 5 0 rfl rfl (by decide) (by omega) rfl dX4_set_48 ?_
        refine lv_istore_n (lv' := [(3, .int (iI (σ 0 (1 + x1)))), (0, .ref (a 0)), (1, .int (iI x1)), (2, .int (iI x2))]) hex hbc dX4_set_49 rfl hl (by decide) rfl (fun ls hl => ?_)
        refine lv_aload_n hex hbc dX4_set_50 rfl (lv_at hl 1 rfl) ?_
        refine va_get (v := .ref (a 3)) hex hbc hts hin4 hown hK hP 0 rfl rfl 0 (by decide) (hts _ (List.mem_of_getElem? (i := 4) rfl)) (fun _ h => h) rfl dX4_set_51 ?_
        refine va_get (v := .ref (a 5)) hex hbc hts hin2 hown hK hP 3 rfl rfl 3 (by decide) (hts _ (List.mem_of_getElem? (i := 5) rfl)) (fun _ h => h) rfl dX4_set_54 ?_
        refine lv_iload_n hex hbc dX4_set_57 rfl (lv_at hl 2 rfl) ?_
        refine lv_iload_n hex hbc dX4_set_58 rfl (lv_at hl 3 rfl) ?_
        have hi_59 : (0 : Int) ≤ x1 ∧ x1 < (9 : Int) := (by omega)
        refine g_iast (σ := (sc (sc σ 1 (cpi (σ 1) (σ 0) (107 * (if σ 12 0 + 1 < 8 then σ 12 0 + 1 else 0)))) 12 (ups (ups (σ 12) 0 (if σ 12 0 + 1 < 8 then σ 12 0 + 1 else 0)) 1 (if σ 12 1 < 8 then σ 12 1 + 1 else σ 12 1)))) (f := (fun k => (σ 0 (1 + k)))) (i := x1) (v := x2) (τ := st (sc (sc σ 1 (cpi (σ 1) (σ 0) (107 * (if σ 12 0 + 1 < 8 then σ 12 0 + 1 else 0)))) 12 (ups (ups (σ 12) 0 (if σ 12 0 + 1 < 8 then σ 12 0 + 1 else 0)) 1 (if σ 12 1 < 8 then σ 12 1 + 1 else σ 12 1))) 0 (1 + x1) x2) hex hbc hK hP hD hS 5 0 rfl rfl (by decide) hi_59 dX4_set_59 (wx_up_5 hi_59) (fun H locs hP hD hS => ?_)
        obtain ⟨f0_59, ef0_59⟩ : ∃ z : Int → Int, z = ups (σ 0) (1 + x1) x2 := ⟨_, rfl⟩
        have hP : va_P G vwCl (wx cx a (sc (sc (sc σ 0 f0_59) 1 (cpi (σ 1) (σ 0) (107 * (if σ 12 0 + 1 < 8 then σ 12 0 + 1 else 0)))) 12 (ups (ups (σ 12) 0 (if σ 12 0 + 1 < 8 then σ 12 0 + 1 else 0)) 1 (if σ 12 1 < 8 then σ 12 1 + 1 else σ 12 1)))) H := by rw [ef0_59]; exact hP
        have hD : va_D (XA a) (wx cx a (sc (sc (sc σ 0 f0_59) 1 (cpi (σ 1) (σ 0) (107 * (if σ 12 0 + 1 < 8 then σ 12 0 + 1 else 0)))) 12 (ups (ups (σ 12) 0 (if σ 12 0 + 1 < 8 then σ 12 0 + 1 else 0)) 1 (if σ 12 1 < 8 then σ 12 1 + 1 else σ 12 1)))) := by rw [ef0_59]; exact hD
        refine lv_iload_n hex hbc dX4_set_60 rfl (lv_at hl 0 rfl) ?_
        exact g_iret hex hbc hrt hlocks hK hP hD hS ⟨fun _ => ⟨rfl, ⟨ef0_59, rfl, (show ups (ups (σ 12) 0 (nxs (σ 12 0))) 1 (szs (σ 12 1)) 0 = nxs (σ 12 0) from pu_0), (show ups (ups (σ 12) 0 (nxs (σ 12 0))) 1 (szs (σ 12 1)) 1 = szs (σ 12 1) from pu_1), rfl, rfl⟩⟩, fun h => absurd ⟨c4.1, c4.2, by omega, by omega⟩ h⟩ dX4_set_61
      · skip
        refine lv_iconst (v := iI (-1)) hex hbc dX4_set_27 rfl ?_
        exact g_iret hex hbc hrt hlocks hK hP hD hS ⟨fun h => (by unfold okS at h; exfalso; omega), fun _ => ⟨rfl, ⟨rfl, rfl, rfl, rfl, rfl, rfl⟩⟩⟩ dX4_set_28
  · skip
    refine lv_iconst (v := iI (-1)) hex hbc dX4_set_7 rfl ?_
    exact g_iret hex hbc hrt hlocks hK hP hD hS ⟨fun h => absurd ⟨h.1, h.2.1⟩ c4, fun _ => ⟨rfl, ⟨rfl, rfl, rfl, rfl, rfl, rfl⟩⟩⟩ dX4_set_8
