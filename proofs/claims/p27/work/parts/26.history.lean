/-! the program: its history (rows laid by wip/gen) -/
theorem iX1_push_X1 : ∀ w ∈ wsX10, w ∈ wsX1_push := fun _ h => List.mem_cons_of_mem _ (List.mem_append_left _ (List.mem_append_right _ h))
set_option maxHeartbeats 4000000 in
set_option maxRecDepth 100000 in
theorem mX1_push (l : Launch) (G : va_G) (cx a : Nat → Nat) (σ : Nat → Int → Int)   (hHs : (0 ≤ σ 12 0 ∧ σ 12 0 ≤ 7) ∧ (0 ≤ σ 12 1 ∧ σ 12 1 ≤ 8)) : Met l yX1_push wsX1_push ({ frames := 2, cells := 0, slots := 0, locals := 81 }) (va_Pc [.ref (a 17), .ref (a 3)] (gW G (tx cx) (XA a) (wx cx a) σ)) (va_Qv (fun u => sc (sc σ 1 (cpi (σ 1) (σ 0) (107 * (if σ 12 0 + 1 < 8 then σ 12 0 + 1 else 0)))) 12 (ups (ups (σ 12) 0 (if σ 12 0 + 1 < 8 then σ 12 0 + 1 else 0)) 1 (if σ 12 1 < 8 then σ 12 1 + 1 else σ 12 1)) = u) (gW G (tx cx) (XA a) (wx cx a)) (XA a)) 0 0 (XA a) := by
  refine Met.ofW (cc := cX1_push) (maxL := 2) (ret := none) (by decide) rfl ?_
  intro p e s m args below meth c s₁ B hml hv
  obtain ⟨rfl, hP, hK, hD⟩ := hv
  have hex := B.exec
  have hbc := B.bytes
  have hrt := B.returns
  have hts := atoms_spec (ws := wsX1_push) B.pre
  have hown : s.vm.findClass RX1 = some m.cls := findClass_of_methodNamed B.named
  have hlocks := B.notSynchronized
  have hS : va_S (XA a) s.heap s.heap [] := va_S.rf
  have hin1 := iX1_push_X1
  have hl := lv_entry ([.ref (a 17), .ref (a 3)]) (n := 2) (Nat.le_of_ble_eq_true rfl)
  rw [lg_entry_eq]
  generalize (lg_sl ([.ref (a 17), .ref (a 3)]) ++ List.replicate (2 - (lg_sl ([.ref (a 17), .ref (a 3)])).length) Slot.unset).toArray = ls at hl ⊢
  have hl : lv_has ls 2 [(0, .ref (a 17)), (1, .ref (a 3))] := hl
  refine lv_aload_n hex hbc dX1_push_0 rfl (lv_at hl 0 rfl) ?_
  refine lv_aload_n hex hbc dX1_push_1 rfl (lv_at hl 0 rfl) ?_
  refine va_get (v := .int (iI (σ 12 0))) hex hbc hts hin1 hown hK hP 17 rfl rfl 1 (by decide) (hts _ (List.mem_of_getElem? (i := 1) rfl)) (fun _ h => h) rfl dX1_push_2 ?_
  refine lv_iconst (v := iI 1) hex hbc dX1_push_5 rfl ?_
  refine zt_iadd hex hbc dX1_push_6 ?_
  refine lv_bipush (v := iI 8) hex hbc dX1_push_7 (by decide) ?_
  refine zt_icmp_ge (a := ((σ 12 0) + 1)) (b := 8) (tgt := 21) hex hbc (by omega) dX1_push_9 (by decide) (fun c9 => ?_) (fun c9 => ?_)
  · skip
    have hnx : (if σ 12 0 + 1 < 8 then σ 12 0 + 1 else 0) = 0 := if_neg (by omega)
    refine lv_iconst (v := iI 0) hex hbc dX1_push_21 rfl ?_
    refine va_put hex hbc hts hin1 tyX1 tyX1_ok nmX1 hown hK hP hD hS 17 rfl rfl 1 (by decide) (hts _ (List.mem_of_getElem? (i := 1) rfl)) (fun _ h => h) rfl (tyX1_ok 1 (by decide)) rfl rfl (Nat.le_of_ble_eq_true rfl) dX1_push_22 (fun H locs hP hD hS => ?_)
    have hP := leW_P (wx_pf_17_1 (G := G) (cx := cx) (a := a) (σ := σ)) hP
    have hD := leW_D (wx_pf_17_1 (G := G) (cx := cx) (a := a) (σ := σ)) hD
    obtain ⟨f12_22, ef12_22⟩ : ∃ z : Int → Int, z = ups (σ 12) 0 0 := ⟨_, rfl⟩
    have hP : va_P G vwCl (wx cx a (sc σ 12 f12_22)) H := by rw [ef12_22]; exact hP
    have hD : va_D (XA a) (wx cx a (sc σ 12 f12_22)) := by rw [ef12_22]; exact hD
    refine lv_aload_n hex hbc dX1_push_25 rfl (lv_at hl 0 rfl) ?_
    refine va_get (v := .ref (a 18)) hex hbc hts hin1 hown hK hP 17 rfl rfl 0 (by decide) (hts _ (List.mem_of_getElem? (i := 2) rfl)) (fun _ h => h) rfl dX1_push_26 ?_
    have hf0 : f12_22 0 = (if σ 12 0 + 1 < 8 then σ 12 0 + 1 else 0) := by rw [hnx, ef12_22, ups_s]
    have hfr : 0 ≤ f12_22 0 ∧ f12_22 0 ≤ 7 := by rw [hf0]; split <;> omega
    refine lv_aload_n hex hbc dX1_push_29 rfl (lv_at hl 0 rfl) ?_
    refine va_get (v := .int (iI (f12_22 0))) hex hbc hts hin1 hown hK hP 17 rfl rfl 1 (by decide) (hts _ (List.mem_of_getElem? (i := 1) rfl)) (fun _ h => h) rfl dX1_push_30 ?_
    by_cases cq33_0 : (f12_22 0) = 0
    · skip
      refine g_aald (i := (f12_22 0)) (k := 0) (v := a 19) hex hbc hK hP 18 3 rfl rfl (by decide) cq33_0 (by decide) rfl dX1_push_33 ?_
      refine lv_aload_n hex hbc dX1_push_34 rfl (lv_at hl 1 rfl) ?_
      refine g_callv [.ref (a 3)] ⟨hex, hbc, hml, hown, hts⟩ (mX2_copy_p0 l G cx a (sc σ 12 f12_22)  ) (cwV 1 hts gX1_push_X2_copy rfl rfl rfl (by decide +kernel) ⟨Nat.le_of_ble_eq_true rfl, Nat.le_of_ble_eq_true rfl⟩) hK hP hD hS (fun _ h => h) 19 2 rfl rfl rfl rfl hl.1 (Nat.le_of_ble_eq_true rfl) dX1_push_35 ⟨Nat.zero_le _, Nat.zero_le _⟩ (fun u_35 H locs hw_35 hP hD hS hz_35 hk_35 => ?_)
      obtain rfl := hw_35
      have hP : va_P G vwCl (wx cx a (sc (sc σ 1 (cpi (σ 1) (σ 0) 0)) 12 f12_22)) H := hP
      have hD : va_D (XA a) (wx cx a (sc (sc σ 1 (cpi (σ 1) (σ 0) 0)) 12 f12_22)) := hD
      refine lv_aload_n hex hbc dX1_push_38 rfl (lv_at hl 0 rfl) ?_
      refine lv_aload_n hex hbc dX1_push_39 rfl (lv_at hl 0 rfl) ?_
      refine va_get (v := .int (iI (f12_22 1))) hex hbc hts hin1 hown hK hP 17 rfl rfl 2 (by decide) (hts _ (List.mem_of_getElem? (i := 3) rfl)) (fun _ h => h) rfl dX1_push_40 ?_
      refine zt_nm (a := (f12_22 1)) (b := (σ 12 1)) (by rw [ef12_22, ups_n _ _ (by omega)]) ?_
      refine lv_bipush (v := iI 8) hex hbc dX1_push_43 (by decide) ?_
      refine zt_icmp_ge (a := (σ 12 1)) (b := 8) (tgt := 57) hex hbc (by omega) dX1_push_45 (by decide) (fun c45 => ?_) (fun c45 => ?_)
      · skip
        refine lv_aload_n hex hbc dX1_push_57 rfl (lv_at hl 0 rfl) ?_
        refine va_get (v := .int (iI (f12_22 1))) hex hbc hts hin1 hown hK hP 17 rfl rfl 2 (by decide) (hts _ (List.mem_of_getElem? (i := 3) rfl)) (fun _ h => h) rfl dX1_push_58 ?_
        refine zt_nm (a := (f12_22 1)) (b := (σ 12 1)) (by rw [ef12_22, ups_n _ _ (by omega)]) ?_
        refine va_put hex hbc hts hin1 tyX1 tyX1_ok nmX1 hown hK hP hD hS 17 rfl rfl 2 (by decide) (hts _ (List.mem_of_getElem? (i := 3) rfl)) (fun _ h => h) rfl (tyX1_ok 2 (by decide)) rfl rfl (Nat.le_of_ble_eq_true rfl) dX1_push_61 (fun H locs hP hD hS => ?_)
        have hP := leW_P (wx_pf_17_2 (G := G) (cx := cx) (a := a) (σ := (sc (sc σ 1 (cpi (σ 1) (σ 0) 0)) 12 f12_22))) hP
        have hD := leW_D (wx_pf_17_2 (G := G) (cx := cx) (a := a) (σ := (sc (sc σ 1 (cpi (σ 1) (σ 0) 0)) 12 f12_22))) hD
        obtain ⟨f12_61, ef12_61⟩ : ∃ z : Int → Int, z = ups f12_22 1 (σ 12 1) := ⟨_, rfl⟩
        have hP : va_P G vwCl (wx cx a (sc (sc σ 1 (cpi (σ 1) (σ 0) 0)) 12 f12_61)) H := by rw [ef12_61]; exact hP
        have hD : va_D (XA a) (wx cx a (sc (sc σ 1 (cpi (σ 1) (σ 0) 0)) 12 f12_61)) := by rw [ef12_61]; exact hD
        exact g_vret hex hbc hrt hlocks hK hP hD hS (show sc (sc σ 1 _) 12 _ = sc (sc σ 1 (cpi (σ 1) (σ 0) 0)) 12 f12_61 from by rw [show (cpi (σ 1) (σ 0) (107 * (if σ 12 0 + 1 < 8 then σ 12 0 + 1 else 0))) = (cpi (σ 1) (σ 0) 0) from by rw [← hf0]; congr 1; omega, show (ups (ups (σ 12) 0 (if σ 12 0 + 1 < 8 then σ 12 0 + 1 else 0)) 1 (if σ 12 1 < 8 then σ 12 1 + 1 else σ 12 1)) = f12_61 from by rw [ef12_61, hnx, ef12_22]; funext k; unfold ups; (repeat' split) <;> omega]) dX1_push_64
      · skip
        refine lv_aload_n hex hbc dX1_push_48 rfl (lv_at hl 0 rfl) ?_
        refine va_get (v := .int (iI (f12_22 1))) hex hbc hts hin1 hown hK hP 17 rfl rfl 2 (by decide) (hts _ (List.mem_of_getElem? (i := 3) rfl)) (fun _ h => h) rfl dX1_push_49 ?_
        refine zt_nm (a := (f12_22 1)) (b := (σ 12 1)) (by rw [ef12_22, ups_n _ _ (by omega)]) ?_
        refine lv_iconst (v := iI 1) hex hbc dX1_push_52 rfl ?_
        refine zt_iadd hex hbc dX1_push_53 ?_
        refine lv_goto (tgt := 61) hex hbc dX1_push_54 (by decide) ?_
        refine va_put hex hbc hts hin1 tyX1 tyX1_ok nmX1 hown hK hP hD hS 17 rfl rfl 2 (by decide) (hts _ (List.mem_of_getElem? (i := 3) rfl)) (fun _ h => h) rfl (tyX1_ok 2 (by decide)) rfl rfl (Nat.le_of_ble_eq_true rfl) dX1_push_61 (fun H locs hP hD hS => ?_)
        have hP := leW_P (wx_pf_17_2 (G := G) (cx := cx) (a := a) (σ := (sc (sc σ 1 (cpi (σ 1) (σ 0) 0)) 12 f12_22))) hP
        have hD := leW_D (wx_pf_17_2 (G := G) (cx := cx) (a := a) (σ := (sc (sc σ 1 (cpi (σ 1) (σ 0) 0)) 12 f12_22))) hD
        obtain ⟨f12_61, ef12_61⟩ : ∃ z : Int → Int, z = ups f12_22 1 ((σ 12 1) + 1) := ⟨_, rfl⟩
        have hP : va_P G vwCl (wx cx a (sc (sc σ 1 (cpi (σ 1) (σ 0) 0)) 12 f12_61)) H := by rw [ef12_61]; exact hP
        have hD : va_D (XA a) (wx cx a (sc (sc σ 1 (cpi (σ 1) (σ 0) 0)) 12 f12_61)) := by rw [ef12_61]; exact hD
        exact g_vret hex hbc hrt hlocks hK hP hD hS (show sc (sc σ 1 _) 12 _ = sc (sc σ 1 (cpi (σ 1) (σ 0) 0)) 12 f12_61 from by rw [show (cpi (σ 1) (σ 0) (107 * (if σ 12 0 + 1 < 8 then σ 12 0 + 1 else 0))) = (cpi (σ 1) (σ 0) 0) from by rw [← hf0]; congr 1; omega, show (ups (ups (σ 12) 0 (if σ 12 0 + 1 < 8 then σ 12 0 + 1 else 0)) 1 (if σ 12 1 < 8 then σ 12 1 + 1 else σ 12 1)) = f12_61 from by rw [ef12_61, hnx, ef12_22]; funext k; unfold ups; (repeat' split) <;> omega]) dX1_push_64
    by_cases cq33_1 : (f12_22 0) = 1
    · skip
      refine g_aald (i := (f12_22 0)) (k := 1) (v := a 24) hex hbc hK hP 18 3 rfl rfl (by decide) cq33_1 (by decide) rfl dX1_push_33 ?_
      refine lv_aload_n hex hbc dX1_push_34 rfl (lv_at hl 1 rfl) ?_
      refine g_callv [.ref (a 3)] ⟨hex, hbc, hml, hown, hts⟩ (mX2_copy_p1 l G cx a (sc σ 12 f12_22)  ) (cwV 1 hts gX1_push_X2_copy rfl rfl rfl (by decide +kernel) ⟨Nat.le_of_ble_eq_true rfl, Nat.le_of_ble_eq_true rfl⟩) hK hP hD hS (fun _ h => h) 24 2 rfl rfl rfl rfl hl.1 (Nat.le_of_ble_eq_true rfl) dX1_push_35 ⟨Nat.zero_le _, Nat.zero_le _⟩ (fun u_35 H locs hw_35 hP hD hS hz_35 hk_35 => ?_)
      obtain rfl := hw_35
      have hP : va_P G vwCl (wx cx a (sc (sc σ 1 (cpi (σ 1) (σ 0) 107)) 12 f12_22)) H := hP
      have hD : va_D (XA a) (wx cx a (sc (sc σ 1 (cpi (σ 1) (σ 0) 107)) 12 f12_22)) := hD
      refine lv_aload_n hex hbc dX1_push_38 rfl (lv_at hl 0 rfl) ?_
      refine lv_aload_n hex hbc dX1_push_39 rfl (lv_at hl 0 rfl) ?_
      refine va_get (v := .int (iI (f12_22 1))) hex hbc hts hin1 hown hK hP 17 rfl rfl 2 (by decide) (hts _ (List.mem_of_getElem? (i := 3) rfl)) (fun _ h => h) rfl dX1_push_40 ?_
      refine zt_nm (a := (f12_22 1)) (b := (σ 12 1)) (by rw [ef12_22, ups_n _ _ (by omega)]) ?_
      refine lv_bipush (v := iI 8) hex hbc dX1_push_43 (by decide) ?_
      refine zt_icmp_ge (a := (σ 12 1)) (b := 8) (tgt := 57) hex hbc (by omega) dX1_push_45 (by decide) (fun c45 => ?_) (fun c45 => ?_)
      · skip
        refine lv_aload_n hex hbc dX1_push_57 rfl (lv_at hl 0 rfl) ?_
        refine va_get (v := .int (iI (f12_22 1))) hex hbc hts hin1 hown hK hP 17 rfl rfl 2 (by decide) (hts _ (List.mem_of_getElem? (i := 3) rfl)) (fun _ h => h) rfl dX1_push_58 ?_
        refine zt_nm (a := (f12_22 1)) (b := (σ 12 1)) (by rw [ef12_22, ups_n _ _ (by omega)]) ?_
        refine va_put hex hbc hts hin1 tyX1 tyX1_ok nmX1 hown hK hP hD hS 17 rfl rfl 2 (by decide) (hts _ (List.mem_of_getElem? (i := 3) rfl)) (fun _ h => h) rfl (tyX1_ok 2 (by decide)) rfl rfl (Nat.le_of_ble_eq_true rfl) dX1_push_61 (fun H locs hP hD hS => ?_)
        have hP := leW_P (wx_pf_17_2 (G := G) (cx := cx) (a := a) (σ := (sc (sc σ 1 (cpi (σ 1) (σ 0) 107)) 12 f12_22))) hP
        have hD := leW_D (wx_pf_17_2 (G := G) (cx := cx) (a := a) (σ := (sc (sc σ 1 (cpi (σ 1) (σ 0) 107)) 12 f12_22))) hD
        obtain ⟨f12_61, ef12_61⟩ : ∃ z : Int → Int, z = ups f12_22 1 (σ 12 1) := ⟨_, rfl⟩
        have hP : va_P G vwCl (wx cx a (sc (sc σ 1 (cpi (σ 1) (σ 0) 107)) 12 f12_61)) H := by rw [ef12_61]; exact hP
        have hD : va_D (XA a) (wx cx a (sc (sc σ 1 (cpi (σ 1) (σ 0) 107)) 12 f12_61)) := by rw [ef12_61]; exact hD
        exact g_vret hex hbc hrt hlocks hK hP hD hS (show sc (sc σ 1 _) 12 _ = sc (sc σ 1 (cpi (σ 1) (σ 0) 107)) 12 f12_61 from by rw [show (cpi (σ 1) (σ 0) (107 * (if σ 12 0 + 1 < 8 then σ 12 0 + 1 else 0))) = (cpi (σ 1) (σ 0) 107) from by rw [← hf0]; congr 1; omega, show (ups (ups (σ 12) 0 (if σ 12 0 + 1 < 8 then σ 12 0 + 1 else 0)) 1 (if σ 12 1 < 8 then σ 12 1 + 1 else σ 12 1)) = f12_61 from by rw [ef12_61, hnx, ef12_22]; funext k; unfold ups; (repeat' split) <;> omega]) dX1_push_64
      · skip
        refine lv_aload_n hex hbc dX1_push_48 rfl (lv_at hl 0 rfl) ?_
        refine va_get (v := .int (iI (f12_22 1))) hex hbc hts hin1 hown hK hP 17 rfl rfl 2 (by decide) (hts _ (List.mem_of_getElem? (i := 3) rfl)) (fun _ h => h) rfl dX1_push_49 ?_
        refine zt_nm (a := (f12_22 1)) (b := (σ 12 1)) (by rw [ef12_22, ups_n _ _ (by omega)]) ?_
        refine lv_iconst (v := iI 1) hex hbc dX1_push_52 rfl ?_
        refine zt_iadd hex hbc dX1_push_53 ?_
        refine lv_goto (tgt := 61) hex hbc dX1_push_54 (by decide) ?_
        refine va_put hex hbc hts hin1 tyX1 tyX1_ok nmX1 hown hK hP hD hS 17 rfl rfl 2 (by decide) (hts _ (List.mem_of_getElem? (i := 3) rfl)) (fun _ h => h) rfl (tyX1_ok 2 (by decide)) rfl rfl (Nat.le_of_ble_eq_true rfl) dX1_push_61 (fun H locs hP hD hS => ?_)
        have hP := leW_P (wx_pf_17_2 (G := G) (cx := cx) (a := a) (σ := (sc (sc σ 1 (cpi (σ 1) (σ 0) 107)) 12 f12_22))) hP
        have hD := leW_D (wx_pf_17_2 (G := G) (cx := cx) (a := a) (σ := (sc (sc σ 1 (cpi (σ 1) (σ 0) 107)) 12 f12_22))) hD
        obtain ⟨f12_61, ef12_61⟩ : ∃ z : Int → Int, z = ups f12_22 1 ((σ 12 1) + 1) := ⟨_, rfl⟩
        have hP : va_P G vwCl (wx cx a (sc (sc σ 1 (cpi (σ 1) (σ 0) 107)) 12 f12_61)) H := by rw [ef12_61]; exact hP
        have hD : va_D (XA a) (wx cx a (sc (sc σ 1 (cpi (σ 1) (σ 0) 107)) 12 f12_61)) := by rw [ef12_61]; exact hD
        exact g_vret hex hbc hrt hlocks hK hP hD hS (show sc (sc σ 1 _) 12 _ = sc (sc σ 1 (cpi (σ 1) (σ 0) 107)) 12 f12_61 from by rw [show (cpi (σ 1) (σ 0) (107 * (if σ 12 0 + 1 < 8 then σ 12 0 + 1 else 0))) = (cpi (σ 1) (σ 0) 107) from by rw [← hf0]; congr 1; omega, show (ups (ups (σ 12) 0 (if σ 12 0 + 1 < 8 then σ 12 0 + 1 else 0)) 1 (if σ 12 1 < 8 then σ 12 1 + 1 else σ 12 1)) = f12_61 from by rw [ef12_61, hnx, ef12_22]; funext k; unfold ups; (repeat' split) <;> omega]) dX1_push_64
    by_cases cq33_2 : (f12_22 0) = 2
    · skip
      refine g_aald (i := (f12_22 0)) (k := 2) (v := a 29) hex hbc hK hP 18 3 rfl rfl (by decide) cq33_2 (by decide) rfl dX1_push_33 ?_
      refine lv_aload_n hex hbc dX1_push_34 rfl (lv_at hl 1 rfl) ?_
      refine g_callv [.ref (a 3)] ⟨hex, hbc, hml, hown, hts⟩ (mX2_copy_p2 l G cx a (sc σ 12 f12_22)  ) (cwV 1 hts gX1_push_X2_copy rfl rfl rfl (by decide +kernel) ⟨Nat.le_of_ble_eq_true rfl, Nat.le_of_ble_eq_true rfl⟩) hK hP hD hS (fun _ h => h) 29 2 rfl rfl rfl rfl hl.1 (Nat.le_of_ble_eq_true rfl) dX1_push_35 ⟨Nat.zero_le _, Nat.zero_le _⟩ (fun u_35 H locs hw_35 hP hD hS hz_35 hk_35 => ?_)
      obtain rfl := hw_35
      have hP : va_P G vwCl (wx cx a (sc (sc σ 1 (cpi (σ 1) (σ 0) 214)) 12 f12_22)) H := hP
      have hD : va_D (XA a) (wx cx a (sc (sc σ 1 (cpi (σ 1) (σ 0) 214)) 12 f12_22)) := hD
      refine lv_aload_n hex hbc dX1_push_38 rfl (lv_at hl 0 rfl) ?_
      refine lv_aload_n hex hbc dX1_push_39 rfl (lv_at hl 0 rfl) ?_
      refine va_get (v := .int (iI (f12_22 1))) hex hbc hts hin1 hown hK hP 17 rfl rfl 2 (by decide) (hts _ (List.mem_of_getElem? (i := 3) rfl)) (fun _ h => h) rfl dX1_push_40 ?_
      refine zt_nm (a := (f12_22 1)) (b := (σ 12 1)) (by rw [ef12_22, ups_n _ _ (by omega)]) ?_
      refine lv_bipush (v := iI 8) hex hbc dX1_push_43 (by decide) ?_
      refine zt_icmp_ge (a := (σ 12 1)) (b := 8) (tgt := 57) hex hbc (by omega) dX1_push_45 (by decide) (fun c45 => ?_) (fun c45 => ?_)
      · skip
        refine lv_aload_n hex hbc dX1_push_57 rfl (lv_at hl 0 rfl) ?_
        refine va_get (v := .int (iI (f12_22 1))) hex hbc hts hin1 hown hK hP 17 rfl rfl 2 (by decide) (hts _ (List.mem_of_getElem? (i := 3) rfl)) (fun _ h => h) rfl dX1_push_58 ?_
        refine zt_nm (a := (f12_22 1)) (b := (σ 12 1)) (by rw [ef12_22, ups_n _ _ (by omega)]) ?_
        refine va_put hex hbc hts hin1 tyX1 tyX1_ok nmX1 hown hK hP hD hS 17 rfl rfl 2 (by decide) (hts _ (List.mem_of_getElem? (i := 3) rfl)) (fun _ h => h) rfl (tyX1_ok 2 (by decide)) rfl rfl (Nat.le_of_ble_eq_true rfl) dX1_push_61 (fun H locs hP hD hS => ?_)
        have hP := leW_P (wx_pf_17_2 (G := G) (cx := cx) (a := a) (σ := (sc (sc σ 1 (cpi (σ 1) (σ 0) 214)) 12 f12_22))) hP
        have hD := leW_D (wx_pf_17_2 (G := G) (cx := cx) (a := a) (σ := (sc (sc σ 1 (cpi (σ 1) (σ 0) 214)) 12 f12_22))) hD
        obtain ⟨f12_61, ef12_61⟩ : ∃ z : Int → Int, z = ups f12_22 1 (σ 12 1) := ⟨_, rfl⟩
        have hP : va_P G vwCl (wx cx a (sc (sc σ 1 (cpi (σ 1) (σ 0) 214)) 12 f12_61)) H := by rw [ef12_61]; exact hP
        have hD : va_D (XA a) (wx cx a (sc (sc σ 1 (cpi (σ 1) (σ 0) 214)) 12 f12_61)) := by rw [ef12_61]; exact hD
        exact g_vret hex hbc hrt hlocks hK hP hD hS (show sc (sc σ 1 _) 12 _ = sc (sc σ 1 (cpi (σ 1) (σ 0) 214)) 12 f12_61 from by rw [show (cpi (σ 1) (σ 0) (107 * (if σ 12 0 + 1 < 8 then σ 12 0 + 1 else 0))) = (cpi (σ 1) (σ 0) 214) from by rw [← hf0]; congr 1; omega, show (ups (ups (σ 12) 0 (if σ 12 0 + 1 < 8 then σ 12 0 + 1 else 0)) 1 (if σ 12 1 < 8 then σ 12 1 + 1 else σ 12 1)) = f12_61 from by rw [ef12_61, hnx, ef12_22]; funext k; unfold ups; (repeat' split) <;> omega]) dX1_push_64
      · skip
        refine lv_aload_n hex hbc dX1_push_48 rfl (lv_at hl 0 rfl) ?_
        refine va_get (v := .int (iI (f12_22 1))) hex hbc hts hin1 hown hK hP 17 rfl rfl 2 (by decide) (hts _ (List.mem_of_getElem? (i := 3) rfl)) (fun _ h => h) rfl dX1_push_49 ?_
        refine zt_nm (a := (f12_22 1)) (b := (σ 12 1)) (by rw [ef12_22, ups_n _ _ (by omega)]) ?_
        refine lv_iconst (v := iI 1) hex hbc dX1_push_52 rfl ?_
        refine zt_iadd hex hbc dX1_push_53 ?_
        refine lv_goto (tgt := 61) hex hbc dX1_push_54 (by decide) ?_
        refine va_put hex hbc hts hin1 tyX1 tyX1_ok nmX1 hown hK hP hD hS 17 rfl rfl 2 (by decide) (hts _ (List.mem_of_getElem? (i := 3) rfl)) (fun _ h => h) rfl (tyX1_ok 2 (by decide)) rfl rfl (Nat.le_of_ble_eq_true rfl) dX1_push_61 (fun H locs hP hD hS => ?_)
        have hP := leW_P (wx_pf_17_2 (G := G) (cx := cx) (a := a) (σ := (sc (sc σ 1 (cpi (σ 1) (σ 0) 214)) 12 f12_22))) hP
        have hD := leW_D (wx_pf_17_2 (G := G) (cx := cx) (a := a) (σ := (sc (sc σ 1 (cpi (σ 1) (σ 0) 214)) 12 f12_22))) hD
        obtain ⟨f12_61, ef12_61⟩ : ∃ z : Int → Int, z = ups f12_22 1 ((σ 12 1) + 1) := ⟨_, rfl⟩
        have hP : va_P G vwCl (wx cx a (sc (sc σ 1 (cpi (σ 1) (σ 0) 214)) 12 f12_61)) H := by rw [ef12_61]; exact hP
        have hD : va_D (XA a) (wx cx a (sc (sc σ 1 (cpi (σ 1) (σ 0) 214)) 12 f12_61)) := by rw [ef12_61]; exact hD
        exact g_vret hex hbc hrt hlocks hK hP hD hS (show sc (sc σ 1 _) 12 _ = sc (sc σ 1 (cpi (σ 1) (σ 0) 214)) 12 f12_61 from by rw [show (cpi (σ 1) (σ 0) (107 * (if σ 12 0 + 1 < 8 then σ 12 0 + 1 else 0))) = (cpi (σ 1) (σ 0) 214) from by rw [← hf0]; congr 1; omega, show (ups (ups (σ 12) 0 (if σ 12 0 + 1 < 8 then σ 12 0 + 1 else 0)) 1 (if σ 12 1 < 8 then σ 12 1 + 1 else σ 12 1)) = f12_61 from by rw [ef12_61, hnx, ef12_22]; funext k; unfold ups; (repeat' split) <;> omega]) dX1_push_64
    by_cases cq33_3 : (f12_22 0) = 3
    · skip
      refine g_aald (i := (f12_22 0)) (k := 3) (v := a 34) hex hbc hK hP 18 3 rfl rfl (by decide) cq33_3 (by decide) rfl dX1_push_33 ?_
      refine lv_aload_n hex hbc dX1_push_34 rfl (lv_at hl 1 rfl) ?_
      refine g_callv [.ref (a 3)] ⟨hex, hbc, hml, hown, hts⟩ (mX2_copy_p3 l G cx a (sc σ 12 f12_22)  ) (cwV 1 hts gX1_push_X2_copy rfl rfl rfl (by decide +kernel) ⟨Nat.le_of_ble_eq_true rfl, Nat.le_of_ble_eq_true rfl⟩) hK hP hD hS (fun _ h => h) 34 2 rfl rfl rfl rfl hl.1 (Nat.le_of_ble_eq_true rfl) dX1_push_35 ⟨Nat.zero_le _, Nat.zero_le _⟩ (fun u_35 H locs hw_35 hP hD hS hz_35 hk_35 => ?_)
      obtain rfl := hw_35
      have hP : va_P G vwCl (wx cx a (sc (sc σ 1 (cpi (σ 1) (σ 0) 321)) 12 f12_22)) H := hP
      have hD : va_D (XA a) (wx cx a (sc (sc σ 1 (cpi (σ 1) (σ 0) 321)) 12 f12_22)) := hD
      refine lv_aload_n hex hbc dX1_push_38 rfl (lv_at hl 0 rfl) ?_
      refine lv_aload_n hex hbc dX1_push_39 rfl (lv_at hl 0 rfl) ?_
      refine va_get (v := .int (iI (f12_22 1))) hex hbc hts hin1 hown hK hP 17 rfl rfl 2 (by decide) (hts _ (List.mem_of_getElem? (i := 3) rfl)) (fun _ h => h) rfl dX1_push_40 ?_
      refine zt_nm (a := (f12_22 1)) (b := (σ 12 1)) (by rw [ef12_22, ups_n _ _ (by omega)]) ?_
      refine lv_bipush (v := iI 8) hex hbc dX1_push_43 (by decide) ?_
      refine zt_icmp_ge (a := (σ 12 1)) (b := 8) (tgt := 57) hex hbc (by omega) dX1_push_45 (by decide) (fun c45 => ?_) (fun c45 => ?_)
      · skip
        refine lv_aload_n hex hbc dX1_push_57 rfl (lv_at hl 0 rfl) ?_
        refine va_get (v := .int (iI (f12_22 1))) hex hbc hts hin1 hown hK hP 17 rfl rfl 2 (by decide) (hts _ (List.mem_of_getElem? (i := 3) rfl)) (fun _ h => h) rfl dX1_push_58 ?_
        refine zt_nm (a := (f12_22 1)) (b := (σ 12 1)) (by rw [ef12_22, ups_n _ _ (by omega)]) ?_
        refine va_put hex hbc hts hin1 tyX1 tyX1_ok nmX1 hown hK hP hD hS 17 rfl rfl 2 (by decide) (hts _ (List.mem_of_getElem? (i := 3) rfl)) (fun _ h => h) rfl (tyX1_ok 2 (by decide)) rfl rfl (Nat.le_of_ble_eq_true rfl) dX1_push_61 (fun H locs hP hD hS => ?_)
        have hP := leW_P (wx_pf_17_2 (G := G) (cx := cx) (a := a) (σ := (sc (sc σ 1 (cpi (σ 1) (σ 0) 321)) 12 f12_22))) hP
        have hD := leW_D (wx_pf_17_2 (G := G) (cx := cx) (a := a) (σ := (sc (sc σ 1 (cpi (σ 1) (σ 0) 321)) 12 f12_22))) hD
        obtain ⟨f12_61, ef12_61⟩ : ∃ z : Int → Int, z = ups f12_22 1 (σ 12 1) := ⟨_, rfl⟩
        have hP : va_P G vwCl (wx cx a (sc (sc σ 1 (cpi (σ 1) (σ 0) 321)) 12 f12_61)) H := by rw [ef12_61]; exact hP
        have hD : va_D (XA a) (wx cx a (sc (sc σ 1 (cpi (σ 1) (σ 0) 321)) 12 f12_61)) := by rw [ef12_61]; exact hD
        exact g_vret hex hbc hrt hlocks hK hP hD hS (show sc (sc σ 1 _) 12 _ = sc (sc σ 1 (cpi (σ 1) (σ 0) 321)) 12 f12_61 from by rw [show (cpi (σ 1) (σ 0) (107 * (if σ 12 0 + 1 < 8 then σ 12 0 + 1 else 0))) = (cpi (σ 1) (σ 0) 321) from by rw [← hf0]; congr 1; omega, show (ups (ups (σ 12) 0 (if σ 12 0 + 1 < 8 then σ 12 0 + 1 else 0)) 1 (if σ 12 1 < 8 then σ 12 1 + 1 else σ 12 1)) = f12_61 from by rw [ef12_61, hnx, ef12_22]; funext k; unfold ups; (repeat' split) <;> omega]) dX1_push_64
      · skip
        refine lv_aload_n hex hbc dX1_push_48 rfl (lv_at hl 0 rfl) ?_
        refine va_get (v := .int (iI (f12_22 1))) hex hbc hts hin1 hown hK hP 17 rfl rfl 2 (by decide) (hts _ (List.mem_of_getElem? (i := 3) rfl)) (fun _ h => h) rfl dX1_push_49 ?_
        refine zt_nm (a := (f12_22 1)) (b := (σ 12 1)) (by rw [ef12_22, ups_n _ _ (by omega)]) ?_
        refine lv_iconst (v := iI 1) hex hbc dX1_push_52 rfl ?_
        refine zt_iadd hex hbc dX1_push_53 ?_
        refine lv_goto (tgt := 61) hex hbc dX1_push_54 (by decide) ?_
        refine va_put hex hbc hts hin1 tyX1 tyX1_ok nmX1 hown hK hP hD hS 17 rfl rfl 2 (by decide) (hts _ (List.mem_of_getElem? (i := 3) rfl)) (fun _ h => h) rfl (tyX1_ok 2 (by decide)) rfl rfl (Nat.le_of_ble_eq_true rfl) dX1_push_61 (fun H locs hP hD hS => ?_)
        have hP := leW_P (wx_pf_17_2 (G := G) (cx := cx) (a := a) (σ := (sc (sc σ 1 (cpi (σ 1) (σ 0) 321)) 12 f12_22))) hP
        have hD := leW_D (wx_pf_17_2 (G := G) (cx := cx) (a := a) (σ := (sc (sc σ 1 (cpi (σ 1) (σ 0) 321)) 12 f12_22))) hD
        obtain ⟨f12_61, ef12_61⟩ : ∃ z : Int → Int, z = ups f12_22 1 ((σ 12 1) + 1) := ⟨_, rfl⟩
        have hP : va_P G vwCl (wx cx a (sc (sc σ 1 (cpi (σ 1) (σ 0) 321)) 12 f12_61)) H := by rw [ef12_61]; exact hP
        have hD : va_D (XA a) (wx cx a (sc (sc σ 1 (cpi (σ 1) (σ 0) 321)) 12 f12_61)) := by rw [ef12_61]; exact hD
        exact g_vret hex hbc hrt hlocks hK hP hD hS (show sc (sc σ 1 _) 12 _ = sc (sc σ 1 (cpi (σ 1) (σ 0) 321)) 12 f12_61 from by rw [show (cpi (σ 1) (σ 0) (107 * (if σ 12 0 + 1 < 8 then σ 12 0 + 1 else 0))) = (cpi (σ 1) (σ 0) 321) from by rw [← hf0]; congr 1; omega, show (ups (ups (σ 12) 0 (if σ 12 0 + 1 < 8 then σ 12 0 + 1 else 0)) 1 (if σ 12 1 < 8 then σ 12 1 + 1 else σ 12 1)) = f12_61 from by rw [ef12_61, hnx, ef12_22]; funext k; unfold ups; (repeat' split) <;> omega]) dX1_push_64
    by_cases cq33_4 : (f12_22 0) = 4
    · skip
      refine g_aald (i := (f12_22 0)) (k := 4) (v := a 39) hex hbc hK hP 18 3 rfl rfl (by decide) cq33_4 (by decide) rfl dX1_push_33 ?_
      refine lv_aload_n hex hbc dX1_push_34 rfl (lv_at hl 1 rfl) ?_
      refine g_callv [.ref (a 3)] ⟨hex, hbc, hml, hown, hts⟩ (mX2_copy_p4 l G cx a (sc σ 12 f12_22)  ) (cwV 1 hts gX1_push_X2_copy rfl rfl rfl (by decide +kernel) ⟨Nat.le_of_ble_eq_true rfl, Nat.le_of_ble_eq_true rfl⟩) hK hP hD hS (fun _ h => h) 39 2 rfl rfl rfl rfl hl.1 (Nat.le_of_ble_eq_true rfl) dX1_push_35 ⟨Nat.zero_le _, Nat.zero_le _⟩ (fun u_35 H locs hw_35 hP hD hS hz_35 hk_35 => ?_)
      obtain rfl := hw_35
      have hP : va_P G vwCl (wx cx a (sc (sc σ 1 (cpi (σ 1) (σ 0) 428)) 12 f12_22)) H := hP
      have hD : va_D (XA a) (wx cx a (sc (sc σ 1 (cpi (σ 1) (σ 0) 428)) 12 f12_22)) := hD
      refine lv_aload_n hex hbc dX1_push_38 rfl (lv_at hl 0 rfl) ?_
      refine lv_aload_n hex hbc dX1_push_39 rfl (lv_at hl 0 rfl) ?_
      refine va_get (v := .int (iI (f12_22 1))) hex hbc hts hin1 hown hK hP 17 rfl rfl 2 (by decide) (hts _ (List.mem_of_getElem? (i := 3) rfl)) (fun _ h => h) rfl dX1_push_40 ?_
      refine zt_nm (a := (f12_22 1)) (b := (σ 12 1)) (by rw [ef12_22, ups_n _ _ (by omega)]) ?_
      refine lv_bipush (v := iI 8) hex hbc dX1_push_43 (by decide) ?_
      refine zt_icmp_ge (a := (σ 12 1)) (b := 8) (tgt := 57) hex hbc (by omega) dX1_push_45 (by decide) (fun c45 => ?_) (fun c45 => ?_)
      · skip
        refine lv_aload_n hex hbc dX1_push_57 rfl (lv_at hl 0 rfl) ?_
        refine va_get (v := .int (iI (f12_22 1))) hex hbc hts hin1 hown hK hP 17 rfl rfl 2 (by decide) (hts _ (List.mem_of_getElem? (i := 3) rfl)) (fun _ h => h) rfl dX1_push_58 ?_
        refine zt_nm (a := (f12_22 1)) (b := (σ 12 1)) (by rw [ef12_22, ups_n _ _ (by omega)]) ?_
        refine va_put hex hbc hts hin1 tyX1 tyX1_ok nmX1 hown hK hP hD hS 17 rfl rfl 2 (by decide) (hts _ (List.mem_of_getElem? (i := 3) rfl)) (fun _ h => h) rfl (tyX1_ok 2 (by decide)) rfl rfl (Nat.le_of_ble_eq_true rfl) dX1_push_61 (fun H locs hP hD hS => ?_)
        have hP := leW_P (wx_pf_17_2 (G := G) (cx := cx) (a := a) (σ := (sc (sc σ 1 (cpi (σ 1) (σ 0) 428)) 12 f12_22))) hP
        have hD := leW_D (wx_pf_17_2 (G := G) (cx := cx) (a := a) (σ := (sc (sc σ 1 (cpi (σ 1) (σ 0) 428)) 12 f12_22))) hD
        obtain ⟨f12_61, ef12_61⟩ : ∃ z : Int → Int, z = ups f12_22 1 (σ 12 1) := ⟨_, rfl⟩
        have hP : va_P G vwCl (wx cx a (sc (sc σ 1 (cpi (σ 1) (σ 0) 428)) 12 f12_61)) H := by rw [ef12_61]; exact hP
        have hD : va_D (XA a) (wx cx a (sc (sc σ 1 (cpi (σ 1) (σ 0) 428)) 12 f12_61)) := by rw [ef12_61]; exact hD
        exact g_vret hex hbc hrt hlocks hK hP hD hS (show sc (sc σ 1 _) 12 _ = sc (sc σ 1 (cpi (σ 1) (σ 0) 428)) 12 f12_61 from by rw [show (cpi (σ 1) (σ 0) (107 * (if σ 12 0 + 1 < 8 then σ 12 0 + 1 else 0))) = (cpi (σ 1) (σ 0) 428) from by rw [← hf0]; congr 1; omega, show (ups (ups (σ 12) 0 (if σ 12 0 + 1 < 8 then σ 12 0 + 1 else 0)) 1 (if σ 12 1 < 8 then σ 12 1 + 1 else σ 12 1)) = f12_61 from by rw [ef12_61, hnx, ef12_22]; funext k; unfold ups; (repeat' split) <;> omega]) dX1_push_64
      · skip
        refine lv_aload_n hex hbc dX1_push_48 rfl (lv_at hl 0 rfl) ?_
        refine va_get (v := .int (iI (f12_22 1))) hex hbc hts hin1 hown hK hP 17 rfl rfl 2 (by decide) (hts _ (List.mem_of_getElem? (i := 3) rfl)) (fun _ h => h) rfl dX1_push_49 ?_
        refine zt_nm (a := (f12_22 1)) (b := (σ 12 1)) (by rw [ef12_22, ups_n _ _ (by omega)]) ?_
        refine lv_iconst (v := iI 1) hex hbc dX1_push_52 rfl ?_
        refine zt_iadd hex hbc dX1_push_53 ?_
        refine lv_goto (tgt := 61) hex hbc dX1_push_54 (by decide) ?_
        refine va_put hex hbc hts hin1 tyX1 tyX1_ok nmX1 hown hK hP hD hS 17 rfl rfl 2 (by decide) (hts _ (List.mem_of_getElem? (i := 3) rfl)) (fun _ h => h) rfl (tyX1_ok 2 (by decide)) rfl rfl (Nat.le_of_ble_eq_true rfl) dX1_push_61 (fun H locs hP hD hS => ?_)
        have hP := leW_P (wx_pf_17_2 (G := G) (cx := cx) (a := a) (σ := (sc (sc σ 1 (cpi (σ 1) (σ 0) 428)) 12 f12_22))) hP
        have hD := leW_D (wx_pf_17_2 (G := G) (cx := cx) (a := a) (σ := (sc (sc σ 1 (cpi (σ 1) (σ 0) 428)) 12 f12_22))) hD
        obtain ⟨f12_61, ef12_61⟩ : ∃ z : Int → Int, z = ups f12_22 1 ((σ 12 1) + 1) := ⟨_, rfl⟩
        have hP : va_P G vwCl (wx cx a (sc (sc σ 1 (cpi (σ 1) (σ 0) 428)) 12 f12_61)) H := by rw [ef12_61]; exact hP
        have hD : va_D (XA a) (wx cx a (sc (sc σ 1 (cpi (σ 1) (σ 0) 428)) 12 f12_61)) := by rw [ef12_61]; exact hD
        exact g_vret hex hbc hrt hlocks hK hP hD hS (show sc (sc σ 1 _) 12 _ = sc (sc σ 1 (cpi (σ 1) (σ 0) 428)) 12 f12_61 from by rw [show (cpi (σ 1) (σ 0) (107 * (if σ 12 0 + 1 < 8 then σ 12 0 + 1 else 0))) = (cpi (σ 1) (σ 0) 428) from by rw [← hf0]; congr 1; omega, show (ups (ups (σ 12) 0 (if σ 12 0 + 1 < 8 then σ 12 0 + 1 else 0)) 1 (if σ 12 1 < 8 then σ 12 1 + 1 else σ 12 1)) = f12_61 from by rw [ef12_61, hnx, ef12_22]; funext k; unfold ups; (repeat' split) <;> omega]) dX1_push_64
    by_cases cq33_5 : (f12_22 0) = 5
    · skip
      refine g_aald (i := (f12_22 0)) (k := 5) (v := a 44) hex hbc hK hP 18 3 rfl rfl (by decide) cq33_5 (by decide) rfl dX1_push_33 ?_
      refine lv_aload_n hex hbc dX1_push_34 rfl (lv_at hl 1 rfl) ?_
      refine g_callv [.ref (a 3)] ⟨hex, hbc, hml, hown, hts⟩ (mX2_copy_p5 l G cx a (sc σ 12 f12_22)  ) (cwV 1 hts gX1_push_X2_copy rfl rfl rfl (by decide +kernel) ⟨Nat.le_of_ble_eq_true rfl, Nat.le_of_ble_eq_true rfl⟩) hK hP hD hS (fun _ h => h) 44 2 rfl rfl rfl rfl hl.1 (Nat.le_of_ble_eq_true rfl) dX1_push_35 ⟨Nat.zero_le _, Nat.zero_le _⟩ (fun u_35 H locs hw_35 hP hD hS hz_35 hk_35 => ?_)
      obtain rfl := hw_35
      have hP : va_P G vwCl (wx cx a (sc (sc σ 1 (cpi (σ 1) (σ 0) 535)) 12 f12_22)) H := hP
      have hD : va_D (XA a) (wx cx a (sc (sc σ 1 (cpi (σ 1) (σ 0) 535)) 12 f12_22)) := hD
      refine lv_aload_n hex hbc dX1_push_38 rfl (lv_at hl 0 rfl) ?_
      refine lv_aload_n hex hbc dX1_push_39 rfl (lv_at hl 0 rfl) ?_
      refine va_get (v := .int (iI (f12_22 1))) hex hbc hts hin1 hown hK hP 17 rfl rfl 2 (by decide) (hts _ (List.mem_of_getElem? (i := 3) rfl)) (fun _ h => h) rfl dX1_push_40 ?_
      refine zt_nm (a := (f12_22 1)) (b := (σ 12 1)) (by rw [ef12_22, ups_n _ _ (by omega)]) ?_
      refine lv_bipush (v := iI 8) hex hbc dX1_push_43 (by decide) ?_
      refine zt_icmp_ge (a := (σ 12 1)) (b := 8) (tgt := 57) hex hbc (by omega) dX1_push_45 (by decide) (fun c45 => ?_) (fun c45 => ?_)
      · skip
        refine lv_aload_n hex hbc dX1_push_57 rfl (lv_at hl 0 rfl) ?_
        refine va_get (v := .int (iI (f12_22 1))) hex hbc hts hin1 hown hK hP 17 rfl rfl 2 (by decide) (hts _ (List.mem_of_getElem? (i := 3) rfl)) (fun _ h => h) rfl dX1_push_58 ?_
        refine zt_nm (a := (f12_22 1)) (b := (σ 12 1)) (by rw [ef12_22, ups_n _ _ (by omega)]) ?_
        refine va_put hex hbc hts hin1 tyX1 tyX1_ok nmX1 hown hK hP hD hS 17 rfl rfl 2 (by decide) (hts _ (List.mem_of_getElem? (i := 3) rfl)) (fun _ h => h) rfl (tyX1_ok 2 (by decide)) rfl rfl (Nat.le_of_ble_eq_true rfl) dX1_push_61 (fun H locs hP hD hS => ?_)
        have hP := leW_P (wx_pf_17_2 (G := G) (cx := cx) (a := a) (σ := (sc (sc σ 1 (cpi (σ 1) (σ 0) 535)) 12 f12_22))) hP
        have hD := leW_D (wx_pf_17_2 (G := G) (cx := cx) (a := a) (σ := (sc (sc σ 1 (cpi (σ 1) (σ 0) 535)) 12 f12_22))) hD
        obtain ⟨f12_61, ef12_61⟩ : ∃ z : Int → Int, z = ups f12_22 1 (σ 12 1) := ⟨_, rfl⟩
        have hP : va_P G vwCl (wx cx a (sc (sc σ 1 (cpi (σ 1) (σ 0) 535)) 12 f12_61)) H := by rw [ef12_61]; exact hP
        have hD : va_D (XA a) (wx cx a (sc (sc σ 1 (cpi (σ 1) (σ 0) 535)) 12 f12_61)) := by rw [ef12_61]; exact hD
        exact g_vret hex hbc hrt hlocks hK hP hD hS (show sc (sc σ 1 _) 12 _ = sc (sc σ 1 (cpi (σ 1) (σ 0) 535)) 12 f12_61 from by rw [show (cpi (σ 1) (σ 0) (107 * (if σ 12 0 + 1 < 8 then σ 12 0 + 1 else 0))) = (cpi (σ 1) (σ 0) 535) from by rw [← hf0]; congr 1; omega, show (ups (ups (σ 12) 0 (if σ 12 0 + 1 < 8 then σ 12 0 + 1 else 0)) 1 (if σ 12 1 < 8 then σ 12 1 + 1 else σ 12 1)) = f12_61 from by rw [ef12_61, hnx, ef12_22]; funext k; unfold ups; (repeat' split) <;> omega]) dX1_push_64
      · skip
        refine lv_aload_n hex hbc dX1_push_48 rfl (lv_at hl 0 rfl) ?_
        refine va_get (v := .int (iI (f12_22 1))) hex hbc hts hin1 hown hK hP 17 rfl rfl 2 (by decide) (hts _ (List.mem_of_getElem? (i := 3) rfl)) (fun _ h => h) rfl dX1_push_49 ?_
        refine zt_nm (a := (f12_22 1)) (b := (σ 12 1)) (by rw [ef12_22, ups_n _ _ (by omega)]) ?_
        refine lv_iconst (v := iI 1) hex hbc dX1_push_52 rfl ?_
        refine zt_iadd hex hbc dX1_push_53 ?_
        refine lv_goto (tgt := 61) hex hbc dX1_push_54 (by decide) ?_
        refine va_put hex hbc hts hin1 tyX1 tyX1_ok nmX1 hown hK hP hD hS 17 rfl rfl 2 (by decide) (hts _ (List.mem_of_getElem? (i := 3) rfl)) (fun _ h => h) rfl (tyX1_ok 2 (by decide)) rfl rfl (Nat.le_of_ble_eq_true rfl) dX1_push_61 (fun H locs hP hD hS => ?_)
        have hP := leW_P (wx_pf_17_2 (G := G) (cx := cx) (a := a) (σ := (sc (sc σ 1 (cpi (σ 1) (σ 0) 535)) 12 f12_22))) hP
        have hD := leW_D (wx_pf_17_2 (G := G) (cx := cx) (a := a) (σ := (sc (sc σ 1 (cpi (σ 1) (σ 0) 535)) 12 f12_22))) hD
        obtain ⟨f12_61, ef12_61⟩ : ∃ z : Int → Int, z = ups f12_22 1 ((σ 12 1) + 1) := ⟨_, rfl⟩
        have hP : va_P G vwCl (wx cx a (sc (sc σ 1 (cpi (σ 1) (σ 0) 535)) 12 f12_61)) H := by rw [ef12_61]; exact hP
        have hD : va_D (XA a) (wx cx a (sc (sc σ 1 (cpi (σ 1) (σ 0) 535)) 12 f12_61)) := by rw [ef12_61]; exact hD
        exact g_vret hex hbc hrt hlocks hK hP hD hS (show sc (sc σ 1 _) 12 _ = sc (sc σ 1 (cpi (σ 1) (σ 0) 535)) 12 f12_61 from by rw [show (cpi (σ 1) (σ 0) (107 * (if σ 12 0 + 1 < 8 then σ 12 0 + 1 else 0))) = (cpi (σ 1) (σ 0) 535) from by rw [← hf0]; congr 1; omega, show (ups (ups (σ 12) 0 (if σ 12 0 + 1 < 8 then σ 12 0 + 1 else 0)) 1 (if σ 12 1 < 8 then σ 12 1 + 1 else σ 12 1)) = f12_61 from by rw [ef12_61, hnx, ef12_22]; funext k; unfold ups; (repeat' split) <;> omega]) dX1_push_64
    by_cases cq33_6 : (f12_22 0) = 6
    · skip
      refine g_aald (i := (f12_22 0)) (k := 6) (v := a 49) hex hbc hK hP 18 3 rfl rfl (by decide) cq33_6 (by decide) rfl dX1_push_33 ?_
      refine lv_aload_n hex hbc dX1_push_34 rfl (lv_at hl 1 rfl) ?_
      refine g_callv [.ref (a 3)] ⟨hex, hbc, hml, hown, hts⟩ (mX2_copy_p6 l G cx a (sc σ 12 f12_22)  ) (cwV 1 hts gX1_push_X2_copy rfl rfl rfl (by decide +kernel) ⟨Nat.le_of_ble_eq_true rfl, Nat.le_of_ble_eq_true rfl⟩) hK hP hD hS (fun _ h => h) 49 2 rfl rfl rfl rfl hl.1 (Nat.le_of_ble_eq_true rfl) dX1_push_35 ⟨Nat.zero_le _, Nat.zero_le _⟩ (fun u_35 H locs hw_35 hP hD hS hz_35 hk_35 => ?_)
      obtain rfl := hw_35
      have hP : va_P G vwCl (wx cx a (sc (sc σ 1 (cpi (σ 1) (σ 0) 642)) 12 f12_22)) H := hP
      have hD : va_D (XA a) (wx cx a (sc (sc σ 1 (cpi (σ 1) (σ 0) 642)) 12 f12_22)) := hD
      refine lv_aload_n hex hbc dX1_push_38 rfl (lv_at hl 0 rfl) ?_
      refine lv_aload_n hex hbc dX1_push_39 rfl (lv_at hl 0 rfl) ?_
      refine va_get (v := .int (iI (f12_22 1))) hex hbc hts hin1 hown hK hP 17 rfl rfl 2 (by decide) (hts _ (List.mem_of_getElem? (i := 3) rfl)) (fun _ h => h) rfl dX1_push_40 ?_
      refine zt_nm (a := (f12_22 1)) (b := (σ 12 1)) (by rw [ef12_22, ups_n _ _ (by omega)]) ?_
      refine lv_bipush (v := iI 8) hex hbc dX1_push_43 (by decide) ?_
      refine zt_icmp_ge (a := (σ 12 1)) (b := 8) (tgt := 57) hex hbc (by omega) dX1_push_45 (by decide) (fun c45 => ?_) (fun c45 => ?_)
      · skip
        refine lv_aload_n hex hbc dX1_push_57 rfl (lv_at hl 0 rfl) ?_
        refine va_get (v := .int (iI (f12_22 1))) hex hbc hts hin1 hown hK hP 17 rfl rfl 2 (by decide) (hts _ (List.mem_of_getElem? (i := 3) rfl)) (fun _ h => h) rfl dX1_push_58 ?_
        refine zt_nm (a := (f12_22 1)) (b := (σ 12 1)) (by rw [ef12_22, ups_n _ _ (by omega)]) ?_
        refine va_put hex hbc hts hin1 tyX1 tyX1_ok nmX1 hown hK hP hD hS 17 rfl rfl 2 (by decide) (hts _ (List.mem_of_getElem? (i := 3) rfl)) (fun _ h => h) rfl (tyX1_ok 2 (by decide)) rfl rfl (Nat.le_of_ble_eq_true rfl) dX1_push_61 (fun H locs hP hD hS => ?_)
        have hP := leW_P (wx_pf_17_2 (G := G) (cx := cx) (a := a) (σ := (sc (sc σ 1 (cpi (σ 1) (σ 0) 642)) 12 f12_22))) hP
        have hD := leW_D (wx_pf_17_2 (G := G) (cx := cx) (a := a) (σ := (sc (sc σ 1 (cpi (σ 1) (σ 0) 642)) 12 f12_22))) hD
        obtain ⟨f12_61, ef12_61⟩ : ∃ z : Int → Int, z = ups f12_22 1 (σ 12 1) := ⟨_, rfl⟩
        have hP : va_P G vwCl (wx cx a (sc (sc σ 1 (cpi (σ 1) (σ 0) 642)) 12 f12_61)) H := by rw [ef12_61]; exact hP
        have hD : va_D (XA a) (wx cx a (sc (sc σ 1 (cpi (σ 1) (σ 0) 642)) 12 f12_61)) := by rw [ef12_61]; exact hD
        exact g_vret hex hbc hrt hlocks hK hP hD hS (show sc (sc σ 1 _) 12 _ = sc (sc σ 1 (cpi (σ 1) (σ 0) 642)) 12 f12_61 from by rw [show (cpi (σ 1) (σ 0) (107 * (if σ 12 0 + 1 < 8 then σ 12 0 + 1 else 0))) = (cpi (σ 1) (σ 0) 642) from by rw [← hf0]; congr 1; omega, show (ups (ups (σ 12) 0 (if σ 12 0 + 1 < 8 then σ 12 0 + 1 else 0)) 1 (if σ 12 1 < 8 then σ 12 1 + 1 else σ 12 1)) = f12_61 from by rw [ef12_61, hnx, ef12_22]; funext k; unfold ups; (repeat' split) <;> omega]) dX1_push_64
      · skip
        refine lv_aload_n hex hbc dX1_push_48 rfl (lv_at hl 0 rfl) ?_
        refine va_get (v := .int (iI (f12_22 1))) hex hbc hts hin1 hown hK hP 17 rfl rfl 2 (by decide) (hts _ (List.mem_of_getElem? (i := 3) rfl)) (fun _ h => h) rfl dX1_push_49 ?_
        refine zt_nm (a := (f12_22 1)) (b := (σ 12 1)) (by rw [ef12_22, ups_n _ _ (by omega)]) ?_
        refine lv_iconst (v := iI 1) hex hbc dX1_push_52 rfl ?_
        refine zt_iadd hex hbc dX1_push_53 ?_
        refine lv_goto (tgt := 61) hex hbc dX1_push_54 (by decide) ?_
        refine va_put hex hbc hts hin1 tyX1 tyX1_ok nmX1 hown hK hP hD hS 17 rfl rfl 2 (by decide) (hts _ (List.mem_of_getElem? (i := 3) rfl)) (fun _ h => h) rfl (tyX1_ok 2 (by decide)) rfl rfl (Nat.le_of_ble_eq_true rfl) dX1_push_61 (fun H locs hP hD hS => ?_)
        have hP := leW_P (wx_pf_17_2 (G := G) (cx := cx) (a := a) (σ := (sc (sc σ 1 (cpi (σ 1) (σ 0) 642)) 12 f12_22))) hP
        have hD := leW_D (wx_pf_17_2 (G := G) (cx := cx) (a := a) (σ := (sc (sc σ 1 (cpi (σ 1) (σ 0) 642)) 12 f12_22))) hD
        obtain ⟨f12_61, ef12_61⟩ : ∃ z : Int → Int, z = ups f12_22 1 ((σ 12 1) + 1) := ⟨_, rfl⟩
        have hP : va_P G vwCl (wx cx a (sc (sc σ 1 (cpi (σ 1) (σ 0) 642)) 12 f12_61)) H := by rw [ef12_61]; exact hP
        have hD : va_D (XA a) (wx cx a (sc (sc σ 1 (cpi (σ 1) (σ 0) 642)) 12 f12_61)) := by rw [ef12_61]; exact hD
        exact g_vret hex hbc hrt hlocks hK hP hD hS (show sc (sc σ 1 _) 12 _ = sc (sc σ 1 (cpi (σ 1) (σ 0) 642)) 12 f12_61 from by rw [show (cpi (σ 1) (σ 0) (107 * (if σ 12 0 + 1 < 8 then σ 12 0 + 1 else 0))) = (cpi (σ 1) (σ 0) 642) from by rw [← hf0]; congr 1; omega, show (ups (ups (σ 12) 0 (if σ 12 0 + 1 < 8 then σ 12 0 + 1 else 0)) 1 (if σ 12 1 < 8 then σ 12 1 + 1 else σ 12 1)) = f12_61 from by rw [ef12_61, hnx, ef12_22]; funext k; unfold ups; (repeat' split) <;> omega]) dX1_push_64
    have cq33_7 : (f12_22 0) = 7 := by omega
    refine g_aald (i := (f12_22 0)) (k := 7) (v := a 54) hex hbc hK hP 18 3 rfl rfl (by decide) cq33_7 (by decide) rfl dX1_push_33 ?_
    refine lv_aload_n hex hbc dX1_push_34 rfl (lv_at hl 1 rfl) ?_
    refine g_callv [.ref (a 3)] ⟨hex, hbc, hml, hown, hts⟩ (mX2_copy_p7 l G cx a (sc σ 12 f12_22)  ) (cwV 1 hts gX1_push_X2_copy rfl rfl rfl (by decide +kernel) ⟨Nat.le_of_ble_eq_true rfl, Nat.le_of_ble_eq_true rfl⟩) hK hP hD hS (fun _ h => h) 54 2 rfl rfl rfl rfl hl.1 (Nat.le_of_ble_eq_true rfl) dX1_push_35 ⟨Nat.zero_le _, Nat.zero_le _⟩ (fun u_35 H locs hw_35 hP hD hS hz_35 hk_35 => ?_)
    obtain rfl := hw_35
    have hP : va_P G vwCl (wx cx a (sc (sc σ 1 (cpi (σ 1) (σ 0) 749)) 12 f12_22)) H := hP
    have hD : va_D (XA a) (wx cx a (sc (sc σ 1 (cpi (σ 1) (σ 0) 749)) 12 f12_22)) := hD
    refine lv_aload_n hex hbc dX1_push_38 rfl (lv_at hl 0 rfl) ?_
    refine lv_aload_n hex hbc dX1_push_39 rfl (lv_at hl 0 rfl) ?_
    refine va_get (v := .int (iI (f12_22 1))) hex hbc hts hin1 hown hK hP 17 rfl rfl 2 (by decide) (hts _ (List.mem_of_getElem? (i := 3) rfl)) (fun _ h => h) rfl dX1_push_40 ?_
    refine zt_nm (a := (f12_22 1)) (b := (σ 12 1)) (by rw [ef12_22, ups_n _ _ (by omega)]) ?_
    refine lv_bipush (v := iI 8) hex hbc dX1_push_43 (by decide) ?_
    refine zt_icmp_ge (a := (σ 12 1)) (b := 8) (tgt := 57) hex hbc (by omega) dX1_push_45 (by decide) (fun c45 => ?_) (fun c45 => ?_)
    · skip
      refine lv_aload_n hex hbc dX1_push_57 rfl (lv_at hl 0 rfl) ?_
      refine va_get (v := .int (iI (f12_22 1))) hex hbc hts hin1 hown hK hP 17 rfl rfl 2 (by decide) (hts _ (List.mem_of_getElem? (i := 3) rfl)) (fun _ h => h) rfl dX1_push_58 ?_
      refine zt_nm (a := (f12_22 1)) (b := (σ 12 1)) (by rw [ef12_22, ups_n _ _ (by omega)]) ?_
      refine va_put hex hbc hts hin1 tyX1 tyX1_ok nmX1 hown hK hP hD hS 17 rfl rfl 2 (by decide) (hts _ (List.mem_of_getElem? (i := 3) rfl)) (fun _ h => h) rfl (tyX1_ok 2 (by decide)) rfl rfl (Nat.le_of_ble_eq_true rfl) dX1_push_61 (fun H locs hP hD hS => ?_)
      have hP := leW_P (wx_pf_17_2 (G := G) (cx := cx) (a := a) (σ := (sc (sc σ 1 (cpi (σ 1) (σ 0) 749)) 12 f12_22))) hP
      have hD := leW_D (wx_pf_17_2 (G := G) (cx := cx) (a := a) (σ := (sc (sc σ 1 (cpi (σ 1) (σ 0) 749)) 12 f12_22))) hD
      obtain ⟨f12_61, ef12_61⟩ : ∃ z : Int → Int, z = ups f12_22 1 (σ 12 1) := ⟨_, rfl⟩
      have hP : va_P G vwCl (wx cx a (sc (sc σ 1 (cpi (σ 1) (σ 0) 749)) 12 f12_61)) H := by rw [ef12_61]; exact hP
      have hD : va_D (XA a) (wx cx a (sc (sc σ 1 (cpi (σ 1) (σ 0) 749)) 12 f12_61)) := by rw [ef12_61]; exact hD
      exact g_vret hex hbc hrt hlocks hK hP hD hS (show sc (sc σ 1 _) 12 _ = sc (sc σ 1 (cpi (σ 1) (σ 0) 749)) 12 f12_61 from by rw [show (cpi (σ 1) (σ 0) (107 * (if σ 12 0 + 1 < 8 then σ 12 0 + 1 else 0))) = (cpi (σ 1) (σ 0) 749) from by rw [← hf0]; congr 1; omega, show (ups (ups (σ 12) 0 (if σ 12 0 + 1 < 8 then σ 12 0 + 1 else 0)) 1 (if σ 12 1 < 8 then σ 12 1 + 1 else σ 12 1)) = f12_61 from by rw [ef12_61, hnx, ef12_22]; funext k; unfold ups; (repeat' split) <;> omega]) dX1_push_64
    · skip
      refine lv_aload_n hex hbc dX1_push_48 rfl (lv_at hl 0 rfl) ?_
      refine va_get (v := .int (iI (f12_22 1))) hex hbc hts hin1 hown hK hP 17 rfl rfl 2 (by decide) (hts _ (List.mem_of_getElem? (i := 3) rfl)) (fun _ h => h) rfl dX1_push_49 ?_
      refine zt_nm (a := (f12_22 1)) (b := (σ 12 1)) (by rw [ef12_22, ups_n _ _ (by omega)]) ?_
      refine lv_iconst (v := iI 1) hex hbc dX1_push_52 rfl ?_
      refine zt_iadd hex hbc dX1_push_53 ?_
      refine lv_goto (tgt := 61) hex hbc dX1_push_54 (by decide) ?_
      refine va_put hex hbc hts hin1 tyX1 tyX1_ok nmX1 hown hK hP hD hS 17 rfl rfl 2 (by decide) (hts _ (List.mem_of_getElem? (i := 3) rfl)) (fun _ h => h) rfl (tyX1_ok 2 (by decide)) rfl rfl (Nat.le_of_ble_eq_true rfl) dX1_push_61 (fun H locs hP hD hS => ?_)
      have hP := leW_P (wx_pf_17_2 (G := G) (cx := cx) (a := a) (σ := (sc (sc σ 1 (cpi (σ 1) (σ 0) 749)) 12 f12_22))) hP
      have hD := leW_D (wx_pf_17_2 (G := G) (cx := cx) (a := a) (σ := (sc (sc σ 1 (cpi (σ 1) (σ 0) 749)) 12 f12_22))) hD
      obtain ⟨f12_61, ef12_61⟩ : ∃ z : Int → Int, z = ups f12_22 1 ((σ 12 1) + 1) := ⟨_, rfl⟩
      have hP : va_P G vwCl (wx cx a (sc (sc σ 1 (cpi (σ 1) (σ 0) 749)) 12 f12_61)) H := by rw [ef12_61]; exact hP
      have hD : va_D (XA a) (wx cx a (sc (sc σ 1 (cpi (σ 1) (σ 0) 749)) 12 f12_61)) := by rw [ef12_61]; exact hD
      exact g_vret hex hbc hrt hlocks hK hP hD hS (show sc (sc σ 1 _) 12 _ = sc (sc σ 1 (cpi (σ 1) (σ 0) 749)) 12 f12_61 from by rw [show (cpi (σ 1) (σ 0) (107 * (if σ 12 0 + 1 < 8 then σ 12 0 + 1 else 0))) = (cpi (σ 1) (σ 0) 749) from by rw [← hf0]; congr 1; omega, show (ups (ups (σ 12) 0 (if σ 12 0 + 1 < 8 then σ 12 0 + 1 else 0)) 1 (if σ 12 1 < 8 then σ 12 1 + 1 else σ 12 1)) = f12_61 from by rw [ef12_61, hnx, ef12_22]; funext k; unfold ups; (repeat' split) <;> omega]) dX1_push_64
  · skip
    have hnx : (if σ 12 0 + 1 < 8 then σ 12 0 + 1 else 0) = σ 12 0 + 1 := if_pos (by omega)
    refine lv_aload_n hex hbc dX1_push_12 rfl (lv_at hl 0 rfl) ?_
    refine va_get (v := .int (iI (σ 12 0))) hex hbc hts hin1 hown hK hP 17 rfl rfl 1 (by decide) (hts _ (List.mem_of_getElem? (i := 1) rfl)) (fun _ h => h) rfl dX1_push_13 ?_
    refine lv_iconst (v := iI 1) hex hbc dX1_push_16 rfl ?_
    refine zt_iadd hex hbc dX1_push_17 ?_
    refine lv_goto (tgt := 22) hex hbc dX1_push_18 (by decide) ?_
    refine va_put hex hbc hts hin1 tyX1 tyX1_ok nmX1 hown hK hP hD hS 17 rfl rfl 1 (by decide) (hts _ (List.mem_of_getElem? (i := 1) rfl)) (fun _ h => h) rfl (tyX1_ok 1 (by decide)) rfl rfl (Nat.le_of_ble_eq_true rfl) dX1_push_22 (fun H locs hP hD hS => ?_)
    have hP := leW_P (wx_pf_17_1 (G := G) (cx := cx) (a := a) (σ := σ)) hP
    have hD := leW_D (wx_pf_17_1 (G := G) (cx := cx) (a := a) (σ := σ)) hD
    obtain ⟨f12_22, ef12_22⟩ : ∃ z : Int → Int, z = ups (σ 12) 0 ((σ 12 0) + 1) := ⟨_, rfl⟩
    have hP : va_P G vwCl (wx cx a (sc σ 12 f12_22)) H := by rw [ef12_22]; exact hP
    have hD : va_D (XA a) (wx cx a (sc σ 12 f12_22)) := by rw [ef12_22]; exact hD
    refine lv_aload_n hex hbc dX1_push_25 rfl (lv_at hl 0 rfl) ?_
    refine va_get (v := .ref (a 18)) hex hbc hts hin1 hown hK hP 17 rfl rfl 0 (by decide) (hts _ (List.mem_of_getElem? (i := 2) rfl)) (fun _ h => h) rfl dX1_push_26 ?_
    have hf0 : f12_22 0 = (if σ 12 0 + 1 < 8 then σ 12 0 + 1 else 0) := by rw [hnx, ef12_22, ups_s]
    have hfr : 0 ≤ f12_22 0 ∧ f12_22 0 ≤ 7 := by rw [hf0]; split <;> omega
    refine lv_aload_n hex hbc dX1_push_29 rfl (lv_at hl 0 rfl) ?_
    refine va_get (v := .int (iI (f12_22 0))) hex hbc hts hin1 hown hK hP 17 rfl rfl 1 (by decide) (hts _ (List.mem_of_getElem? (i := 1) rfl)) (fun _ h => h) rfl dX1_push_30 ?_
    by_cases cq33_0 : (f12_22 0) = 0
    · skip
      refine g_aald (i := (f12_22 0)) (k := 0) (v := a 19) hex hbc hK hP 18 3 rfl rfl (by decide) cq33_0 (by decide) rfl dX1_push_33 ?_
      refine lv_aload_n hex hbc dX1_push_34 rfl (lv_at hl 1 rfl) ?_
      refine g_callv [.ref (a 3)] ⟨hex, hbc, hml, hown, hts⟩ (mX2_copy_p0 l G cx a (sc σ 12 f12_22)  ) (cwV 1 hts gX1_push_X2_copy rfl rfl rfl (by decide +kernel) ⟨Nat.le_of_ble_eq_true rfl, Nat.le_of_ble_eq_true rfl⟩) hK hP hD hS (fun _ h => h) 19 2 rfl rfl rfl rfl hl.1 (Nat.le_of_ble_eq_true rfl) dX1_push_35 ⟨Nat.zero_le _, Nat.zero_le _⟩ (fun u_35 H locs hw_35 hP hD hS hz_35 hk_35 => ?_)
      obtain rfl := hw_35
      have hP : va_P G vwCl (wx cx a (sc (sc σ 1 (cpi (σ 1) (σ 0) 0)) 12 f12_22)) H := hP
      have hD : va_D (XA a) (wx cx a (sc (sc σ 1 (cpi (σ 1) (σ 0) 0)) 12 f12_22)) := hD
      refine lv_aload_n hex hbc dX1_push_38 rfl (lv_at hl 0 rfl) ?_
      refine lv_aload_n hex hbc dX1_push_39 rfl (lv_at hl 0 rfl) ?_
      refine va_get (v := .int (iI (f12_22 1))) hex hbc hts hin1 hown hK hP 17 rfl rfl 2 (by decide) (hts _ (List.mem_of_getElem? (i := 3) rfl)) (fun _ h => h) rfl dX1_push_40 ?_
      refine zt_nm (a := (f12_22 1)) (b := (σ 12 1)) (by rw [ef12_22, ups_n _ _ (by omega)]) ?_
      refine lv_bipush (v := iI 8) hex hbc dX1_push_43 (by decide) ?_
      refine zt_icmp_ge (a := (σ 12 1)) (b := 8) (tgt := 57) hex hbc (by omega) dX1_push_45 (by decide) (fun c45 => ?_) (fun c45 => ?_)
      · skip
        refine lv_aload_n hex hbc dX1_push_57 rfl (lv_at hl 0 rfl) ?_
        refine va_get (v := .int (iI (f12_22 1))) hex hbc hts hin1 hown hK hP 17 rfl rfl 2 (by decide) (hts _ (List.mem_of_getElem? (i := 3) rfl)) (fun _ h => h) rfl dX1_push_58 ?_
        refine zt_nm (a := (f12_22 1)) (b := (σ 12 1)) (by rw [ef12_22, ups_n _ _ (by omega)]) ?_
        refine va_put hex hbc hts hin1 tyX1 tyX1_ok nmX1 hown hK hP hD hS 17 rfl rfl 2 (by decide) (hts _ (List.mem_of_getElem? (i := 3) rfl)) (fun _ h => h) rfl (tyX1_ok 2 (by decide)) rfl rfl (Nat.le_of_ble_eq_true rfl) dX1_push_61 (fun H locs hP hD hS => ?_)
        have hP := leW_P (wx_pf_17_2 (G := G) (cx := cx) (a := a) (σ := (sc (sc σ 1 (cpi (σ 1) (σ 0) 0)) 12 f12_22))) hP
        have hD := leW_D (wx_pf_17_2 (G := G) (cx := cx) (a := a) (σ := (sc (sc σ 1 (cpi (σ 1) (σ 0) 0)) 12 f12_22))) hD
        obtain ⟨f12_61, ef12_61⟩ : ∃ z : Int → Int, z = ups f12_22 1 (σ 12 1) := ⟨_, rfl⟩
        have hP : va_P G vwCl (wx cx a (sc (sc σ 1 (cpi (σ 1) (σ 0) 0)) 12 f12_61)) H := by rw [ef12_61]; exact hP
        have hD : va_D (XA a) (wx cx a (sc (sc σ 1 (cpi (σ 1) (σ 0) 0)) 12 f12_61)) := by rw [ef12_61]; exact hD
        exact g_vret hex hbc hrt hlocks hK hP hD hS (show sc (sc σ 1 _) 12 _ = sc (sc σ 1 (cpi (σ 1) (σ 0) 0)) 12 f12_61 from by rw [show (cpi (σ 1) (σ 0) (107 * (if σ 12 0 + 1 < 8 then σ 12 0 + 1 else 0))) = (cpi (σ 1) (σ 0) 0) from by rw [← hf0]; congr 1; omega, show (ups (ups (σ 12) 0 (if σ 12 0 + 1 < 8 then σ 12 0 + 1 else 0)) 1 (if σ 12 1 < 8 then σ 12 1 + 1 else σ 12 1)) = f12_61 from by rw [ef12_61, hnx, ef12_22]; funext k; unfold ups; (repeat' split) <;> omega]) dX1_push_64
      · skip
        refine lv_aload_n hex hbc dX1_push_48 rfl (lv_at hl 0 rfl) ?_
        refine va_get (v := .int (iI (f12_22 1))) hex hbc hts hin1 hown hK hP 17 rfl rfl 2 (by decide) (hts _ (List.mem_of_getElem? (i := 3) rfl)) (fun _ h => h) rfl dX1_push_49 ?_
        refine zt_nm (a := (f12_22 1)) (b := (σ 12 1)) (by rw [ef12_22, ups_n _ _ (by omega)]) ?_
        refine lv_iconst (v := iI 1) hex hbc dX1_push_52 rfl ?_
        refine zt_iadd hex hbc dX1_push_53 ?_
        refine lv_goto (tgt := 61) hex hbc dX1_push_54 (by decide) ?_
        refine va_put hex hbc hts hin1 tyX1 tyX1_ok nmX1 hown hK hP hD hS 17 rfl rfl 2 (by decide) (hts _ (List.mem_of_getElem? (i := 3) rfl)) (fun _ h => h) rfl (tyX1_ok 2 (by decide)) rfl rfl (Nat.le_of_ble_eq_true rfl) dX1_push_61 (fun H locs hP hD hS => ?_)
        have hP := leW_P (wx_pf_17_2 (G := G) (cx := cx) (a := a) (σ := (sc (sc σ 1 (cpi (σ 1) (σ 0) 0)) 12 f12_22))) hP
        have hD := leW_D (wx_pf_17_2 (G := G) (cx := cx) (a := a) (σ := (sc (sc σ 1 (cpi (σ 1) (σ 0) 0)) 12 f12_22))) hD
        obtain ⟨f12_61, ef12_61⟩ : ∃ z : Int → Int, z = ups f12_22 1 ((σ 12 1) + 1) := ⟨_, rfl⟩
        have hP : va_P G vwCl (wx cx a (sc (sc σ 1 (cpi (σ 1) (σ 0) 0)) 12 f12_61)) H := by rw [ef12_61]; exact hP
        have hD : va_D (XA a) (wx cx a (sc (sc σ 1 (cpi (σ 1) (σ 0) 0)) 12 f12_61)) := by rw [ef12_61]; exact hD
        exact g_vret hex hbc hrt hlocks hK hP hD hS (show sc (sc σ 1 _) 12 _ = sc (sc σ 1 (cpi (σ 1) (σ 0) 0)) 12 f12_61 from by rw [show (cpi (σ 1) (σ 0) (107 * (if σ 12 0 + 1 < 8 then σ 12 0 + 1 else 0))) = (cpi (σ 1) (σ 0) 0) from by rw [← hf0]; congr 1; omega, show (ups (ups (σ 12) 0 (if σ 12 0 + 1 < 8 then σ 12 0 + 1 else 0)) 1 (if σ 12 1 < 8 then σ 12 1 + 1 else σ 12 1)) = f12_61 from by rw [ef12_61, hnx, ef12_22]; funext k; unfold ups; (repeat' split) <;> omega]) dX1_push_64
    by_cases cq33_1 : (f12_22 0) = 1
    · skip
      refine g_aald (i := (f12_22 0)) (k := 1) (v := a 24) hex hbc hK hP 18 3 rfl rfl (by decide) cq33_1 (by decide) rfl dX1_push_33 ?_
      refine lv_aload_n hex hbc dX1_push_34 rfl (lv_at hl 1 rfl) ?_
      refine g_callv [.ref (a 3)] ⟨hex, hbc, hml, hown, hts⟩ (mX2_copy_p1 l G cx a (sc σ 12 f12_22)  ) (cwV 1 hts gX1_push_X2_copy rfl rfl rfl (by decide +kernel) ⟨Nat.le_of_ble_eq_true rfl, Nat.le_of_ble_eq_true rfl⟩) hK hP hD hS (fun _ h => h) 24 2 rfl rfl rfl rfl hl.1 (Nat.le_of_ble_eq_true rfl) dX1_push_35 ⟨Nat.zero_le _, Nat.zero_le _⟩ (fun u_35 H locs hw_35 hP hD hS hz_35 hk_35 => ?_)
      obtain rfl := hw_35
      have hP : va_P G vwCl (wx cx a (sc (sc σ 1 (cpi (σ 1) (σ 0) 107)) 12 f12_22)) H := hP
      have hD : va_D (XA a) (wx cx a (sc (sc σ 1 (cpi (σ 1) (σ 0) 107)) 12 f12_22)) := hD
      refine lv_aload_n hex hbc dX1_push_38 rfl (lv_at hl 0 rfl) ?_
      refine lv_aload_n hex hbc dX1_push_39 rfl (lv_at hl 0 rfl) ?_
      refine va_get (v := .int (iI (f12_22 1))) hex hbc hts hin1 hown hK hP 17 rfl rfl 2 (by decide) (hts _ (List.mem_of_getElem? (i := 3) rfl)) (fun _ h => h) rfl dX1_push_40 ?_
      refine zt_nm (a := (f12_22 1)) (b := (σ 12 1)) (by rw [ef12_22, ups_n _ _ (by omega)]) ?_
      refine lv_bipush (v := iI 8) hex hbc dX1_push_43 (by decide) ?_
      refine zt_icmp_ge (a := (σ 12 1)) (b := 8) (tgt := 57) hex hbc (by omega) dX1_push_45 (by decide) (fun c45 => ?_) (fun c45 => ?_)
      · skip
        refine lv_aload_n hex hbc dX1_push_57 rfl (lv_at hl 0 rfl) ?_
        refine va_get (v := .int (iI (f12_22 1))) hex hbc hts hin1 hown hK hP 17 rfl rfl 2 (by decide) (hts _ (List.mem_of_getElem? (i := 3) rfl)) (fun _ h => h) rfl dX1_push_58 ?_
        refine zt_nm (a := (f12_22 1)) (b := (σ 12 1)) (by rw [ef12_22, ups_n _ _ (by omega)]) ?_
        refine va_put hex hbc hts hin1 tyX1 tyX1_ok nmX1 hown hK hP hD hS 17 rfl rfl 2 (by decide) (hts _ (List.mem_of_getElem? (i := 3) rfl)) (fun _ h => h) rfl (tyX1_ok 2 (by decide)) rfl rfl (Nat.le_of_ble_eq_true rfl) dX1_push_61 (fun H locs hP hD hS => ?_)
        have hP := leW_P (wx_pf_17_2 (G := G) (cx := cx) (a := a) (σ := (sc (sc σ 1 (cpi (σ 1) (σ 0) 107)) 12 f12_22))) hP
        have hD := leW_D (wx_pf_17_2 (G := G) (cx := cx) (a := a) (σ := (sc (sc σ 1 (cpi (σ 1) (σ 0) 107)) 12 f12_22))) hD
        obtain ⟨f12_61, ef12_61⟩ : ∃ z : Int → Int, z = ups f12_22 1 (σ 12 1) := ⟨_, rfl⟩
        have hP : va_P G vwCl (wx cx a (sc (sc σ 1 (cpi (σ 1) (σ 0) 107)) 12 f12_61)) H := by rw [ef12_61]; exact hP
        have hD : va_D (XA a) (wx cx a (sc (sc σ 1 (cpi (σ 1) (σ 0) 107)) 12 f12_61)) := by rw [ef12_61]; exact hD
        exact g_vret hex hbc hrt hlocks hK hP hD hS (show sc (sc σ 1 _) 12 _ = sc (sc σ 1 (cpi (σ 1) (σ 0) 107)) 12 f12_61 from by rw [show (cpi (σ 1) (σ 0) (107 * (if σ 12 0 + 1 < 8 then σ 12 0 + 1 else 0))) = (cpi (σ 1) (σ 0) 107) from by rw [← hf0]; congr 1; omega, show (ups (ups (σ 12) 0 (if σ 12 0 + 1 < 8 then σ 12 0 + 1 else 0)) 1 (if σ 12 1 < 8 then σ 12 1 + 1 else σ 12 1)) = f12_61 from by rw [ef12_61, hnx, ef12_22]; funext k; unfold ups; (repeat' split) <;> omega]) dX1_push_64
      · skip
        refine lv_aload_n hex hbc dX1_push_48 rfl (lv_at hl 0 rfl) ?_
        refine va_get (v := .int (iI (f12_22 1))) hex hbc hts hin1 hown hK hP 17 rfl rfl 2 (by decide) (hts _ (List.mem_of_getElem? (i := 3) rfl)) (fun _ h => h) rfl dX1_push_49 ?_
        refine zt_nm (a := (f12_22 1)) (b := (σ 12 1)) (by rw [ef12_22, ups_n _ _ (by omega)]) ?_
        refine lv_iconst (v := iI 1) hex hbc dX1_push_52 rfl ?_
        refine zt_iadd hex hbc dX1_push_53 ?_
        refine lv_goto (tgt := 61) hex hbc dX1_push_54 (by decide) ?_
        refine va_put hex hbc hts hin1 tyX1 tyX1_ok nmX1 hown hK hP hD hS 17 rfl rfl 2 (by decide) (hts _ (List.mem_of_getElem? (i := 3) rfl)) (fun _ h => h) rfl (tyX1_ok 2 (by decide)) rfl rfl (Nat.le_of_ble_eq_true rfl) dX1_push_61 (fun H locs hP hD hS => ?_)
        have hP := leW_P (wx_pf_17_2 (G := G) (cx := cx) (a := a) (σ := (sc (sc σ 1 (cpi (σ 1) (σ 0) 107)) 12 f12_22))) hP
        have hD := leW_D (wx_pf_17_2 (G := G) (cx := cx) (a := a) (σ := (sc (sc σ 1 (cpi (σ 1) (σ 0) 107)) 12 f12_22))) hD
        obtain ⟨f12_61, ef12_61⟩ : ∃ z : Int → Int, z = ups f12_22 1 ((σ 12 1) + 1) := ⟨_, rfl⟩
        have hP : va_P G vwCl (wx cx a (sc (sc σ 1 (cpi (σ 1) (σ 0) 107)) 12 f12_61)) H := by rw [ef12_61]; exact hP
        have hD : va_D (XA a) (wx cx a (sc (sc σ 1 (cpi (σ 1) (σ 0) 107)) 12 f12_61)) := by rw [ef12_61]; exact hD
        exact g_vret hex hbc hrt hlocks hK hP hD hS (show sc (sc σ 1 _) 12 _ = sc (sc σ 1 (cpi (σ 1) (σ 0) 107)) 12 f12_61 from by rw [show (cpi (σ 1) (σ 0) (107 * (if σ 12 0 + 1 < 8 then σ 12 0 + 1 else 0))) = (cpi (σ 1) (σ 0) 107) from by rw [← hf0]; congr 1; omega, show (ups (ups (σ 12) 0 (if σ 12 0 + 1 < 8 then σ 12 0 + 1 else 0)) 1 (if σ 12 1 < 8 then σ 12 1 + 1 else σ 12 1)) = f12_61 from by rw [ef12_61, hnx, ef12_22]; funext k; unfold ups; (repeat' split) <;> omega]) dX1_push_64
    by_cases cq33_2 : (f12_22 0) = 2
    · skip
      refine g_aald (i := (f12_22 0)) (k := 2) (v := a 29) hex hbc hK hP 18 3 rfl rfl (by decide) cq33_2 (by decide) rfl dX1_push_33 ?_
      refine lv_aload_n hex hbc dX1_push_34 rfl (lv_at hl 1 rfl) ?_
      refine g_callv [.ref (a 3)] ⟨hex, hbc, hml, hown, hts⟩ (mX2_copy_p2 l G cx a (sc σ 12 f12_22)  ) (cwV 1 hts gX1_push_X2_copy rfl rfl rfl (by decide +kernel) ⟨Nat.le_of_ble_eq_true rfl, Nat.le_of_ble_eq_true rfl⟩) hK hP hD hS (fun _ h => h) 29 2 rfl rfl rfl rfl hl.1 (Nat.le_of_ble_eq_true rfl) dX1_push_35 ⟨Nat.zero_le _, Nat.zero_le _⟩ (fun u_35 H locs hw_35 hP hD hS hz_35 hk_35 => ?_)
      obtain rfl := hw_35
      have hP : va_P G vwCl (wx cx a (sc (sc σ 1 (cpi (σ 1) (σ 0) 214)) 12 f12_22)) H := hP
      have hD : va_D (XA a) (wx cx a (sc (sc σ 1 (cpi (σ 1) (σ 0) 214)) 12 f12_22)) := hD
      refine lv_aload_n hex hbc dX1_push_38 rfl (lv_at hl 0 rfl) ?_
      refine lv_aload_n hex hbc dX1_push_39 rfl (lv_at hl 0 rfl) ?_
      refine va_get (v := .int (iI (f12_22 1))) hex hbc hts hin1 hown hK hP 17 rfl rfl 2 (by decide) (hts _ (List.mem_of_getElem? (i := 3) rfl)) (fun _ h => h) rfl dX1_push_40 ?_
      refine zt_nm (a := (f12_22 1)) (b := (σ 12 1)) (by rw [ef12_22, ups_n _ _ (by omega)]) ?_
      refine lv_bipush (v := iI 8) hex hbc dX1_push_43 (by decide) ?_
      refine zt_icmp_ge (a := (σ 12 1)) (b := 8) (tgt := 57) hex hbc (by omega) dX1_push_45 (by decide) (fun c45 => ?_) (fun c45 => ?_)
      · skip
        refine lv_aload_n hex hbc dX1_push_57 rfl (lv_at hl 0 rfl) ?_
        refine va_get (v := .int (iI (f12_22 1))) hex hbc hts hin1 hown hK hP 17 rfl rfl 2 (by decide) (hts _ (List.mem_of_getElem? (i := 3) rfl)) (fun _ h => h) rfl dX1_push_58 ?_
        refine zt_nm (a := (f12_22 1)) (b := (σ 12 1)) (by rw [ef12_22, ups_n _ _ (by omega)]) ?_
        refine va_put hex hbc hts hin1 tyX1 tyX1_ok nmX1 hown hK hP hD hS 17 rfl rfl 2 (by decide) (hts _ (List.mem_of_getElem? (i := 3) rfl)) (fun _ h => h) rfl (tyX1_ok 2 (by decide)) rfl rfl (Nat.le_of_ble_eq_true rfl) dX1_push_61 (fun H locs hP hD hS => ?_)
        have hP := leW_P (wx_pf_17_2 (G := G) (cx := cx) (a := a) (σ := (sc (sc σ 1 (cpi (σ 1) (σ 0) 214)) 12 f12_22))) hP
        have hD := leW_D (wx_pf_17_2 (G := G) (cx := cx) (a := a) (σ := (sc (sc σ 1 (cpi (σ 1) (σ 0) 214)) 12 f12_22))) hD
        obtain ⟨f12_61, ef12_61⟩ : ∃ z : Int → Int, z = ups f12_22 1 (σ 12 1) := ⟨_, rfl⟩
        have hP : va_P G vwCl (wx cx a (sc (sc σ 1 (cpi (σ 1) (σ 0) 214)) 12 f12_61)) H := by rw [ef12_61]; exact hP
        have hD : va_D (XA a) (wx cx a (sc (sc σ 1 (cpi (σ 1) (σ 0) 214)) 12 f12_61)) := by rw [ef12_61]; exact hD
        exact g_vret hex hbc hrt hlocks hK hP hD hS (show sc (sc σ 1 _) 12 _ = sc (sc σ 1 (cpi (σ 1) (σ 0) 214)) 12 f12_61 from by rw [show (cpi (σ 1) (σ 0) (107 * (if σ 12 0 + 1 < 8 then σ 12 0 + 1 else 0))) = (cpi (σ 1) (σ 0) 214) from by rw [← hf0]; congr 1; omega, show (ups (ups (σ 12) 0 (if σ 12 0 + 1 < 8 then σ 12 0 + 1 else 0)) 1 (if σ 12 1 < 8 then σ 12 1 + 1 else σ 12 1)) = f12_61 from by rw [ef12_61, hnx, ef12_22]; funext k; unfold ups; (repeat' split) <;> omega]) dX1_push_64
      · skip
        refine lv_aload_n hex hbc dX1_push_48 rfl (lv_at hl 0 rfl) ?_
        refine va_get (v := .int (iI (f12_22 1))) hex hbc hts hin1 hown hK hP 17 rfl rfl 2 (by decide) (hts _ (List.mem_of_getElem? (i := 3) rfl)) (fun _ h => h) rfl dX1_push_49 ?_
        refine zt_nm (a := (f12_22 1)) (b := (σ 12 1)) (by rw [ef12_22, ups_n _ _ (by omega)]) ?_
        refine lv_iconst (v := iI 1) hex hbc dX1_push_52 rfl ?_
        refine zt_iadd hex hbc dX1_push_53 ?_
        refine lv_goto (tgt := 61) hex hbc dX1_push_54 (by decide) ?_
        refine va_put hex hbc hts hin1 tyX1 tyX1_ok nmX1 hown hK hP hD hS 17 rfl rfl 2 (by decide) (hts _ (List.mem_of_getElem? (i := 3) rfl)) (fun _ h => h) rfl (tyX1_ok 2 (by decide)) rfl rfl (Nat.le_of_ble_eq_true rfl) dX1_push_61 (fun H locs hP hD hS => ?_)
        have hP := leW_P (wx_pf_17_2 (G := G) (cx := cx) (a := a) (σ := (sc (sc σ 1 (cpi (σ 1) (σ 0) 214)) 12 f12_22))) hP
        have hD := leW_D (wx_pf_17_2 (G := G) (cx := cx) (a := a) (σ := (sc (sc σ 1 (cpi (σ 1) (σ 0) 214)) 12 f12_22))) hD
        obtain ⟨f12_61, ef12_61⟩ : ∃ z : Int → Int, z = ups f12_22 1 ((σ 12 1) + 1) := ⟨_, rfl⟩
        have hP : va_P G vwCl (wx cx a (sc (sc σ 1 (cpi (σ 1) (σ 0) 214)) 12 f12_61)) H := by rw [ef12_61]; exact hP
        have hD : va_D (XA a) (wx cx a (sc (sc σ 1 (cpi (σ 1) (σ 0) 214)) 12 f12_61)) := by rw [ef12_61]; exact hD
        exact g_vret hex hbc hrt hlocks hK hP hD hS (show sc (sc σ 1 _) 12 _ = sc (sc σ 1 (cpi (σ 1) (σ 0) 214)) 12 f12_61 from by rw [show (cpi (σ 1) (σ 0) (107 * (if σ 12 0 + 1 < 8 then σ 12 0 + 1 else 0))) = (cpi (σ 1) (σ 0) 214) from by rw [← hf0]; congr 1; omega, show (ups (ups (σ 12) 0 (if σ 12 0 + 1 < 8 then σ 12 0 + 1 else 0)) 1 (if σ 12 1 < 8 then σ 12 1 + 1 else σ 12 1)) = f12_61 from by rw [ef12_61, hnx, ef12_22]; funext k; unfold ups; (repeat' split) <;> omega]) dX1_push_64
    by_cases cq33_3 : (f12_22 0) = 3
    · skip
      refine g_aald (i := (f12_22 0)) (k := 3) (v := a 34) hex hbc hK hP 18 3 rfl rfl (by decide) cq33_3 (by decide) rfl dX1_push_33 ?_
      refine lv_aload_n hex hbc dX1_push_34 rfl (lv_at hl 1 rfl) ?_
      refine g_callv [.ref (a 3)] ⟨hex, hbc, hml, hown, hts⟩ (mX2_copy_p3 l G cx a (sc σ 12 f12_22)  ) (cwV 1 hts gX1_push_X2_copy rfl rfl rfl (by decide +kernel) ⟨Nat.le_of_ble_eq_true rfl, Nat.le_of_ble_eq_true rfl⟩) hK hP hD hS (fun _ h => h) 34 2 rfl rfl rfl rfl hl.1 (Nat.le_of_ble_eq_true rfl) dX1_push_35 ⟨Nat.zero_le _, Nat.zero_le _⟩ (fun u_35 H locs hw_35 hP hD hS hz_35 hk_35 => ?_)
      obtain rfl := hw_35
      have hP : va_P G vwCl (wx cx a (sc (sc σ 1 (cpi (σ 1) (σ 0) 321)) 12 f12_22)) H := hP
      have hD : va_D (XA a) (wx cx a (sc (sc σ 1 (cpi (σ 1) (σ 0) 321)) 12 f12_22)) := hD
      refine lv_aload_n hex hbc dX1_push_38 rfl (lv_at hl 0 rfl) ?_
      refine lv_aload_n hex hbc dX1_push_39 rfl (lv_at hl 0 rfl) ?_
      refine va_get (v := .int (iI (f12_22 1))) hex hbc hts hin1 hown hK hP 17 rfl rfl 2 (by decide) (hts _ (List.mem_of_getElem? (i := 3) rfl)) (fun _ h => h) rfl dX1_push_40 ?_
      refine zt_nm (a := (f12_22 1)) (b := (σ 12 1)) (by rw [ef12_22, ups_n _ _ (by omega)]) ?_
      refine lv_bipush (v := iI 8) hex hbc dX1_push_43 (by decide) ?_
      refine zt_icmp_ge (a := (σ 12 1)) (b := 8) (tgt := 57) hex hbc (by omega) dX1_push_45 (by decide) (fun c45 => ?_) (fun c45 => ?_)
      · skip
        refine lv_aload_n hex hbc dX1_push_57 rfl (lv_at hl 0 rfl) ?_
        refine va_get (v := .int (iI (f12_22 1))) hex hbc hts hin1 hown hK hP 17 rfl rfl 2 (by decide) (hts _ (List.mem_of_getElem? (i := 3) rfl)) (fun _ h => h) rfl dX1_push_58 ?_
        refine zt_nm (a := (f12_22 1)) (b := (σ 12 1)) (by rw [ef12_22, ups_n _ _ (by omega)]) ?_
        refine va_put hex hbc hts hin1 tyX1 tyX1_ok nmX1 hown hK hP hD hS 17 rfl rfl 2 (by decide) (hts _ (List.mem_of_getElem? (i := 3) rfl)) (fun _ h => h) rfl (tyX1_ok 2 (by decide)) rfl rfl (Nat.le_of_ble_eq_true rfl) dX1_push_61 (fun H locs hP hD hS => ?_)
        have hP := leW_P (wx_pf_17_2 (G := G) (cx := cx) (a := a) (σ := (sc (sc σ 1 (cpi (σ 1) (σ 0) 321)) 12 f12_22))) hP
        have hD := leW_D (wx_pf_17_2 (G := G) (cx := cx) (a := a) (σ := (sc (sc σ 1 (cpi (σ 1) (σ 0) 321)) 12 f12_22))) hD
        obtain ⟨f12_61, ef12_61⟩ : ∃ z : Int → Int, z = ups f12_22 1 (σ 12 1) := ⟨_, rfl⟩
        have hP : va_P G vwCl (wx cx a (sc (sc σ 1 (cpi (σ 1) (σ 0) 321)) 12 f12_61)) H := by rw [ef12_61]; exact hP
        have hD : va_D (XA a) (wx cx a (sc (sc σ 1 (cpi (σ 1) (σ 0) 321)) 12 f12_61)) := by rw [ef12_61]; exact hD
        exact g_vret hex hbc hrt hlocks hK hP hD hS (show sc (sc σ 1 _) 12 _ = sc (sc σ 1 (cpi (σ 1) (σ 0) 321)) 12 f12_61 from by rw [show (cpi (σ 1) (σ 0) (107 * (if σ 12 0 + 1 < 8 then σ 12 0 + 1 else 0))) = (cpi (σ 1) (σ 0) 321) from by rw [← hf0]; congr 1; omega, show (ups (ups (σ 12) 0 (if σ 12 0 + 1 < 8 then σ 12 0 + 1 else 0)) 1 (if σ 12 1 < 8 then σ 12 1 + 1 else σ 12 1)) = f12_61 from by rw [ef12_61, hnx, ef12_22]; funext k; unfold ups; (repeat' split) <;> omega]) dX1_push_64
      · skip
        refine lv_aload_n hex hbc dX1_push_48 rfl (lv_at hl 0 rfl) ?_
        refine va_get (v := .int (iI (f12_22 1))) hex hbc hts hin1 hown hK hP 17 rfl rfl 2 (by decide) (hts _ (List.mem_of_getElem? (i := 3) rfl)) (fun _ h => h) rfl dX1_push_49 ?_
        refine zt_nm (a := (f12_22 1)) (b := (σ 12 1)) (by rw [ef12_22, ups_n _ _ (by omega)]) ?_
        refine lv_iconst (v := iI 1) hex hbc dX1_push_52 rfl ?_
        refine zt_iadd hex hbc dX1_push_53 ?_
        refine lv_goto (tgt := 61) hex hbc dX1_push_54 (by decide) ?_
        refine va_put hex hbc hts hin1 tyX1 tyX1_ok nmX1 hown hK hP hD hS 17 rfl rfl 2 (by decide) (hts _ (List.mem_of_getElem? (i := 3) rfl)) (fun _ h => h) rfl (tyX1_ok 2 (by decide)) rfl rfl (Nat.le_of_ble_eq_true rfl) dX1_push_61 (fun H locs hP hD hS => ?_)
        have hP := leW_P (wx_pf_17_2 (G := G) (cx := cx) (a := a) (σ := (sc (sc σ 1 (cpi (σ 1) (σ 0) 321)) 12 f12_22))) hP
        have hD := leW_D (wx_pf_17_2 (G := G) (cx := cx) (a := a) (σ := (sc (sc σ 1 (cpi (σ 1) (σ 0) 321)) 12 f12_22))) hD
        obtain ⟨f12_61, ef12_61⟩ : ∃ z : Int → Int, z = ups f12_22 1 ((σ 12 1) + 1) := ⟨_, rfl⟩
        have hP : va_P G vwCl (wx cx a (sc (sc σ 1 (cpi (σ 1) (σ 0) 321)) 12 f12_61)) H := by rw [ef12_61]; exact hP
        have hD : va_D (XA a) (wx cx a (sc (sc σ 1 (cpi (σ 1) (σ 0) 321)) 12 f12_61)) := by rw [ef12_61]; exact hD
        exact g_vret hex hbc hrt hlocks hK hP hD hS (show sc (sc σ 1 _) 12 _ = sc (sc σ 1 (cpi (σ 1) (σ 0) 321)) 12 f12_61 from by rw [show (cpi (σ 1) (σ 0) (107 * (if σ 12 0 + 1 < 8 then σ 12 0 + 1 else 0))) = (cpi (σ 1) (σ 0) 321) from by rw [← hf0]; congr 1; omega, show (ups (ups (σ 12) 0 (if σ 12 0 + 1 < 8 then σ 12 0 + 1 else 0)) 1 (if σ 12 1 < 8 then σ 12 1 + 1 else σ 12 1)) = f12_61 from by rw [ef12_61, hnx, ef12_22]; funext k; unfold ups; (repeat' split) <;> omega]) dX1_push_64
    by_cases cq33_4 : (f12_22 0) = 4
    · skip
      refine g_aald (i := (f12_22 0)) (k := 4) (v := a 39) hex hbc hK hP 18 3 rfl rfl (by decide) cq33_4 (by decide) rfl dX1_push_33 ?_
      refine lv_aload_n hex hbc dX1_push_34 rfl (lv_at hl 1 rfl) ?_
      refine g_callv [.ref (a 3)] ⟨hex, hbc, hml, hown, hts⟩ (mX2_copy_p4 l G cx a (sc σ 12 f12_22)  ) (cwV 1 hts gX1_push_X2_copy rfl rfl rfl (by decide +kernel) ⟨Nat.le_of_ble_eq_true rfl, Nat.le_of_ble_eq_true rfl⟩) hK hP hD hS (fun _ h => h) 39 2 rfl rfl rfl rfl hl.1 (Nat.le_of_ble_eq_true rfl) dX1_push_35 ⟨Nat.zero_le _, Nat.zero_le _⟩ (fun u_35 H locs hw_35 hP hD hS hz_35 hk_35 => ?_)
      obtain rfl := hw_35
      have hP : va_P G vwCl (wx cx a (sc (sc σ 1 (cpi (σ 1) (σ 0) 428)) 12 f12_22)) H := hP
      have hD : va_D (XA a) (wx cx a (sc (sc σ 1 (cpi (σ 1) (σ 0) 428)) 12 f12_22)) := hD
      refine lv_aload_n hex hbc dX1_push_38 rfl (lv_at hl 0 rfl) ?_
      refine lv_aload_n hex hbc dX1_push_39 rfl (lv_at hl 0 rfl) ?_
      refine va_get (v := .int (iI (f12_22 1))) hex hbc hts hin1 hown hK hP 17 rfl rfl 2 (by decide) (hts _ (List.mem_of_getElem? (i := 3) rfl)) (fun _ h => h) rfl dX1_push_40 ?_
      refine zt_nm (a := (f12_22 1)) (b := (σ 12 1)) (by rw [ef12_22, ups_n _ _ (by omega)]) ?_
      refine lv_bipush (v := iI 8) hex hbc dX1_push_43 (by decide) ?_
      refine zt_icmp_ge (a := (σ 12 1)) (b := 8) (tgt := 57) hex hbc (by omega) dX1_push_45 (by decide) (fun c45 => ?_) (fun c45 => ?_)
      · skip
        refine lv_aload_n hex hbc dX1_push_57 rfl (lv_at hl 0 rfl) ?_
        refine va_get (v := .int (iI (f12_22 1))) hex hbc hts hin1 hown hK hP 17 rfl rfl 2 (by decide) (hts _ (List.mem_of_getElem? (i := 3) rfl)) (fun _ h => h) rfl dX1_push_58 ?_
        refine zt_nm (a := (f12_22 1)) (b := (σ 12 1)) (by rw [ef12_22, ups_n _ _ (by omega)]) ?_
        refine va_put hex hbc hts hin1 tyX1 tyX1_ok nmX1 hown hK hP hD hS 17 rfl rfl 2 (by decide) (hts _ (List.mem_of_getElem? (i := 3) rfl)) (fun _ h => h) rfl (tyX1_ok 2 (by decide)) rfl rfl (Nat.le_of_ble_eq_true rfl) dX1_push_61 (fun H locs hP hD hS => ?_)
        have hP := leW_P (wx_pf_17_2 (G := G) (cx := cx) (a := a) (σ := (sc (sc σ 1 (cpi (σ 1) (σ 0) 428)) 12 f12_22))) hP
        have hD := leW_D (wx_pf_17_2 (G := G) (cx := cx) (a := a) (σ := (sc (sc σ 1 (cpi (σ 1) (σ 0) 428)) 12 f12_22))) hD
        obtain ⟨f12_61, ef12_61⟩ : ∃ z : Int → Int, z = ups f12_22 1 (σ 12 1) := ⟨_, rfl⟩
        have hP : va_P G vwCl (wx cx a (sc (sc σ 1 (cpi (σ 1) (σ 0) 428)) 12 f12_61)) H := by rw [ef12_61]; exact hP
        have hD : va_D (XA a) (wx cx a (sc (sc σ 1 (cpi (σ 1) (σ 0) 428)) 12 f12_61)) := by rw [ef12_61]; exact hD
        exact g_vret hex hbc hrt hlocks hK hP hD hS (show sc (sc σ 1 _) 12 _ = sc (sc σ 1 (cpi (σ 1) (σ 0) 428)) 12 f12_61 from by rw [show (cpi (σ 1) (σ 0) (107 * (if σ 12 0 + 1 < 8 then σ 12 0 + 1 else 0))) = (cpi (σ 1) (σ 0) 428) from by rw [← hf0]; congr 1; omega, show (ups (ups (σ 12) 0 (if σ 12 0 + 1 < 8 then σ 12 0 + 1 else 0)) 1 (if σ 12 1 < 8 then σ 12 1 + 1 else σ 12 1)) = f12_61 from by rw [ef12_61, hnx, ef12_22]; funext k; unfold ups; (repeat' split) <;> omega]) dX1_push_64
      · skip
        refine lv_aload_n hex hbc dX1_push_48 rfl (lv_at hl 0 rfl) ?_
        refine va_get (v := .int (iI (f12_22 1))) hex hbc hts hin1 hown hK hP 17 rfl rfl 2 (by decide) (hts _ (List.mem_of_getElem? (i := 3) rfl)) (fun _ h => h) rfl dX1_push_49 ?_
        refine zt_nm (a := (f12_22 1)) (b := (σ 12 1)) (by rw [ef12_22, ups_n _ _ (by omega)]) ?_
        refine lv_iconst (v := iI 1) hex hbc dX1_push_52 rfl ?_
        refine zt_iadd hex hbc dX1_push_53 ?_
        refine lv_goto (tgt := 61) hex hbc dX1_push_54 (by decide) ?_
        refine va_put hex hbc hts hin1 tyX1 tyX1_ok nmX1 hown hK hP hD hS 17 rfl rfl 2 (by decide) (hts _ (List.mem_of_getElem? (i := 3) rfl)) (fun _ h => h) rfl (tyX1_ok 2 (by decide)) rfl rfl (Nat.le_of_ble_eq_true rfl) dX1_push_61 (fun H locs hP hD hS => ?_)
        have hP := leW_P (wx_pf_17_2 (G := G) (cx := cx) (a := a) (σ := (sc (sc σ 1 (cpi (σ 1) (σ 0) 428)) 12 f12_22))) hP
        have hD := leW_D (wx_pf_17_2 (G := G) (cx := cx) (a := a) (σ := (sc (sc σ 1 (cpi (σ 1) (σ 0) 428)) 12 f12_22))) hD
        obtain ⟨f12_61, ef12_61⟩ : ∃ z : Int → Int, z = ups f12_22 1 ((σ 12 1) + 1) := ⟨_, rfl⟩
        have hP : va_P G vwCl (wx cx a (sc (sc σ 1 (cpi (σ 1) (σ 0) 428)) 12 f12_61)) H := by rw [ef12_61]; exact hP
        have hD : va_D (XA a) (wx cx a (sc (sc σ 1 (cpi (σ 1) (σ 0) 428)) 12 f12_61)) := by rw [ef12_61]; exact hD
        exact g_vret hex hbc hrt hlocks hK hP hD hS (show sc (sc σ 1 _) 12 _ = sc (sc σ 1 (cpi (σ 1) (σ 0) 428)) 12 f12_61 from by rw [show (cpi (σ 1) (σ 0) (107 * (if σ 12 0 + 1 < 8 then σ 12 0 + 1 else 0))) = (cpi (σ 1) (σ 0) 428) from by rw [← hf0]; congr 1; omega, show (ups (ups (σ 12) 0 (if σ 12 0 + 1 < 8 then σ 12 0 + 1 else 0)) 1 (if σ 12 1 < 8 then σ 12 1 + 1 else σ 12 1)) = f12_61 from by rw [ef12_61, hnx, ef12_22]; funext k; unfold ups; (repeat' split) <;> omega]) dX1_push_64
    by_cases cq33_5 : (f12_22 0) = 5
    · skip
      refine g_aald (i := (f12_22 0)) (k := 5) (v := a 44) hex hbc hK hP 18 3 rfl rfl (by decide) cq33_5 (by decide) rfl dX1_push_33 ?_
      refine lv_aload_n hex hbc dX1_push_34 rfl (lv_at hl 1 rfl) ?_
      refine g_callv [.ref (a 3)] ⟨hex, hbc, hml, hown, hts⟩ (mX2_copy_p5 l G cx a (sc σ 12 f12_22)  ) (cwV 1 hts gX1_push_X2_copy rfl rfl rfl (by decide +kernel) ⟨Nat.le_of_ble_eq_true rfl, Nat.le_of_ble_eq_true rfl⟩) hK hP hD hS (fun _ h => h) 44 2 rfl rfl rfl rfl hl.1 (Nat.le_of_ble_eq_true rfl) dX1_push_35 ⟨Nat.zero_le _, Nat.zero_le _⟩ (fun u_35 H locs hw_35 hP hD hS hz_35 hk_35 => ?_)
      obtain rfl := hw_35
      have hP : va_P G vwCl (wx cx a (sc (sc σ 1 (cpi (σ 1) (σ 0) 535)) 12 f12_22)) H := hP
      have hD : va_D (XA a) (wx cx a (sc (sc σ 1 (cpi (σ 1) (σ 0) 535)) 12 f12_22)) := hD
      refine lv_aload_n hex hbc dX1_push_38 rfl (lv_at hl 0 rfl) ?_
      refine lv_aload_n hex hbc dX1_push_39 rfl (lv_at hl 0 rfl) ?_
      refine va_get (v := .int (iI (f12_22 1))) hex hbc hts hin1 hown hK hP 17 rfl rfl 2 (by decide) (hts _ (List.mem_of_getElem? (i := 3) rfl)) (fun _ h => h) rfl dX1_push_40 ?_
      refine zt_nm (a := (f12_22 1)) (b := (σ 12 1)) (by rw [ef12_22, ups_n _ _ (by omega)]) ?_
      refine lv_bipush (v := iI 8) hex hbc dX1_push_43 (by decide) ?_
      refine zt_icmp_ge (a := (σ 12 1)) (b := 8) (tgt := 57) hex hbc (by omega) dX1_push_45 (by decide) (fun c45 => ?_) (fun c45 => ?_)
      · skip
        refine lv_aload_n hex hbc dX1_push_57 rfl (lv_at hl 0 rfl) ?_
        refine va_get (v := .int (iI (f12_22 1))) hex hbc hts hin1 hown hK hP 17 rfl rfl 2 (by decide) (hts _ (List.mem_of_getElem? (i := 3) rfl)) (fun _ h => h) rfl dX1_push_58 ?_
        refine zt_nm (a := (f12_22 1)) (b := (σ 12 1)) (by rw [ef12_22, ups_n _ _ (by omega)]) ?_
        refine va_put hex hbc hts hin1 tyX1 tyX1_ok nmX1 hown hK hP hD hS 17 rfl rfl 2 (by decide) (hts _ (List.mem_of_getElem? (i := 3) rfl)) (fun _ h => h) rfl (tyX1_ok 2 (by decide)) rfl rfl (Nat.le_of_ble_eq_true rfl) dX1_push_61 (fun H locs hP hD hS => ?_)
        have hP := leW_P (wx_pf_17_2 (G := G) (cx := cx) (a := a) (σ := (sc (sc σ 1 (cpi (σ 1) (σ 0) 535)) 12 f12_22))) hP
        have hD := leW_D (wx_pf_17_2 (G := G) (cx := cx) (a := a) (σ := (sc (sc σ 1 (cpi (σ 1) (σ 0) 535)) 12 f12_22))) hD
        obtain ⟨f12_61, ef12_61⟩ : ∃ z : Int → Int, z = ups f12_22 1 (σ 12 1) := ⟨_, rfl⟩
        have hP : va_P G vwCl (wx cx a (sc (sc σ 1 (cpi (σ 1) (σ 0) 535)) 12 f12_61)) H := by rw [ef12_61]; exact hP
        have hD : va_D (XA a) (wx cx a (sc (sc σ 1 (cpi (σ 1) (σ 0) 535)) 12 f12_61)) := by rw [ef12_61]; exact hD
        exact g_vret hex hbc hrt hlocks hK hP hD hS (show sc (sc σ 1 _) 12 _ = sc (sc σ 1 (cpi (σ 1) (σ 0) 535)) 12 f12_61 from by rw [show (cpi (σ 1) (σ 0) (107 * (if σ 12 0 + 1 < 8 then σ 12 0 + 1 else 0))) = (cpi (σ 1) (σ 0) 535) from by rw [← hf0]; congr 1; omega, show (ups (ups (σ 12) 0 (if σ 12 0 + 1 < 8 then σ 12 0 + 1 else 0)) 1 (if σ 12 1 < 8 then σ 12 1 + 1 else σ 12 1)) = f12_61 from by rw [ef12_61, hnx, ef12_22]; funext k; unfold ups; (repeat' split) <;> omega]) dX1_push_64
      · skip
        refine lv_aload_n hex hbc dX1_push_48 rfl (lv_at hl 0 rfl) ?_
        refine va_get (v := .int (iI (f12_22 1))) hex hbc hts hin1 hown hK hP 17 rfl rfl 2 (by decide) (hts _ (List.mem_of_getElem? (i := 3) rfl)) (fun _ h => h) rfl dX1_push_49 ?_
        refine zt_nm (a := (f12_22 1)) (b := (σ 12 1)) (by rw [ef12_22, ups_n _ _ (by omega)]) ?_
        refine lv_iconst (v := iI 1) hex hbc dX1_push_52 rfl ?_
        refine zt_iadd hex hbc dX1_push_53 ?_
        refine lv_goto (tgt := 61) hex hbc dX1_push_54 (by decide) ?_
        refine va_put hex hbc hts hin1 tyX1 tyX1_ok nmX1 hown hK hP hD hS 17 rfl rfl 2 (by decide) (hts _ (List.mem_of_getElem? (i := 3) rfl)) (fun _ h => h) rfl (tyX1_ok 2 (by decide)) rfl rfl (Nat.le_of_ble_eq_true rfl) dX1_push_61 (fun H locs hP hD hS => ?_)
        have hP := leW_P (wx_pf_17_2 (G := G) (cx := cx) (a := a) (σ := (sc (sc σ 1 (cpi (σ 1) (σ 0) 535)) 12 f12_22))) hP
        have hD := leW_D (wx_pf_17_2 (G := G) (cx := cx) (a := a) (σ := (sc (sc σ 1 (cpi (σ 1) (σ 0) 535)) 12 f12_22))) hD
        obtain ⟨f12_61, ef12_61⟩ : ∃ z : Int → Int, z = ups f12_22 1 ((σ 12 1) + 1) := ⟨_, rfl⟩
        have hP : va_P G vwCl (wx cx a (sc (sc σ 1 (cpi (σ 1) (σ 0) 535)) 12 f12_61)) H := by rw [ef12_61]; exact hP
        have hD : va_D (XA a) (wx cx a (sc (sc σ 1 (cpi (σ 1) (σ 0) 535)) 12 f12_61)) := by rw [ef12_61]; exact hD
        exact g_vret hex hbc hrt hlocks hK hP hD hS (show sc (sc σ 1 _) 12 _ = sc (sc σ 1 (cpi (σ 1) (σ 0) 535)) 12 f12_61 from by rw [show (cpi (σ 1) (σ 0) (107 * (if σ 12 0 + 1 < 8 then σ 12 0 + 1 else 0))) = (cpi (σ 1) (σ 0) 535) from by rw [← hf0]; congr 1; omega, show (ups (ups (σ 12) 0 (if σ 12 0 + 1 < 8 then σ 12 0 + 1 else 0)) 1 (if σ 12 1 < 8 then σ 12 1 + 1 else σ 12 1)) = f12_61 from by rw [ef12_61, hnx, ef12_22]; funext k; unfold ups; (repeat' split) <;> omega]) dX1_push_64
    by_cases cq33_6 : (f12_22 0) = 6
    · skip
      refine g_aald (i := (f12_22 0)) (k := 6) (v := a 49) hex hbc hK hP 18 3 rfl rfl (by decide) cq33_6 (by decide) rfl dX1_push_33 ?_
      refine lv_aload_n hex hbc dX1_push_34 rfl (lv_at hl 1 rfl) ?_
      refine g_callv [.ref (a 3)] ⟨hex, hbc, hml, hown, hts⟩ (mX2_copy_p6 l G cx a (sc σ 12 f12_22)  ) (cwV 1 hts gX1_push_X2_copy rfl rfl rfl (by decide +kernel) ⟨Nat.le_of_ble_eq_true rfl, Nat.le_of_ble_eq_true rfl⟩) hK hP hD hS (fun _ h => h) 49 2 rfl rfl rfl rfl hl.1 (Nat.le_of_ble_eq_true rfl) dX1_push_35 ⟨Nat.zero_le _, Nat.zero_le _⟩ (fun u_35 H locs hw_35 hP hD hS hz_35 hk_35 => ?_)
      obtain rfl := hw_35
      have hP : va_P G vwCl (wx cx a (sc (sc σ 1 (cpi (σ 1) (σ 0) 642)) 12 f12_22)) H := hP
      have hD : va_D (XA a) (wx cx a (sc (sc σ 1 (cpi (σ 1) (σ 0) 642)) 12 f12_22)) := hD
      refine lv_aload_n hex hbc dX1_push_38 rfl (lv_at hl 0 rfl) ?_
      refine lv_aload_n hex hbc dX1_push_39 rfl (lv_at hl 0 rfl) ?_
      refine va_get (v := .int (iI (f12_22 1))) hex hbc hts hin1 hown hK hP 17 rfl rfl 2 (by decide) (hts _ (List.mem_of_getElem? (i := 3) rfl)) (fun _ h => h) rfl dX1_push_40 ?_
      refine zt_nm (a := (f12_22 1)) (b := (σ 12 1)) (by rw [ef12_22, ups_n _ _ (by omega)]) ?_
      refine lv_bipush (v := iI 8) hex hbc dX1_push_43 (by decide) ?_
      refine zt_icmp_ge (a := (σ 12 1)) (b := 8) (tgt := 57) hex hbc (by omega) dX1_push_45 (by decide) (fun c45 => ?_) (fun c45 => ?_)
      · skip
        refine lv_aload_n hex hbc dX1_push_57 rfl (lv_at hl 0 rfl) ?_
        refine va_get (v := .int (iI (f12_22 1))) hex hbc hts hin1 hown hK hP 17 rfl rfl 2 (by decide) (hts _ (List.mem_of_getElem? (i := 3) rfl)) (fun _ h => h) rfl dX1_push_58 ?_
        refine zt_nm (a := (f12_22 1)) (b := (σ 12 1)) (by rw [ef12_22, ups_n _ _ (by omega)]) ?_
        refine va_put hex hbc hts hin1 tyX1 tyX1_ok nmX1 hown hK hP hD hS 17 rfl rfl 2 (by decide) (hts _ (List.mem_of_getElem? (i := 3) rfl)) (fun _ h => h) rfl (tyX1_ok 2 (by decide)) rfl rfl (Nat.le_of_ble_eq_true rfl) dX1_push_61 (fun H locs hP hD hS => ?_)
        have hP := leW_P (wx_pf_17_2 (G := G) (cx := cx) (a := a) (σ := (sc (sc σ 1 (cpi (σ 1) (σ 0) 642)) 12 f12_22))) hP
        have hD := leW_D (wx_pf_17_2 (G := G) (cx := cx) (a := a) (σ := (sc (sc σ 1 (cpi (σ 1) (σ 0) 642)) 12 f12_22))) hD
        obtain ⟨f12_61, ef12_61⟩ : ∃ z : Int → Int, z = ups f12_22 1 (σ 12 1) := ⟨_, rfl⟩
        have hP : va_P G vwCl (wx cx a (sc (sc σ 1 (cpi (σ 1) (σ 0) 642)) 12 f12_61)) H := by rw [ef12_61]; exact hP
        have hD : va_D (XA a) (wx cx a (sc (sc σ 1 (cpi (σ 1) (σ 0) 642)) 12 f12_61)) := by rw [ef12_61]; exact hD
        exact g_vret hex hbc hrt hlocks hK hP hD hS (show sc (sc σ 1 _) 12 _ = sc (sc σ 1 (cpi (σ 1) (σ 0) 642)) 12 f12_61 from by rw [show (cpi (σ 1) (σ 0) (107 * (if σ 12 0 + 1 < 8 then σ 12 0 + 1 else 0))) = (cpi (σ 1) (σ 0) 642) from by rw [← hf0]; congr 1; omega, show (ups (ups (σ 12) 0 (if σ 12 0 + 1 < 8 then σ 12 0 + 1 else 0)) 1 (if σ 12 1 < 8 then σ 12 1 + 1 else σ 12 1)) = f12_61 from by rw [ef12_61, hnx, ef12_22]; funext k; unfold ups; (repeat' split) <;> omega]) dX1_push_64
      · skip
        refine lv_aload_n hex hbc dX1_push_48 rfl (lv_at hl 0 rfl) ?_
        refine va_get (v := .int (iI (f12_22 1))) hex hbc hts hin1 hown hK hP 17 rfl rfl 2 (by decide) (hts _ (List.mem_of_getElem? (i := 3) rfl)) (fun _ h => h) rfl dX1_push_49 ?_
        refine zt_nm (a := (f12_22 1)) (b := (σ 12 1)) (by rw [ef12_22, ups_n _ _ (by omega)]) ?_
        refine lv_iconst (v := iI 1) hex hbc dX1_push_52 rfl ?_
        refine zt_iadd hex hbc dX1_push_53 ?_
        refine lv_goto (tgt := 61) hex hbc dX1_push_54 (by decide) ?_
        refine va_put hex hbc hts hin1 tyX1 tyX1_ok nmX1 hown hK hP hD hS 17 rfl rfl 2 (by decide) (hts _ (List.mem_of_getElem? (i := 3) rfl)) (fun _ h => h) rfl (tyX1_ok 2 (by decide)) rfl rfl (Nat.le_of_ble_eq_true rfl) dX1_push_61 (fun H locs hP hD hS => ?_)
        have hP := leW_P (wx_pf_17_2 (G := G) (cx := cx) (a := a) (σ := (sc (sc σ 1 (cpi (σ 1) (σ 0) 642)) 12 f12_22))) hP
        have hD := leW_D (wx_pf_17_2 (G := G) (cx := cx) (a := a) (σ := (sc (sc σ 1 (cpi (σ 1) (σ 0) 642)) 12 f12_22))) hD
        obtain ⟨f12_61, ef12_61⟩ : ∃ z : Int → Int, z = ups f12_22 1 ((σ 12 1) + 1) := ⟨_, rfl⟩
        have hP : va_P G vwCl (wx cx a (sc (sc σ 1 (cpi (σ 1) (σ 0) 642)) 12 f12_61)) H := by rw [ef12_61]; exact hP
        have hD : va_D (XA a) (wx cx a (sc (sc σ 1 (cpi (σ 1) (σ 0) 642)) 12 f12_61)) := by rw [ef12_61]; exact hD
        exact g_vret hex hbc hrt hlocks hK hP hD hS (show sc (sc σ 1 _) 12 _ = sc (sc σ 1 (cpi (σ 1) (σ 0) 642)) 12 f12_61 from by rw [show (cpi (σ 1) (σ 0) (107 * (if σ 12 0 + 1 < 8 then σ 12 0 + 1 else 0))) = (cpi (σ 1) (σ 0) 642) from by rw [← hf0]; congr 1; omega, show (ups (ups (σ 12) 0 (if σ 12 0 + 1 < 8 then σ 12 0 + 1 else 0)) 1 (if σ 12 1 < 8 then σ 12 1 + 1 else σ 12 1)) = f12_61 from by rw [ef12_61, hnx, ef12_22]; funext k; unfold ups; (repeat' split) <;> omega]) dX1_push_64
    have cq33_7 : (f12_22 0) = 7 := by omega
    refine g_aald (i := (f12_22 0)) (k := 7) (v := a 54) hex hbc hK hP 18 3 rfl rfl (by decide) cq33_7 (by decide) rfl dX1_push_33 ?_
    refine lv_aload_n hex hbc dX1_push_34 rfl (lv_at hl 1 rfl) ?_
    refine g_callv [.ref (a 3)] ⟨hex, hbc, hml, hown, hts⟩ (mX2_copy_p7 l G cx a (sc σ 12 f12_22)  ) (cwV 1 hts gX1_push_X2_copy rfl rfl rfl (by decide +kernel) ⟨Nat.le_of_ble_eq_true rfl, Nat.le_of_ble_eq_true rfl⟩) hK hP hD hS (fun _ h => h) 54 2 rfl rfl rfl rfl hl.1 (Nat.le_of_ble_eq_true rfl) dX1_push_35 ⟨Nat.zero_le _, Nat.zero_le _⟩ (fun u_35 H locs hw_35 hP hD hS hz_35 hk_35 => ?_)
    obtain rfl := hw_35
    have hP : va_P G vwCl (wx cx a (sc (sc σ 1 (cpi (σ 1) (σ 0) 749)) 12 f12_22)) H := hP
    have hD : va_D (XA a) (wx cx a (sc (sc σ 1 (cpi (σ 1) (σ 0) 749)) 12 f12_22)) := hD
    refine lv_aload_n hex hbc dX1_push_38 rfl (lv_at hl 0 rfl) ?_
    refine lv_aload_n hex hbc dX1_push_39 rfl (lv_at hl 0 rfl) ?_
    refine va_get (v := .int (iI (f12_22 1))) hex hbc hts hin1 hown hK hP 17 rfl rfl 2 (by decide) (hts _ (List.mem_of_getElem? (i := 3) rfl)) (fun _ h => h) rfl dX1_push_40 ?_
    refine zt_nm (a := (f12_22 1)) (b := (σ 12 1)) (by rw [ef12_22, ups_n _ _ (by omega)]) ?_
    refine lv_bipush (v := iI 8) hex hbc dX1_push_43 (by decide) ?_
    refine zt_icmp_ge (a := (σ 12 1)) (b := 8) (tgt := 57) hex hbc (by omega) dX1_push_45 (by decide) (fun c45 => ?_) (fun c45 => ?_)
    · skip
      refine lv_aload_n hex hbc dX1_push_57 rfl (lv_at hl 0 rfl) ?_
      refine va_get (v := .int (iI (f12_22 1))) hex hbc hts hin1 hown hK hP 17 rfl rfl 2 (by decide) (hts _ (List.mem_of_getElem? (i := 3) rfl)) (fun _ h => h) rfl dX1_push_58 ?_
      refine zt_nm (a := (f12_22 1)) (b := (σ 12 1)) (by rw [ef12_22, ups_n _ _ (by omega)]) ?_
      refine va_put hex hbc hts hin1 tyX1 tyX1_ok nmX1 hown hK hP hD hS 17 rfl rfl 2 (by decide) (hts _ (List.mem_of_getElem? (i := 3) rfl)) (fun _ h => h) rfl (tyX1_ok 2 (by decide)) rfl rfl (Nat.le_of_ble_eq_true rfl) dX1_push_61 (fun H locs hP hD hS => ?_)
      have hP := leW_P (wx_pf_17_2 (G := G) (cx := cx) (a := a) (σ := (sc (sc σ 1 (cpi (σ 1) (σ 0) 749)) 12 f12_22))) hP
      have hD := leW_D (wx_pf_17_2 (G := G) (cx := cx) (a := a) (σ := (sc (sc σ 1 (cpi (σ 1) (σ 0) 749)) 12 f12_22))) hD
      obtain ⟨f12_61, ef12_61⟩ : ∃ z : Int → Int, z = ups f12_22 1 (σ 12 1) := ⟨_, rfl⟩
      have hP : va_P G vwCl (wx cx a (sc (sc σ 1 (cpi (σ 1) (σ 0) 749)) 12 f12_61)) H := by rw [ef12_61]; exact hP
      have hD : va_D (XA a) (wx cx a (sc (sc σ 1 (cpi (σ 1) (σ 0) 749)) 12 f12_61)) := by rw [ef12_61]; exact hD
      exact g_vret hex hbc hrt hlocks hK hP hD hS (show sc (sc σ 1 _) 12 _ = sc (sc σ 1 (cpi (σ 1) (σ 0) 749)) 12 f12_61 from by rw [show (cpi (σ 1) (σ 0) (107 * (if σ 12 0 + 1 < 8 then σ 12 0 + 1 else 0))) = (cpi (σ 1) (σ 0) 749) from by rw [← hf0]; congr 1; omega, show (ups (ups (σ 12) 0 (if σ 12 0 + 1 < 8 then σ 12 0 + 1 else 0)) 1 (if σ 12 1 < 8 then σ 12 1 + 1 else σ 12 1)) = f12_61 from by rw [ef12_61, hnx, ef12_22]; funext k; unfold ups; (repeat' split) <;> omega]) dX1_push_64
    · skip
      refine lv_aload_n hex hbc dX1_push_48 rfl (lv_at hl 0 rfl) ?_
      refine va_get (v := .int (iI (f12_22 1))) hex hbc hts hin1 hown hK hP 17 rfl rfl 2 (by decide) (hts _ (List.mem_of_getElem? (i := 3) rfl)) (fun _ h => h) rfl dX1_push_49 ?_
      refine zt_nm (a := (f12_22 1)) (b := (σ 12 1)) (by rw [ef12_22, ups_n _ _ (by omega)]) ?_
      refine lv_iconst (v := iI 1) hex hbc dX1_push_52 rfl ?_
      refine zt_iadd hex hbc dX1_push_53 ?_
      refine lv_goto (tgt := 61) hex hbc dX1_push_54 (by decide) ?_
      refine va_put hex hbc hts hin1 tyX1 tyX1_ok nmX1 hown hK hP hD hS 17 rfl rfl 2 (by decide) (hts _ (List.mem_of_getElem? (i := 3) rfl)) (fun _ h => h) rfl (tyX1_ok 2 (by decide)) rfl rfl (Nat.le_of_ble_eq_true rfl) dX1_push_61 (fun H locs hP hD hS => ?_)
      have hP := leW_P (wx_pf_17_2 (G := G) (cx := cx) (a := a) (σ := (sc (sc σ 1 (cpi (σ 1) (σ 0) 749)) 12 f12_22))) hP
      have hD := leW_D (wx_pf_17_2 (G := G) (cx := cx) (a := a) (σ := (sc (sc σ 1 (cpi (σ 1) (σ 0) 749)) 12 f12_22))) hD
      obtain ⟨f12_61, ef12_61⟩ : ∃ z : Int → Int, z = ups f12_22 1 ((σ 12 1) + 1) := ⟨_, rfl⟩
      have hP : va_P G vwCl (wx cx a (sc (sc σ 1 (cpi (σ 1) (σ 0) 749)) 12 f12_61)) H := by rw [ef12_61]; exact hP
      have hD : va_D (XA a) (wx cx a (sc (sc σ 1 (cpi (σ 1) (σ 0) 749)) 12 f12_61)) := by rw [ef12_61]; exact hD
      exact g_vret hex hbc hrt hlocks hK hP hD hS (show sc (sc σ 1 _) 12 _ = sc (sc σ 1 (cpi (σ 1) (σ 0) 749)) 12 f12_61 from by rw [show (cpi (σ 1) (σ 0) (107 * (if σ 12 0 + 1 < 8 then σ 12 0 + 1 else 0))) = (cpi (σ 1) (σ 0) 749) from by rw [← hf0]; congr 1; omega, show (ups (ups (σ 12) 0 (if σ 12 0 + 1 < 8 then σ 12 0 + 1 else 0)) 1 (if σ 12 1 < 8 then σ 12 1 + 1 else σ 12 1)) = f12_61 from by rw [ef12_61, hnx, ef12_22]; funext k; unfold ups; (repeat' split) <;> omega]) dX1_push_64
theorem iX1_pop_X1 : ∀ w ∈ wsX10, w ∈ wsX1_pop := fun _ h => List.mem_cons_of_mem _ (List.mem_append_left _ (List.mem_append_right _ h))
set_option maxHeartbeats 4000000 in
set_option maxRecDepth 100000 in
theorem mX1_pop (l : Launch) (G : va_G) (cx a : Nat → Nat) (σ : Nat → Int → Int)   (hHs : (0 ≤ σ 12 0 ∧ σ 12 0 ≤ 7) ∧ (0 ≤ σ 12 1 ∧ σ 12 1 ≤ 8)) : Met l yX1_pop wsX1_pop ({ frames := 2, cells := 0, slots := 0, locals := 81 }) (va_Pc [.ref (a 17), .ref (a 3)] (gW G (tx cx) (XA a) (wx cx a) σ)) (va_Qv (fun u => sc (sc σ 0 (cpo (σ 0) (σ 1) (107 * σ 12 0))) 12 (ups (ups (σ 12) 0 (if 0 < σ 12 0 then σ 12 0 - 1 else 7)) 1 (σ 12 1 - 1)) = u) (gW G (tx cx) (XA a) (wx cx a)) (XA a)) 0 0 (XA a) := by
  refine Met.ofW (cc := cX1_pop) (maxL := 2) (ret := none) (by decide) rfl ?_
  intro p e s m args below meth c s₁ B hml hv
  obtain ⟨rfl, hP, hK, hD⟩ := hv
  have hex := B.exec
  have hbc := B.bytes
  have hrt := B.returns
  have hts := atoms_spec (ws := wsX1_pop) B.pre
  have hown : s.vm.findClass RX1 = some m.cls := findClass_of_methodNamed B.named
  have hlocks := B.notSynchronized
  have hS : va_S (XA a) s.heap s.heap [] := va_S.rf
  have hin1 := iX1_pop_X1
  have hl := lv_entry ([.ref (a 17), .ref (a 3)]) (n := 2) (Nat.le_of_ble_eq_true rfl)
  rw [lg_entry_eq]
  generalize (lg_sl ([.ref (a 17), .ref (a 3)]) ++ List.replicate (2 - (lg_sl ([.ref (a 17), .ref (a 3)])).length) Slot.unset).toArray = ls at hl ⊢
  have hl : lv_has ls 2 [(0, .ref (a 17)), (1, .ref (a 3))] := hl
  refine lv_aload_n hex hbc dX1_pop_0 rfl (lv_at hl 1 rfl) ?_
  refine lv_aload_n hex hbc dX1_pop_1 rfl (lv_at hl 0 rfl) ?_
  refine va_get (v := .ref (a 18)) hex hbc hts hin1 hown hK hP 17 rfl rfl 0 (by decide) (hts _ (List.mem_of_getElem? (i := 1) rfl)) (fun _ h => h) rfl dX1_pop_2 ?_
  refine lv_aload_n hex hbc dX1_pop_5 rfl (lv_at hl 0 rfl) ?_
  refine va_get (v := .int (iI (σ 12 0))) hex hbc hts hin1 hown hK hP 17 rfl rfl 1 (by decide) (hts _ (List.mem_of_getElem? (i := 2) rfl)) (fun _ h => h) rfl dX1_pop_6 ?_
  by_cases cq9_0 : (σ 12 0) = 0
  · skip
    refine g_aald (i := (σ 12 0)) (k := 0) (v := a 19) hex hbc hK hP 18 3 rfl rfl (by decide) cq9_0 (by decide) rfl dX1_pop_9 ?_
    refine g_callv [.ref (a 19)] ⟨hex, hbc, hml, hown, hts⟩ (mX2_copy_q0 l G cx a σ  ) (cwV 1 hts gX1_pop_X2_copy rfl rfl rfl (by decide +kernel) ⟨Nat.le_of_ble_eq_true rfl, Nat.le_of_ble_eq_true rfl⟩) hK hP hD hS (fun _ h => h) 3 2 rfl rfl rfl rfl hl.1 (Nat.le_of_ble_eq_true rfl) dX1_pop_10 ⟨Nat.zero_le _, Nat.zero_le _⟩ (fun u_10 H locs hw_10 hP hD hS hz_10 hk_10 => ?_)
    obtain rfl := hw_10
    have hP : va_P G vwCl (wx cx a (sc σ 0 (cpo (σ 0) (σ 1) 0))) H := hP
    have hD : va_D (XA a) (wx cx a (sc σ 0 (cpo (σ 0) (σ 1) 0))) := hD
    refine lv_aload_n hex hbc dX1_pop_13 rfl (lv_at hl 0 rfl) ?_
    refine lv_aload_n hex hbc dX1_pop_14 rfl (lv_at hl 0 rfl) ?_
    refine va_get (v := .int (iI (σ 12 0))) hex hbc hts hin1 hown hK hP 17 rfl rfl 1 (by decide) (hts _ (List.mem_of_getElem? (i := 2) rfl)) (fun _ h => h) rfl dX1_pop_15 ?_
    refine zt_if_le (a := (σ 12 0)) (tgt := 30) hex hbc (by omega) dX1_pop_18 (by decide) (fun c18 => ?_) (fun c18 => ?_)
    · skip
      refine lv_bipush (v := iI 7) hex hbc dX1_pop_30 (by decide) ?_
      refine va_put hex hbc hts hin1 tyX1 tyX1_ok nmX1 hown hK hP hD hS 17 rfl rfl 1 (by decide) (hts _ (List.mem_of_getElem? (i := 2) rfl)) (fun _ h => h) rfl (tyX1_ok 1 (by decide)) rfl rfl (Nat.le_of_ble_eq_true rfl) dX1_pop_32 (fun H locs hP hD hS => ?_)
      have hP := leW_P (wx_pf_17_1 (G := G) (cx := cx) (a := a) (σ := (sc σ 0 (cpo (σ 0) (σ 1) 0)))) hP
      have hD := leW_D (wx_pf_17_1 (G := G) (cx := cx) (a := a) (σ := (sc σ 0 (cpo (σ 0) (σ 1) 0)))) hD
      obtain ⟨f12_32, ef12_32⟩ : ∃ z : Int → Int, z = ups (σ 12) 0 7 := ⟨_, rfl⟩
      have hP : va_P G vwCl (wx cx a (sc (sc σ 0 (cpo (σ 0) (σ 1) 0)) 12 f12_32)) H := by rw [ef12_32]; exact hP
      have hD : va_D (XA a) (wx cx a (sc (sc σ 0 (cpo (σ 0) (σ 1) 0)) 12 f12_32)) := by rw [ef12_32]; exact hD
      refine lv_aload_n hex hbc dX1_pop_35 rfl (lv_at hl 0 rfl) ?_
      refine lv_dup hex hbc dX1_pop_36 rfl ?_
      refine va_get (v := .int (iI (f12_32 1))) hex hbc hts hin1 hown hK hP 17 rfl rfl 2 (by decide) (hts _ (List.mem_of_getElem? (i := 3) rfl)) (fun _ h => h) rfl dX1_pop_37 ?_
      refine zt_nm (a := (f12_32 1)) (b := (σ 12 1)) (by rw [ef12_32, ups_n _ _ (by omega)]) ?_
      refine lv_iconst (v := iI 1) hex hbc dX1_pop_40 rfl ?_
      refine zt_isub hex hbc dX1_pop_41 ?_
      refine va_put hex hbc hts hin1 tyX1 tyX1_ok nmX1 hown hK hP hD hS 17 rfl rfl 2 (by decide) (hts _ (List.mem_of_getElem? (i := 3) rfl)) (fun _ h => h) rfl (tyX1_ok 2 (by decide)) rfl rfl (Nat.le_of_ble_eq_true rfl) dX1_pop_42 (fun H locs hP hD hS => ?_)
      have hP := leW_P (wx_pf_17_2 (G := G) (cx := cx) (a := a) (σ := (sc (sc σ 0 (cpo (σ 0) (σ 1) 0)) 12 f12_32))) hP
      have hD := leW_D (wx_pf_17_2 (G := G) (cx := cx) (a := a) (σ := (sc (sc σ 0 (cpo (σ 0) (σ 1) 0)) 12 f12_32))) hD
      obtain ⟨f12_42, ef12_42⟩ : ∃ z : Int → Int, z = ups f12_32 1 ((σ 12 1) - 1) := ⟨_, rfl⟩
      have hP : va_P G vwCl (wx cx a (sc (sc σ 0 (cpo (σ 0) (σ 1) 0)) 12 f12_42)) H := by rw [ef12_42]; exact hP
      have hD : va_D (XA a) (wx cx a (sc (sc σ 0 (cpo (σ 0) (σ 1) 0)) 12 f12_42)) := by rw [ef12_42]; exact hD
      exact g_vret hex hbc hrt hlocks hK hP hD hS (show sc (sc σ 0 _) 12 _ = sc (sc σ 0 (cpo (σ 0) (σ 1) 0)) 12 f12_42 from by rw [show (cpo (σ 0) (σ 1) (107 * σ 12 0)) = (cpo (σ 0) (σ 1) 0) from by congr 1; omega, show (ups (ups (σ 12) 0 (if 0 < σ 12 0 then σ 12 0 - 1 else 7)) 1 (σ 12 1 - 1)) = f12_42 from by rw [ef12_42, ef12_32]; funext k; unfold ups; (repeat' split) <;> omega]) dX1_pop_45
    · skip
      refine lv_aload_n hex hbc dX1_pop_21 rfl (lv_at hl 0 rfl) ?_
      refine va_get (v := .int (iI (σ 12 0))) hex hbc hts hin1 hown hK hP 17 rfl rfl 1 (by decide) (hts _ (List.mem_of_getElem? (i := 2) rfl)) (fun _ h => h) rfl dX1_pop_22 ?_
      refine lv_iconst (v := iI 1) hex hbc dX1_pop_25 rfl ?_
      refine zt_isub hex hbc dX1_pop_26 ?_
      refine lv_goto (tgt := 32) hex hbc dX1_pop_27 (by decide) ?_
      refine va_put hex hbc hts hin1 tyX1 tyX1_ok nmX1 hown hK hP hD hS 17 rfl rfl 1 (by decide) (hts _ (List.mem_of_getElem? (i := 2) rfl)) (fun _ h => h) rfl (tyX1_ok 1 (by decide)) rfl rfl (Nat.le_of_ble_eq_true rfl) dX1_pop_32 (fun H locs hP hD hS => ?_)
      have hP := leW_P (wx_pf_17_1 (G := G) (cx := cx) (a := a) (σ := (sc σ 0 (cpo (σ 0) (σ 1) 0)))) hP
      have hD := leW_D (wx_pf_17_1 (G := G) (cx := cx) (a := a) (σ := (sc σ 0 (cpo (σ 0) (σ 1) 0)))) hD
      obtain ⟨f12_32, ef12_32⟩ : ∃ z : Int → Int, z = ups (σ 12) 0 ((σ 12 0) - 1) := ⟨_, rfl⟩
      have hP : va_P G vwCl (wx cx a (sc (sc σ 0 (cpo (σ 0) (σ 1) 0)) 12 f12_32)) H := by rw [ef12_32]; exact hP
      have hD : va_D (XA a) (wx cx a (sc (sc σ 0 (cpo (σ 0) (σ 1) 0)) 12 f12_32)) := by rw [ef12_32]; exact hD
      refine lv_aload_n hex hbc dX1_pop_35 rfl (lv_at hl 0 rfl) ?_
      refine lv_dup hex hbc dX1_pop_36 rfl ?_
      refine va_get (v := .int (iI (f12_32 1))) hex hbc hts hin1 hown hK hP 17 rfl rfl 2 (by decide) (hts _ (List.mem_of_getElem? (i := 3) rfl)) (fun _ h => h) rfl dX1_pop_37 ?_
      refine zt_nm (a := (f12_32 1)) (b := (σ 12 1)) (by rw [ef12_32, ups_n _ _ (by omega)]) ?_
      refine lv_iconst (v := iI 1) hex hbc dX1_pop_40 rfl ?_
      refine zt_isub hex hbc dX1_pop_41 ?_
      refine va_put hex hbc hts hin1 tyX1 tyX1_ok nmX1 hown hK hP hD hS 17 rfl rfl 2 (by decide) (hts _ (List.mem_of_getElem? (i := 3) rfl)) (fun _ h => h) rfl (tyX1_ok 2 (by decide)) rfl rfl (Nat.le_of_ble_eq_true rfl) dX1_pop_42 (fun H locs hP hD hS => ?_)
      have hP := leW_P (wx_pf_17_2 (G := G) (cx := cx) (a := a) (σ := (sc (sc σ 0 (cpo (σ 0) (σ 1) 0)) 12 f12_32))) hP
      have hD := leW_D (wx_pf_17_2 (G := G) (cx := cx) (a := a) (σ := (sc (sc σ 0 (cpo (σ 0) (σ 1) 0)) 12 f12_32))) hD
      obtain ⟨f12_42, ef12_42⟩ : ∃ z : Int → Int, z = ups f12_32 1 ((σ 12 1) - 1) := ⟨_, rfl⟩
      have hP : va_P G vwCl (wx cx a (sc (sc σ 0 (cpo (σ 0) (σ 1) 0)) 12 f12_42)) H := by rw [ef12_42]; exact hP
      have hD : va_D (XA a) (wx cx a (sc (sc σ 0 (cpo (σ 0) (σ 1) 0)) 12 f12_42)) := by rw [ef12_42]; exact hD
      exact g_vret hex hbc hrt hlocks hK hP hD hS (show sc (sc σ 0 _) 12 _ = sc (sc σ 0 (cpo (σ 0) (σ 1) 0)) 12 f12_42 from by rw [show (cpo (σ 0) (σ 1) (107 * σ 12 0)) = (cpo (σ 0) (σ 1) 0) from by congr 1; omega, show (ups (ups (σ 12) 0 (if 0 < σ 12 0 then σ 12 0 - 1 else 7)) 1 (σ 12 1 - 1)) = f12_42 from by rw [ef12_42, ef12_32]; funext k; unfold ups; (repeat' split) <;> omega]) dX1_pop_45
  by_cases cq9_1 : (σ 12 0) = 1
  · skip
    refine g_aald (i := (σ 12 0)) (k := 1) (v := a 24) hex hbc hK hP 18 3 rfl rfl (by decide) cq9_1 (by decide) rfl dX1_pop_9 ?_
    refine g_callv [.ref (a 24)] ⟨hex, hbc, hml, hown, hts⟩ (mX2_copy_q1 l G cx a σ  ) (cwV 1 hts gX1_pop_X2_copy rfl rfl rfl (by decide +kernel) ⟨Nat.le_of_ble_eq_true rfl, Nat.le_of_ble_eq_true rfl⟩) hK hP hD hS (fun _ h => h) 3 2 rfl rfl rfl rfl hl.1 (Nat.le_of_ble_eq_true rfl) dX1_pop_10 ⟨Nat.zero_le _, Nat.zero_le _⟩ (fun u_10 H locs hw_10 hP hD hS hz_10 hk_10 => ?_)
    obtain rfl := hw_10
    have hP : va_P G vwCl (wx cx a (sc σ 0 (cpo (σ 0) (σ 1) 107))) H := hP
    have hD : va_D (XA a) (wx cx a (sc σ 0 (cpo (σ 0) (σ 1) 107))) := hD
    refine lv_aload_n hex hbc dX1_pop_13 rfl (lv_at hl 0 rfl) ?_
    refine lv_aload_n hex hbc dX1_pop_14 rfl (lv_at hl 0 rfl) ?_
    refine va_get (v := .int (iI (σ 12 0))) hex hbc hts hin1 hown hK hP 17 rfl rfl 1 (by decide) (hts _ (List.mem_of_getElem? (i := 2) rfl)) (fun _ h => h) rfl dX1_pop_15 ?_
    refine zt_if_le (a := (σ 12 0)) (tgt := 30) hex hbc (by omega) dX1_pop_18 (by decide) (fun c18 => ?_) (fun c18 => ?_)
    · skip
      refine lv_bipush (v := iI 7) hex hbc dX1_pop_30 (by decide) ?_
      refine va_put hex hbc hts hin1 tyX1 tyX1_ok nmX1 hown hK hP hD hS 17 rfl rfl 1 (by decide) (hts _ (List.mem_of_getElem? (i := 2) rfl)) (fun _ h => h) rfl (tyX1_ok 1 (by decide)) rfl rfl (Nat.le_of_ble_eq_true rfl) dX1_pop_32 (fun H locs hP hD hS => ?_)
      have hP := leW_P (wx_pf_17_1 (G := G) (cx := cx) (a := a) (σ := (sc σ 0 (cpo (σ 0) (σ 1) 107)))) hP
      have hD := leW_D (wx_pf_17_1 (G := G) (cx := cx) (a := a) (σ := (sc σ 0 (cpo (σ 0) (σ 1) 107)))) hD
      obtain ⟨f12_32, ef12_32⟩ : ∃ z : Int → Int, z = ups (σ 12) 0 7 := ⟨_, rfl⟩
      have hP : va_P G vwCl (wx cx a (sc (sc σ 0 (cpo (σ 0) (σ 1) 107)) 12 f12_32)) H := by rw [ef12_32]; exact hP
      have hD : va_D (XA a) (wx cx a (sc (sc σ 0 (cpo (σ 0) (σ 1) 107)) 12 f12_32)) := by rw [ef12_32]; exact hD
      refine lv_aload_n hex hbc dX1_pop_35 rfl (lv_at hl 0 rfl) ?_
      refine lv_dup hex hbc dX1_pop_36 rfl ?_
      refine va_get (v := .int (iI (f12_32 1))) hex hbc hts hin1 hown hK hP 17 rfl rfl 2 (by decide) (hts _ (List.mem_of_getElem? (i := 3) rfl)) (fun _ h => h) rfl dX1_pop_37 ?_
      refine zt_nm (a := (f12_32 1)) (b := (σ 12 1)) (by rw [ef12_32, ups_n _ _ (by omega)]) ?_
      refine lv_iconst (v := iI 1) hex hbc dX1_pop_40 rfl ?_
      refine zt_isub hex hbc dX1_pop_41 ?_
      refine va_put hex hbc hts hin1 tyX1 tyX1_ok nmX1 hown hK hP hD hS 17 rfl rfl 2 (by decide) (hts _ (List.mem_of_getElem? (i := 3) rfl)) (fun _ h => h) rfl (tyX1_ok 2 (by decide)) rfl rfl (Nat.le_of_ble_eq_true rfl) dX1_pop_42 (fun H locs hP hD hS => ?_)
      have hP := leW_P (wx_pf_17_2 (G := G) (cx := cx) (a := a) (σ := (sc (sc σ 0 (cpo (σ 0) (σ 1) 107)) 12 f12_32))) hP
      have hD := leW_D (wx_pf_17_2 (G := G) (cx := cx) (a := a) (σ := (sc (sc σ 0 (cpo (σ 0) (σ 1) 107)) 12 f12_32))) hD
      obtain ⟨f12_42, ef12_42⟩ : ∃ z : Int → Int, z = ups f12_32 1 ((σ 12 1) - 1) := ⟨_, rfl⟩
      have hP : va_P G vwCl (wx cx a (sc (sc σ 0 (cpo (σ 0) (σ 1) 107)) 12 f12_42)) H := by rw [ef12_42]; exact hP
      have hD : va_D (XA a) (wx cx a (sc (sc σ 0 (cpo (σ 0) (σ 1) 107)) 12 f12_42)) := by rw [ef12_42]; exact hD
      exact g_vret hex hbc hrt hlocks hK hP hD hS (show sc (sc σ 0 _) 12 _ = sc (sc σ 0 (cpo (σ 0) (σ 1) 107)) 12 f12_42 from by rw [show (cpo (σ 0) (σ 1) (107 * σ 12 0)) = (cpo (σ 0) (σ 1) 107) from by congr 1; omega, show (ups (ups (σ 12) 0 (if 0 < σ 12 0 then σ 12 0 - 1 else 7)) 1 (σ 12 1 - 1)) = f12_42 from by rw [ef12_42, ef12_32]; funext k; unfold ups; (repeat' split) <;> omega]) dX1_pop_45
    · skip
      refine lv_aload_n hex hbc dX1_pop_21 rfl (lv_at hl 0 rfl) ?_
      refine va_get (v := .int (iI (σ 12 0))) hex hbc hts hin1 hown hK hP 17 rfl rfl 1 (by decide) (hts _ (List.mem_of_getElem? (i := 2) rfl)) (fun _ h => h) rfl dX1_pop_22 ?_
      refine lv_iconst (v := iI 1) hex hbc dX1_pop_25 rfl ?_
      refine zt_isub hex hbc dX1_pop_26 ?_
      refine lv_goto (tgt := 32) hex hbc dX1_pop_27 (by decide) ?_
      refine va_put hex hbc hts hin1 tyX1 tyX1_ok nmX1 hown hK hP hD hS 17 rfl rfl 1 (by decide) (hts _ (List.mem_of_getElem? (i := 2) rfl)) (fun _ h => h) rfl (tyX1_ok 1 (by decide)) rfl rfl (Nat.le_of_ble_eq_true rfl) dX1_pop_32 (fun H locs hP hD hS => ?_)
      have hP := leW_P (wx_pf_17_1 (G := G) (cx := cx) (a := a) (σ := (sc σ 0 (cpo (σ 0) (σ 1) 107)))) hP
      have hD := leW_D (wx_pf_17_1 (G := G) (cx := cx) (a := a) (σ := (sc σ 0 (cpo (σ 0) (σ 1) 107)))) hD
      obtain ⟨f12_32, ef12_32⟩ : ∃ z : Int → Int, z = ups (σ 12) 0 ((σ 12 0) - 1) := ⟨_, rfl⟩
      have hP : va_P G vwCl (wx cx a (sc (sc σ 0 (cpo (σ 0) (σ 1) 107)) 12 f12_32)) H := by rw [ef12_32]; exact hP
      have hD : va_D (XA a) (wx cx a (sc (sc σ 0 (cpo (σ 0) (σ 1) 107)) 12 f12_32)) := by rw [ef12_32]; exact hD
      refine lv_aload_n hex hbc dX1_pop_35 rfl (lv_at hl 0 rfl) ?_
      refine lv_dup hex hbc dX1_pop_36 rfl ?_
      refine va_get (v := .int (iI (f12_32 1))) hex hbc hts hin1 hown hK hP 17 rfl rfl 2 (by decide) (hts _ (List.mem_of_getElem? (i := 3) rfl)) (fun _ h => h) rfl dX1_pop_37 ?_
      refine zt_nm (a := (f12_32 1)) (b := (σ 12 1)) (by rw [ef12_32, ups_n _ _ (by omega)]) ?_
      refine lv_iconst (v := iI 1) hex hbc dX1_pop_40 rfl ?_
      refine zt_isub hex hbc dX1_pop_41 ?_
      refine va_put hex hbc hts hin1 tyX1 tyX1_ok nmX1 hown hK hP hD hS 17 rfl rfl 2 (by decide) (hts _ (List.mem_of_getElem? (i := 3) rfl)) (fun _ h => h) rfl (tyX1_ok 2 (by decide)) rfl rfl (Nat.le_of_ble_eq_true rfl) dX1_pop_42 (fun H locs hP hD hS => ?_)
      have hP := leW_P (wx_pf_17_2 (G := G) (cx := cx) (a := a) (σ := (sc (sc σ 0 (cpo (σ 0) (σ 1) 107)) 12 f12_32))) hP
      have hD := leW_D (wx_pf_17_2 (G := G) (cx := cx) (a := a) (σ := (sc (sc σ 0 (cpo (σ 0) (σ 1) 107)) 12 f12_32))) hD
      obtain ⟨f12_42, ef12_42⟩ : ∃ z : Int → Int, z = ups f12_32 1 ((σ 12 1) - 1) := ⟨_, rfl⟩
      have hP : va_P G vwCl (wx cx a (sc (sc σ 0 (cpo (σ 0) (σ 1) 107)) 12 f12_42)) H := by rw [ef12_42]; exact hP
      have hD : va_D (XA a) (wx cx a (sc (sc σ 0 (cpo (σ 0) (σ 1) 107)) 12 f12_42)) := by rw [ef12_42]; exact hD
      exact g_vret hex hbc hrt hlocks hK hP hD hS (show sc (sc σ 0 _) 12 _ = sc (sc σ 0 (cpo (σ 0) (σ 1) 107)) 12 f12_42 from by rw [show (cpo (σ 0) (σ 1) (107 * σ 12 0)) = (cpo (σ 0) (σ 1) 107) from by congr 1; omega, show (ups (ups (σ 12) 0 (if 0 < σ 12 0 then σ 12 0 - 1 else 7)) 1 (σ 12 1 - 1)) = f12_42 from by rw [ef12_42, ef12_32]; funext k; unfold ups; (repeat' split) <;> omega]) dX1_pop_45
  by_cases cq9_2 : (σ 12 0) = 2
  · skip
    refine g_aald (i := (σ 12 0)) (k := 2) (v := a 29) hex hbc hK hP 18 3 rfl rfl (by decide) cq9_2 (by decide) rfl dX1_pop_9 ?_
    refine g_callv [.ref (a 29)] ⟨hex, hbc, hml, hown, hts⟩ (mX2_copy_q2 l G cx a σ  ) (cwV 1 hts gX1_pop_X2_copy rfl rfl rfl (by decide +kernel) ⟨Nat.le_of_ble_eq_true rfl, Nat.le_of_ble_eq_true rfl⟩) hK hP hD hS (fun _ h => h) 3 2 rfl rfl rfl rfl hl.1 (Nat.le_of_ble_eq_true rfl) dX1_pop_10 ⟨Nat.zero_le _, Nat.zero_le _⟩ (fun u_10 H locs hw_10 hP hD hS hz_10 hk_10 => ?_)
    obtain rfl := hw_10
    have hP : va_P G vwCl (wx cx a (sc σ 0 (cpo (σ 0) (σ 1) 214))) H := hP
    have hD : va_D (XA a) (wx cx a (sc σ 0 (cpo (σ 0) (σ 1) 214))) := hD
    refine lv_aload_n hex hbc dX1_pop_13 rfl (lv_at hl 0 rfl) ?_
    refine lv_aload_n hex hbc dX1_pop_14 rfl (lv_at hl 0 rfl) ?_
    refine va_get (v := .int (iI (σ 12 0))) hex hbc hts hin1 hown hK hP 17 rfl rfl 1 (by decide) (hts _ (List.mem_of_getElem? (i := 2) rfl)) (fun _ h => h) rfl dX1_pop_15 ?_
    refine zt_if_le (a := (σ 12 0)) (tgt := 30) hex hbc (by omega) dX1_pop_18 (by decide) (fun c18 => ?_) (fun c18 => ?_)
    · skip
      refine lv_bipush (v := iI 7) hex hbc dX1_pop_30 (by decide) ?_
      refine va_put hex hbc hts hin1 tyX1 tyX1_ok nmX1 hown hK hP hD hS 17 rfl rfl 1 (by decide) (hts _ (List.mem_of_getElem? (i := 2) rfl)) (fun _ h => h) rfl (tyX1_ok 1 (by decide)) rfl rfl (Nat.le_of_ble_eq_true rfl) dX1_pop_32 (fun H locs hP hD hS => ?_)
      have hP := leW_P (wx_pf_17_1 (G := G) (cx := cx) (a := a) (σ := (sc σ 0 (cpo (σ 0) (σ 1) 214)))) hP
      have hD := leW_D (wx_pf_17_1 (G := G) (cx := cx) (a := a) (σ := (sc σ 0 (cpo (σ 0) (σ 1) 214)))) hD
      obtain ⟨f12_32, ef12_32⟩ : ∃ z : Int → Int, z = ups (σ 12) 0 7 := ⟨_, rfl⟩
      have hP : va_P G vwCl (wx cx a (sc (sc σ 0 (cpo (σ 0) (σ 1) 214)) 12 f12_32)) H := by rw [ef12_32]; exact hP
      have hD : va_D (XA a) (wx cx a (sc (sc σ 0 (cpo (σ 0) (σ 1) 214)) 12 f12_32)) := by rw [ef12_32]; exact hD
      refine lv_aload_n hex hbc dX1_pop_35 rfl (lv_at hl 0 rfl) ?_
      refine lv_dup hex hbc dX1_pop_36 rfl ?_
      refine va_get (v := .int (iI (f12_32 1))) hex hbc hts hin1 hown hK hP 17 rfl rfl 2 (by decide) (hts _ (List.mem_of_getElem? (i := 3) rfl)) (fun _ h => h) rfl dX1_pop_37 ?_
      refine zt_nm (a := (f12_32 1)) (b := (σ 12 1)) (by rw [ef12_32, ups_n _ _ (by omega)]) ?_
      refine lv_iconst (v := iI 1) hex hbc dX1_pop_40 rfl ?_
      refine zt_isub hex hbc dX1_pop_41 ?_
      refine va_put hex hbc hts hin1 tyX1 tyX1_ok nmX1 hown hK hP hD hS 17 rfl rfl 2 (by decide) (hts _ (List.mem_of_getElem? (i := 3) rfl)) (fun _ h => h) rfl (tyX1_ok 2 (by decide)) rfl rfl (Nat.le_of_ble_eq_true rfl) dX1_pop_42 (fun H locs hP hD hS => ?_)
      have hP := leW_P (wx_pf_17_2 (G := G) (cx := cx) (a := a) (σ := (sc (sc σ 0 (cpo (σ 0) (σ 1) 214)) 12 f12_32))) hP
      have hD := leW_D (wx_pf_17_2 (G := G) (cx := cx) (a := a) (σ := (sc (sc σ 0 (cpo (σ 0) (σ 1) 214)) 12 f12_32))) hD
      obtain ⟨f12_42, ef12_42⟩ : ∃ z : Int → Int, z = ups f12_32 1 ((σ 12 1) - 1) := ⟨_, rfl⟩
      have hP : va_P G vwCl (wx cx a (sc (sc σ 0 (cpo (σ 0) (σ 1) 214)) 12 f12_42)) H := by rw [ef12_42]; exact hP
      have hD : va_D (XA a) (wx cx a (sc (sc σ 0 (cpo (σ 0) (σ 1) 214)) 12 f12_42)) := by rw [ef12_42]; exact hD
      exact g_vret hex hbc hrt hlocks hK hP hD hS (show sc (sc σ 0 _) 12 _ = sc (sc σ 0 (cpo (σ 0) (σ 1) 214)) 12 f12_42 from by rw [show (cpo (σ 0) (σ 1) (107 * σ 12 0)) = (cpo (σ 0) (σ 1) 214) from by congr 1; omega, show (ups (ups (σ 12) 0 (if 0 < σ 12 0 then σ 12 0 - 1 else 7)) 1 (σ 12 1 - 1)) = f12_42 from by rw [ef12_42, ef12_32]; funext k; unfold ups; (repeat' split) <;> omega]) dX1_pop_45
    · skip
      refine lv_aload_n hex hbc dX1_pop_21 rfl (lv_at hl 0 rfl) ?_
      refine va_get (v := .int (iI (σ 12 0))) hex hbc hts hin1 hown hK hP 17 rfl rfl 1 (by decide) (hts _ (List.mem_of_getElem? (i := 2) rfl)) (fun _ h => h) rfl dX1_pop_22 ?_
      refine lv_iconst (v := iI 1) hex hbc dX1_pop_25 rfl ?_
      refine zt_isub hex hbc dX1_pop_26 ?_
      refine lv_goto (tgt := 32) hex hbc dX1_pop_27 (by decide) ?_
      refine va_put hex hbc hts hin1 tyX1 tyX1_ok nmX1 hown hK hP hD hS 17 rfl rfl 1 (by decide) (hts _ (List.mem_of_getElem? (i := 2) rfl)) (fun _ h => h) rfl (tyX1_ok 1 (by decide)) rfl rfl (Nat.le_of_ble_eq_true rfl) dX1_pop_32 (fun H locs hP hD hS => ?_)
      have hP := leW_P (wx_pf_17_1 (G := G) (cx := cx) (a := a) (σ := (sc σ 0 (cpo (σ 0) (σ 1) 214)))) hP
      have hD := leW_D (wx_pf_17_1 (G := G) (cx := cx) (a := a) (σ := (sc σ 0 (cpo (σ 0) (σ 1) 214)))) hD
      obtain ⟨f12_32, ef12_32⟩ : ∃ z : Int → Int, z = ups (σ 12) 0 ((σ 12 0) - 1) := ⟨_, rfl⟩
      have hP : va_P G vwCl (wx cx a (sc (sc σ 0 (cpo (σ 0) (σ 1) 214)) 12 f12_32)) H := by rw [ef12_32]; exact hP
      have hD : va_D (XA a) (wx cx a (sc (sc σ 0 (cpo (σ 0) (σ 1) 214)) 12 f12_32)) := by rw [ef12_32]; exact hD
      refine lv_aload_n hex hbc dX1_pop_35 rfl (lv_at hl 0 rfl) ?_
      refine lv_dup hex hbc dX1_pop_36 rfl ?_
      refine va_get (v := .int (iI (f12_32 1))) hex hbc hts hin1 hown hK hP 17 rfl rfl 2 (by decide) (hts _ (List.mem_of_getElem? (i := 3) rfl)) (fun _ h => h) rfl dX1_pop_37 ?_
      refine zt_nm (a := (f12_32 1)) (b := (σ 12 1)) (by rw [ef12_32, ups_n _ _ (by omega)]) ?_
      refine lv_iconst (v := iI 1) hex hbc dX1_pop_40 rfl ?_
      refine zt_isub hex hbc dX1_pop_41 ?_
      refine va_put hex hbc hts hin1 tyX1 tyX1_ok nmX1 hown hK hP hD hS 17 rfl rfl 2 (by decide) (hts _ (List.mem_of_getElem? (i := 3) rfl)) (fun _ h => h) rfl (tyX1_ok 2 (by decide)) rfl rfl (Nat.le_of_ble_eq_true rfl) dX1_pop_42 (fun H locs hP hD hS => ?_)
      have hP := leW_P (wx_pf_17_2 (G := G) (cx := cx) (a := a) (σ := (sc (sc σ 0 (cpo (σ 0) (σ 1) 214)) 12 f12_32))) hP
      have hD := leW_D (wx_pf_17_2 (G := G) (cx := cx) (a := a) (σ := (sc (sc σ 0 (cpo (σ 0) (σ 1) 214)) 12 f12_32))) hD
      obtain ⟨f12_42, ef12_42⟩ : ∃ z : Int → Int, z = ups f12_32 1 ((σ 12 1) - 1) := ⟨_, rfl⟩
      have hP : va_P G vwCl (wx cx a (sc (sc σ 0 (cpo (σ 0) (σ 1) 214)) 12 f12_42)) H := by rw [ef12_42]; exact hP
      have hD : va_D (XA a) (wx cx a (sc (sc σ 0 (cpo (σ 0) (σ 1) 214)) 12 f12_42)) := by rw [ef12_42]; exact hD
      exact g_vret hex hbc hrt hlocks hK hP hD hS (show sc (sc σ 0 _) 12 _ = sc (sc σ 0 (cpo (σ 0) (σ 1) 214)) 12 f12_42 from by rw [show (cpo (σ 0) (σ 1) (107 * σ 12 0)) = (cpo (σ 0) (σ 1) 214) from by congr 1; omega, show (ups (ups (σ 12) 0 (if 0 < σ 12 0 then σ 12 0 - 1 else 7)) 1 (σ 12 1 - 1)) = f12_42 from by rw [ef12_42, ef12_32]; funext k; unfold ups; (repeat' split) <;> omega]) dX1_pop_45
  by_cases cq9_3 : (σ 12 0) = 3
  · skip
    refine g_aald (i := (σ 12 0)) (k := 3) (v := a 34) hex hbc hK hP 18 3 rfl rfl (by decide) cq9_3 (by decide) rfl dX1_pop_9 ?_
    refine g_callv [.ref (a 34)] ⟨hex, hbc, hml, hown, hts⟩ (mX2_copy_q3 l G cx a σ  ) (cwV 1 hts gX1_pop_X2_copy rfl rfl rfl (by decide +kernel) ⟨Nat.le_of_ble_eq_true rfl, Nat.le_of_ble_eq_true rfl⟩) hK hP hD hS (fun _ h => h) 3 2 rfl rfl rfl rfl hl.1 (Nat.le_of_ble_eq_true rfl) dX1_pop_10 ⟨Nat.zero_le _, Nat.zero_le _⟩ (fun u_10 H locs hw_10 hP hD hS hz_10 hk_10 => ?_)
    obtain rfl := hw_10
    have hP : va_P G vwCl (wx cx a (sc σ 0 (cpo (σ 0) (σ 1) 321))) H := hP
    have hD : va_D (XA a) (wx cx a (sc σ 0 (cpo (σ 0) (σ 1) 321))) := hD
    refine lv_aload_n hex hbc dX1_pop_13 rfl (lv_at hl 0 rfl) ?_
    refine lv_aload_n hex hbc dX1_pop_14 rfl (lv_at hl 0 rfl) ?_
    refine va_get (v := .int (iI (σ 12 0))) hex hbc hts hin1 hown hK hP 17 rfl rfl 1 (by decide) (hts _ (List.mem_of_getElem? (i := 2) rfl)) (fun _ h => h) rfl dX1_pop_15 ?_
    refine zt_if_le (a := (σ 12 0)) (tgt := 30) hex hbc (by omega) dX1_pop_18 (by decide) (fun c18 => ?_) (fun c18 => ?_)
    · skip
      refine lv_bipush (v := iI 7) hex hbc dX1_pop_30 (by decide) ?_
      refine va_put hex hbc hts hin1 tyX1 tyX1_ok nmX1 hown hK hP hD hS 17 rfl rfl 1 (by decide) (hts _ (List.mem_of_getElem? (i := 2) rfl)) (fun _ h => h) rfl (tyX1_ok 1 (by decide)) rfl rfl (Nat.le_of_ble_eq_true rfl) dX1_pop_32 (fun H locs hP hD hS => ?_)
      have hP := leW_P (wx_pf_17_1 (G := G) (cx := cx) (a := a) (σ := (sc σ 0 (cpo (σ 0) (σ 1) 321)))) hP
      have hD := leW_D (wx_pf_17_1 (G := G) (cx := cx) (a := a) (σ := (sc σ 0 (cpo (σ 0) (σ 1) 321)))) hD
      obtain ⟨f12_32, ef12_32⟩ : ∃ z : Int → Int, z = ups (σ 12) 0 7 := ⟨_, rfl⟩
      have hP : va_P G vwCl (wx cx a (sc (sc σ 0 (cpo (σ 0) (σ 1) 321)) 12 f12_32)) H := by rw [ef12_32]; exact hP
      have hD : va_D (XA a) (wx cx a (sc (sc σ 0 (cpo (σ 0) (σ 1) 321)) 12 f12_32)) := by rw [ef12_32]; exact hD
      refine lv_aload_n hex hbc dX1_pop_35 rfl (lv_at hl 0 rfl) ?_
      refine lv_dup hex hbc dX1_pop_36 rfl ?_
      refine va_get (v := .int (iI (f12_32 1))) hex hbc hts hin1 hown hK hP 17 rfl rfl 2 (by decide) (hts _ (List.mem_of_getElem? (i := 3) rfl)) (fun _ h => h) rfl dX1_pop_37 ?_
      refine zt_nm (a := (f12_32 1)) (b := (σ 12 1)) (by rw [ef12_32, ups_n _ _ (by omega)]) ?_
      refine lv_iconst (v := iI 1) hex hbc dX1_pop_40 rfl ?_
      refine zt_isub hex hbc dX1_pop_41 ?_
      refine va_put hex hbc hts hin1 tyX1 tyX1_ok nmX1 hown hK hP hD hS 17 rfl rfl 2 (by decide) (hts _ (List.mem_of_getElem? (i := 3) rfl)) (fun _ h => h) rfl (tyX1_ok 2 (by decide)) rfl rfl (Nat.le_of_ble_eq_true rfl) dX1_pop_42 (fun H locs hP hD hS => ?_)
      have hP := leW_P (wx_pf_17_2 (G := G) (cx := cx) (a := a) (σ := (sc (sc σ 0 (cpo (σ 0) (σ 1) 321)) 12 f12_32))) hP
      have hD := leW_D (wx_pf_17_2 (G := G) (cx := cx) (a := a) (σ := (sc (sc σ 0 (cpo (σ 0) (σ 1) 321)) 12 f12_32))) hD
      obtain ⟨f12_42, ef12_42⟩ : ∃ z : Int → Int, z = ups f12_32 1 ((σ 12 1) - 1) := ⟨_, rfl⟩
      have hP : va_P G vwCl (wx cx a (sc (sc σ 0 (cpo (σ 0) (σ 1) 321)) 12 f12_42)) H := by rw [ef12_42]; exact hP
      have hD : va_D (XA a) (wx cx a (sc (sc σ 0 (cpo (σ 0) (σ 1) 321)) 12 f12_42)) := by rw [ef12_42]; exact hD
      exact g_vret hex hbc hrt hlocks hK hP hD hS (show sc (sc σ 0 _) 12 _ = sc (sc σ 0 (cpo (σ 0) (σ 1) 321)) 12 f12_42 from by rw [show (cpo (σ 0) (σ 1) (107 * σ 12 0)) = (cpo (σ 0) (σ 1) 321) from by congr 1; omega, show (ups (ups (σ 12) 0 (if 0 < σ 12 0 then σ 12 0 - 1 else 7)) 1 (σ 12 1 - 1)) = f12_42 from by rw [ef12_42, ef12_32]; funext k; unfold ups; (repeat' split) <;> omega]) dX1_pop_45
    · skip
      refine lv_aload_n hex hbc dX1_pop_21 rfl (lv_at hl 0 rfl) ?_
      refine va_get (v := .int (iI (σ 12 0))) hex hbc hts hin1 hown hK hP 17 rfl rfl 1 (by decide) (hts _ (List.mem_of_getElem? (i := 2) rfl)) (fun _ h => h) rfl dX1_pop_22 ?_
      refine lv_iconst (v := iI 1) hex hbc dX1_pop_25 rfl ?_
      refine zt_isub hex hbc dX1_pop_26 ?_
      refine lv_goto (tgt := 32) hex hbc dX1_pop_27 (by decide) ?_
      refine va_put hex hbc hts hin1 tyX1 tyX1_ok nmX1 hown hK hP hD hS 17 rfl rfl 1 (by decide) (hts _ (List.mem_of_getElem? (i := 2) rfl)) (fun _ h => h) rfl (tyX1_ok 1 (by decide)) rfl rfl (Nat.le_of_ble_eq_true rfl) dX1_pop_32 (fun H locs hP hD hS => ?_)
      have hP := leW_P (wx_pf_17_1 (G := G) (cx := cx) (a := a) (σ := (sc σ 0 (cpo (σ 0) (σ 1) 321)))) hP
      have hD := leW_D (wx_pf_17_1 (G := G) (cx := cx) (a := a) (σ := (sc σ 0 (cpo (σ 0) (σ 1) 321)))) hD
      obtain ⟨f12_32, ef12_32⟩ : ∃ z : Int → Int, z = ups (σ 12) 0 ((σ 12 0) - 1) := ⟨_, rfl⟩
      have hP : va_P G vwCl (wx cx a (sc (sc σ 0 (cpo (σ 0) (σ 1) 321)) 12 f12_32)) H := by rw [ef12_32]; exact hP
      have hD : va_D (XA a) (wx cx a (sc (sc σ 0 (cpo (σ 0) (σ 1) 321)) 12 f12_32)) := by rw [ef12_32]; exact hD
      refine lv_aload_n hex hbc dX1_pop_35 rfl (lv_at hl 0 rfl) ?_
      refine lv_dup hex hbc dX1_pop_36 rfl ?_
      refine va_get (v := .int (iI (f12_32 1))) hex hbc hts hin1 hown hK hP 17 rfl rfl 2 (by decide) (hts _ (List.mem_of_getElem? (i := 3) rfl)) (fun _ h => h) rfl dX1_pop_37 ?_
      refine zt_nm (a := (f12_32 1)) (b := (σ 12 1)) (by rw [ef12_32, ups_n _ _ (by omega)]) ?_
      refine lv_iconst (v := iI 1) hex hbc dX1_pop_40 rfl ?_
      refine zt_isub hex hbc dX1_pop_41 ?_
      refine va_put hex hbc hts hin1 tyX1 tyX1_ok nmX1 hown hK hP hD hS 17 rfl rfl 2 (by decide) (hts _ (List.mem_of_getElem? (i := 3) rfl)) (fun _ h => h) rfl (tyX1_ok 2 (by decide)) rfl rfl (Nat.le_of_ble_eq_true rfl) dX1_pop_42 (fun H locs hP hD hS => ?_)
      have hP := leW_P (wx_pf_17_2 (G := G) (cx := cx) (a := a) (σ := (sc (sc σ 0 (cpo (σ 0) (σ 1) 321)) 12 f12_32))) hP
      have hD := leW_D (wx_pf_17_2 (G := G) (cx := cx) (a := a) (σ := (sc (sc σ 0 (cpo (σ 0) (σ 1) 321)) 12 f12_32))) hD
      obtain ⟨f12_42, ef12_42⟩ : ∃ z : Int → Int, z = ups f12_32 1 ((σ 12 1) - 1) := ⟨_, rfl⟩
      have hP : va_P G vwCl (wx cx a (sc (sc σ 0 (cpo (σ 0) (σ 1) 321)) 12 f12_42)) H := by rw [ef12_42]; exact hP
      have hD : va_D (XA a) (wx cx a (sc (sc σ 0 (cpo (σ 0) (σ 1) 321)) 12 f12_42)) := by rw [ef12_42]; exact hD
      exact g_vret hex hbc hrt hlocks hK hP hD hS (show sc (sc σ 0 _) 12 _ = sc (sc σ 0 (cpo (σ 0) (σ 1) 321)) 12 f12_42 from by rw [show (cpo (σ 0) (σ 1) (107 * σ 12 0)) = (cpo (σ 0) (σ 1) 321) from by congr 1; omega, show (ups (ups (σ 12) 0 (if 0 < σ 12 0 then σ 12 0 - 1 else 7)) 1 (σ 12 1 - 1)) = f12_42 from by rw [ef12_42, ef12_32]; funext k; unfold ups; (repeat' split) <;> omega]) dX1_pop_45
  by_cases cq9_4 : (σ 12 0) = 4
  · skip
    refine g_aald (i := (σ 12 0)) (k := 4) (v := a 39) hex hbc hK hP 18 3 rfl rfl (by decide) cq9_4 (by decide) rfl dX1_pop_9 ?_
    refine g_callv [.ref (a 39)] ⟨hex, hbc, hml, hown, hts⟩ (mX2_copy_q4 l G cx a σ  ) (cwV 1 hts gX1_pop_X2_copy rfl rfl rfl (by decide +kernel) ⟨Nat.le_of_ble_eq_true rfl, Nat.le_of_ble_eq_true rfl⟩) hK hP hD hS (fun _ h => h) 3 2 rfl rfl rfl rfl hl.1 (Nat.le_of_ble_eq_true rfl) dX1_pop_10 ⟨Nat.zero_le _, Nat.zero_le _⟩ (fun u_10 H locs hw_10 hP hD hS hz_10 hk_10 => ?_)
    obtain rfl := hw_10
    have hP : va_P G vwCl (wx cx a (sc σ 0 (cpo (σ 0) (σ 1) 428))) H := hP
    have hD : va_D (XA a) (wx cx a (sc σ 0 (cpo (σ 0) (σ 1) 428))) := hD
    refine lv_aload_n hex hbc dX1_pop_13 rfl (lv_at hl 0 rfl) ?_
    refine lv_aload_n hex hbc dX1_pop_14 rfl (lv_at hl 0 rfl) ?_
    refine va_get (v := .int (iI (σ 12 0))) hex hbc hts hin1 hown hK hP 17 rfl rfl 1 (by decide) (hts _ (List.mem_of_getElem? (i := 2) rfl)) (fun _ h => h) rfl dX1_pop_15 ?_
    refine zt_if_le (a := (σ 12 0)) (tgt := 30) hex hbc (by omega) dX1_pop_18 (by decide) (fun c18 => ?_) (fun c18 => ?_)
    · skip
      refine lv_bipush (v := iI 7) hex hbc dX1_pop_30 (by decide) ?_
      refine va_put hex hbc hts hin1 tyX1 tyX1_ok nmX1 hown hK hP hD hS 17 rfl rfl 1 (by decide) (hts _ (List.mem_of_getElem? (i := 2) rfl)) (fun _ h => h) rfl (tyX1_ok 1 (by decide)) rfl rfl (Nat.le_of_ble_eq_true rfl) dX1_pop_32 (fun H locs hP hD hS => ?_)
      have hP := leW_P (wx_pf_17_1 (G := G) (cx := cx) (a := a) (σ := (sc σ 0 (cpo (σ 0) (σ 1) 428)))) hP
      have hD := leW_D (wx_pf_17_1 (G := G) (cx := cx) (a := a) (σ := (sc σ 0 (cpo (σ 0) (σ 1) 428)))) hD
      obtain ⟨f12_32, ef12_32⟩ : ∃ z : Int → Int, z = ups (σ 12) 0 7 := ⟨_, rfl⟩
      have hP : va_P G vwCl (wx cx a (sc (sc σ 0 (cpo (σ 0) (σ 1) 428)) 12 f12_32)) H := by rw [ef12_32]; exact hP
      have hD : va_D (XA a) (wx cx a (sc (sc σ 0 (cpo (σ 0) (σ 1) 428)) 12 f12_32)) := by rw [ef12_32]; exact hD
      refine lv_aload_n hex hbc dX1_pop_35 rfl (lv_at hl 0 rfl) ?_
      refine lv_dup hex hbc dX1_pop_36 rfl ?_
      refine va_get (v := .int (iI (f12_32 1))) hex hbc hts hin1 hown hK hP 17 rfl rfl 2 (by decide) (hts _ (List.mem_of_getElem? (i := 3) rfl)) (fun _ h => h) rfl dX1_pop_37 ?_
      refine zt_nm (a := (f12_32 1)) (b := (σ 12 1)) (by rw [ef12_32, ups_n _ _ (by omega)]) ?_
      refine lv_iconst (v := iI 1) hex hbc dX1_pop_40 rfl ?_
      refine zt_isub hex hbc dX1_pop_41 ?_
      refine va_put hex hbc hts hin1 tyX1 tyX1_ok nmX1 hown hK hP hD hS 17 rfl rfl 2 (by decide) (hts _ (List.mem_of_getElem? (i := 3) rfl)) (fun _ h => h) rfl (tyX1_ok 2 (by decide)) rfl rfl (Nat.le_of_ble_eq_true rfl) dX1_pop_42 (fun H locs hP hD hS => ?_)
      have hP := leW_P (wx_pf_17_2 (G := G) (cx := cx) (a := a) (σ := (sc (sc σ 0 (cpo (σ 0) (σ 1) 428)) 12 f12_32))) hP
      have hD := leW_D (wx_pf_17_2 (G := G) (cx := cx) (a := a) (σ := (sc (sc σ 0 (cpo (σ 0) (σ 1) 428)) 12 f12_32))) hD
      obtain ⟨f12_42, ef12_42⟩ : ∃ z : Int → Int, z = ups f12_32 1 ((σ 12 1) - 1) := ⟨_, rfl⟩
      have hP : va_P G vwCl (wx cx a (sc (sc σ 0 (cpo (σ 0) (σ 1) 428)) 12 f12_42)) H := by rw [ef12_42]; exact hP
      have hD : va_D (XA a) (wx cx a (sc (sc σ 0 (cpo (σ 0) (σ 1) 428)) 12 f12_42)) := by rw [ef12_42]; exact hD
      exact g_vret hex hbc hrt hlocks hK hP hD hS (show sc (sc σ 0 _) 12 _ = sc (sc σ 0 (cpo (σ 0) (σ 1) 428)) 12 f12_42 from by rw [show (cpo (σ 0) (σ 1) (107 * σ 12 0)) = (cpo (σ 0) (σ 1) 428) from by congr 1; omega, show (ups (ups (σ 12) 0 (if 0 < σ 12 0 then σ 12 0 - 1 else 7)) 1 (σ 12 1 - 1)) = f12_42 from by rw [ef12_42, ef12_32]; funext k; unfold ups; (repeat' split) <;> omega]) dX1_pop_45
    · skip
      refine lv_aload_n hex hbc dX1_pop_21 rfl (lv_at hl 0 rfl) ?_
      refine va_get (v := .int (iI (σ 12 0))) hex hbc hts hin1 hown hK hP 17 rfl rfl 1 (by decide) (hts _ (List.mem_of_getElem? (i := 2) rfl)) (fun _ h => h) rfl dX1_pop_22 ?_
      refine lv_iconst (v := iI 1) hex hbc dX1_pop_25 rfl ?_
      refine zt_isub hex hbc dX1_pop_26 ?_
      refine lv_goto (tgt := 32) hex hbc dX1_pop_27 (by decide) ?_
      refine va_put hex hbc hts hin1 tyX1 tyX1_ok nmX1 hown hK hP hD hS 17 rfl rfl 1 (by decide) (hts _ (List.mem_of_getElem? (i := 2) rfl)) (fun _ h => h) rfl (tyX1_ok 1 (by decide)) rfl rfl (Nat.le_of_ble_eq_true rfl) dX1_pop_32 (fun H locs hP hD hS => ?_)
      have hP := leW_P (wx_pf_17_1 (G := G) (cx := cx) (a := a) (σ := (sc σ 0 (cpo (σ 0) (σ 1) 428)))) hP
      have hD := leW_D (wx_pf_17_1 (G := G) (cx := cx) (a := a) (σ := (sc σ 0 (cpo (σ 0) (σ 1) 428)))) hD
      obtain ⟨f12_32, ef12_32⟩ : ∃ z : Int → Int, z = ups (σ 12) 0 ((σ 12 0) - 1) := ⟨_, rfl⟩
      have hP : va_P G vwCl (wx cx a (sc (sc σ 0 (cpo (σ 0) (σ 1) 428)) 12 f12_32)) H := by rw [ef12_32]; exact hP
      have hD : va_D (XA a) (wx cx a (sc (sc σ 0 (cpo (σ 0) (σ 1) 428)) 12 f12_32)) := by rw [ef12_32]; exact hD
      refine lv_aload_n hex hbc dX1_pop_35 rfl (lv_at hl 0 rfl) ?_
      refine lv_dup hex hbc dX1_pop_36 rfl ?_
      refine va_get (v := .int (iI (f12_32 1))) hex hbc hts hin1 hown hK hP 17 rfl rfl 2 (by decide) (hts _ (List.mem_of_getElem? (i := 3) rfl)) (fun _ h => h) rfl dX1_pop_37 ?_
      refine zt_nm (a := (f12_32 1)) (b := (σ 12 1)) (by rw [ef12_32, ups_n _ _ (by omega)]) ?_
      refine lv_iconst (v := iI 1) hex hbc dX1_pop_40 rfl ?_
      refine zt_isub hex hbc dX1_pop_41 ?_
      refine va_put hex hbc hts hin1 tyX1 tyX1_ok nmX1 hown hK hP hD hS 17 rfl rfl 2 (by decide) (hts _ (List.mem_of_getElem? (i := 3) rfl)) (fun _ h => h) rfl (tyX1_ok 2 (by decide)) rfl rfl (Nat.le_of_ble_eq_true rfl) dX1_pop_42 (fun H locs hP hD hS => ?_)
      have hP := leW_P (wx_pf_17_2 (G := G) (cx := cx) (a := a) (σ := (sc (sc σ 0 (cpo (σ 0) (σ 1) 428)) 12 f12_32))) hP
      have hD := leW_D (wx_pf_17_2 (G := G) (cx := cx) (a := a) (σ := (sc (sc σ 0 (cpo (σ 0) (σ 1) 428)) 12 f12_32))) hD
      obtain ⟨f12_42, ef12_42⟩ : ∃ z : Int → Int, z = ups f12_32 1 ((σ 12 1) - 1) := ⟨_, rfl⟩
      have hP : va_P G vwCl (wx cx a (sc (sc σ 0 (cpo (σ 0) (σ 1) 428)) 12 f12_42)) H := by rw [ef12_42]; exact hP
      have hD : va_D (XA a) (wx cx a (sc (sc σ 0 (cpo (σ 0) (σ 1) 428)) 12 f12_42)) := by rw [ef12_42]; exact hD
      exact g_vret hex hbc hrt hlocks hK hP hD hS (show sc (sc σ 0 _) 12 _ = sc (sc σ 0 (cpo (σ 0) (σ 1) 428)) 12 f12_42 from by rw [show (cpo (σ 0) (σ 1) (107 * σ 12 0)) = (cpo (σ 0) (σ 1) 428) from by congr 1; omega, show (ups (ups (σ 12) 0 (if 0 < σ 12 0 then σ 12 0 - 1 else 7)) 1 (σ 12 1 - 1)) = f12_42 from by rw [ef12_42, ef12_32]; funext k; unfold ups; (repeat' split) <;> omega]) dX1_pop_45
  by_cases cq9_5 : (σ 12 0) = 5
  · skip
    refine g_aald (i := (σ 12 0)) (k := 5) (v := a 44) hex hbc hK hP 18 3 rfl rfl (by decide) cq9_5 (by decide) rfl dX1_pop_9 ?_
    refine g_callv [.ref (a 44)] ⟨hex, hbc, hml, hown, hts⟩ (mX2_copy_q5 l G cx a σ  ) (cwV 1 hts gX1_pop_X2_copy rfl rfl rfl (by decide +kernel) ⟨Nat.le_of_ble_eq_true rfl, Nat.le_of_ble_eq_true rfl⟩) hK hP hD hS (fun _ h => h) 3 2 rfl rfl rfl rfl hl.1 (Nat.le_of_ble_eq_true rfl) dX1_pop_10 ⟨Nat.zero_le _, Nat.zero_le _⟩ (fun u_10 H locs hw_10 hP hD hS hz_10 hk_10 => ?_)
    obtain rfl := hw_10
    have hP : va_P G vwCl (wx cx a (sc σ 0 (cpo (σ 0) (σ 1) 535))) H := hP
    have hD : va_D (XA a) (wx cx a (sc σ 0 (cpo (σ 0) (σ 1) 535))) := hD
    refine lv_aload_n hex hbc dX1_pop_13 rfl (lv_at hl 0 rfl) ?_
    refine lv_aload_n hex hbc dX1_pop_14 rfl (lv_at hl 0 rfl) ?_
    refine va_get (v := .int (iI (σ 12 0))) hex hbc hts hin1 hown hK hP 17 rfl rfl 1 (by decide) (hts _ (List.mem_of_getElem? (i := 2) rfl)) (fun _ h => h) rfl dX1_pop_15 ?_
    refine zt_if_le (a := (σ 12 0)) (tgt := 30) hex hbc (by omega) dX1_pop_18 (by decide) (fun c18 => ?_) (fun c18 => ?_)
    · skip
      refine lv_bipush (v := iI 7) hex hbc dX1_pop_30 (by decide) ?_
      refine va_put hex hbc hts hin1 tyX1 tyX1_ok nmX1 hown hK hP hD hS 17 rfl rfl 1 (by decide) (hts _ (List.mem_of_getElem? (i := 2) rfl)) (fun _ h => h) rfl (tyX1_ok 1 (by decide)) rfl rfl (Nat.le_of_ble_eq_true rfl) dX1_pop_32 (fun H locs hP hD hS => ?_)
      have hP := leW_P (wx_pf_17_1 (G := G) (cx := cx) (a := a) (σ := (sc σ 0 (cpo (σ 0) (σ 1) 535)))) hP
      have hD := leW_D (wx_pf_17_1 (G := G) (cx := cx) (a := a) (σ := (sc σ 0 (cpo (σ 0) (σ 1) 535)))) hD
      obtain ⟨f12_32, ef12_32⟩ : ∃ z : Int → Int, z = ups (σ 12) 0 7 := ⟨_, rfl⟩
      have hP : va_P G vwCl (wx cx a (sc (sc σ 0 (cpo (σ 0) (σ 1) 535)) 12 f12_32)) H := by rw [ef12_32]; exact hP
      have hD : va_D (XA a) (wx cx a (sc (sc σ 0 (cpo (σ 0) (σ 1) 535)) 12 f12_32)) := by rw [ef12_32]; exact hD
      refine lv_aload_n hex hbc dX1_pop_35 rfl (lv_at hl 0 rfl) ?_
      refine lv_dup hex hbc dX1_pop_36 rfl ?_
      refine va_get (v := .int (iI (f12_32 1))) hex hbc hts hin1 hown hK hP 17 rfl rfl 2 (by decide) (hts _ (List.mem_of_getElem? (i := 3) rfl)) (fun _ h => h) rfl dX1_pop_37 ?_
      refine zt_nm (a := (f12_32 1)) (b := (σ 12 1)) (by rw [ef12_32, ups_n _ _ (by omega)]) ?_
      refine lv_iconst (v := iI 1) hex hbc dX1_pop_40 rfl ?_
      refine zt_isub hex hbc dX1_pop_41 ?_
      refine va_put hex hbc hts hin1 tyX1 tyX1_ok nmX1 hown hK hP hD hS 17 rfl rfl 2 (by decide) (hts _ (List.mem_of_getElem? (i := 3) rfl)) (fun _ h => h) rfl (tyX1_ok 2 (by decide)) rfl rfl (Nat.le_of_ble_eq_true rfl) dX1_pop_42 (fun H locs hP hD hS => ?_)
      have hP := leW_P (wx_pf_17_2 (G := G) (cx := cx) (a := a) (σ := (sc (sc σ 0 (cpo (σ 0) (σ 1) 535)) 12 f12_32))) hP
      have hD := leW_D (wx_pf_17_2 (G := G) (cx := cx) (a := a) (σ := (sc (sc σ 0 (cpo (σ 0) (σ 1) 535)) 12 f12_32))) hD
      obtain ⟨f12_42, ef12_42⟩ : ∃ z : Int → Int, z = ups f12_32 1 ((σ 12 1) - 1) := ⟨_, rfl⟩
      have hP : va_P G vwCl (wx cx a (sc (sc σ 0 (cpo (σ 0) (σ 1) 535)) 12 f12_42)) H := by rw [ef12_42]; exact hP
      have hD : va_D (XA a) (wx cx a (sc (sc σ 0 (cpo (σ 0) (σ 1) 535)) 12 f12_42)) := by rw [ef12_42]; exact hD
      exact g_vret hex hbc hrt hlocks hK hP hD hS (show sc (sc σ 0 _) 12 _ = sc (sc σ 0 (cpo (σ 0) (σ 1) 535)) 12 f12_42 from by rw [show (cpo (σ 0) (σ 1) (107 * σ 12 0)) = (cpo (σ 0) (σ 1) 535) from by congr 1; omega, show (ups (ups (σ 12) 0 (if 0 < σ 12 0 then σ 12 0 - 1 else 7)) 1 (σ 12 1 - 1)) = f12_42 from by rw [ef12_42, ef12_32]; funext k; unfold ups; (repeat' split) <;> omega]) dX1_pop_45
    · skip
      refine lv_aload_n hex hbc dX1_pop_21 rfl (lv_at hl 0 rfl) ?_
      refine va_get (v := .int (iI (σ 12 0))) hex hbc hts hin1 hown hK hP 17 rfl rfl 1 (by decide) (hts _ (List.mem_of_getElem? (i := 2) rfl)) (fun _ h => h) rfl dX1_pop_22 ?_
      refine lv_iconst (v := iI 1) hex hbc dX1_pop_25 rfl ?_
      refine zt_isub hex hbc dX1_pop_26 ?_
      refine lv_goto (tgt := 32) hex hbc dX1_pop_27 (by decide) ?_
      refine va_put hex hbc hts hin1 tyX1 tyX1_ok nmX1 hown hK hP hD hS 17 rfl rfl 1 (by decide) (hts _ (List.mem_of_getElem? (i := 2) rfl)) (fun _ h => h) rfl (tyX1_ok 1 (by decide)) rfl rfl (Nat.le_of_ble_eq_true rfl) dX1_pop_32 (fun H locs hP hD hS => ?_)
      have hP := leW_P (wx_pf_17_1 (G := G) (cx := cx) (a := a) (σ := (sc σ 0 (cpo (σ 0) (σ 1) 535)))) hP
      have hD := leW_D (wx_pf_17_1 (G := G) (cx := cx) (a := a) (σ := (sc σ 0 (cpo (σ 0) (σ 1) 535)))) hD
      obtain ⟨f12_32, ef12_32⟩ : ∃ z : Int → Int, z = ups (σ 12) 0 ((σ 12 0) - 1) := ⟨_, rfl⟩
      have hP : va_P G vwCl (wx cx a (sc (sc σ 0 (cpo (σ 0) (σ 1) 535)) 12 f12_32)) H := by rw [ef12_32]; exact hP
      have hD : va_D (XA a) (wx cx a (sc (sc σ 0 (cpo (σ 0) (σ 1) 535)) 12 f12_32)) := by rw [ef12_32]; exact hD
      refine lv_aload_n hex hbc dX1_pop_35 rfl (lv_at hl 0 rfl) ?_
      refine lv_dup hex hbc dX1_pop_36 rfl ?_
      refine va_get (v := .int (iI (f12_32 1))) hex hbc hts hin1 hown hK hP 17 rfl rfl 2 (by decide) (hts _ (List.mem_of_getElem? (i := 3) rfl)) (fun _ h => h) rfl dX1_pop_37 ?_
      refine zt_nm (a := (f12_32 1)) (b := (σ 12 1)) (by rw [ef12_32, ups_n _ _ (by omega)]) ?_
      refine lv_iconst (v := iI 1) hex hbc dX1_pop_40 rfl ?_
      refine zt_isub hex hbc dX1_pop_41 ?_
      refine va_put hex hbc hts hin1 tyX1 tyX1_ok nmX1 hown hK hP hD hS 17 rfl rfl 2 (by decide) (hts _ (List.mem_of_getElem? (i := 3) rfl)) (fun _ h => h) rfl (tyX1_ok 2 (by decide)) rfl rfl (Nat.le_of_ble_eq_true rfl) dX1_pop_42 (fun H locs hP hD hS => ?_)
      have hP := leW_P (wx_pf_17_2 (G := G) (cx := cx) (a := a) (σ := (sc (sc σ 0 (cpo (σ 0) (σ 1) 535)) 12 f12_32))) hP
      have hD := leW_D (wx_pf_17_2 (G := G) (cx := cx) (a := a) (σ := (sc (sc σ 0 (cpo (σ 0) (σ 1) 535)) 12 f12_32))) hD
      obtain ⟨f12_42, ef12_42⟩ : ∃ z : Int → Int, z = ups f12_32 1 ((σ 12 1) - 1) := ⟨_, rfl⟩
      have hP : va_P G vwCl (wx cx a (sc (sc σ 0 (cpo (σ 0) (σ 1) 535)) 12 f12_42)) H := by rw [ef12_42]; exact hP
      have hD : va_D (XA a) (wx cx a (sc (sc σ 0 (cpo (σ 0) (σ 1) 535)) 12 f12_42)) := by rw [ef12_42]; exact hD
      exact g_vret hex hbc hrt hlocks hK hP hD hS (show sc (sc σ 0 _) 12 _ = sc (sc σ 0 (cpo (σ 0) (σ 1) 535)) 12 f12_42 from by rw [show (cpo (σ 0) (σ 1) (107 * σ 12 0)) = (cpo (σ 0) (σ 1) 535) from by congr 1; omega, show (ups (ups (σ 12) 0 (if 0 < σ 12 0 then σ 12 0 - 1 else 7)) 1 (σ 12 1 - 1)) = f12_42 from by rw [ef12_42, ef12_32]; funext k; unfold ups; (repeat' split) <;> omega]) dX1_pop_45
  by_cases cq9_6 : (σ 12 0) = 6
  · skip
    refine g_aald (i := (σ 12 0)) (k := 6) (v := a 49) hex hbc hK hP 18 3 rfl rfl (by decide) cq9_6 (by decide) rfl dX1_pop_9 ?_
    refine g_callv [.ref (a 49)] ⟨hex, hbc, hml, hown, hts⟩ (mX2_copy_q6 l G cx a σ  ) (cwV 1 hts gX1_pop_X2_copy rfl rfl rfl (by decide +kernel) ⟨Nat.le_of_ble_eq_true rfl, Nat.le_of_ble_eq_true rfl⟩) hK hP hD hS (fun _ h => h) 3 2 rfl rfl rfl rfl hl.1 (Nat.le_of_ble_eq_true rfl) dX1_pop_10 ⟨Nat.zero_le _, Nat.zero_le _⟩ (fun u_10 H locs hw_10 hP hD hS hz_10 hk_10 => ?_)
    obtain rfl := hw_10
    have hP : va_P G vwCl (wx cx a (sc σ 0 (cpo (σ 0) (σ 1) 642))) H := hP
    have hD : va_D (XA a) (wx cx a (sc σ 0 (cpo (σ 0) (σ 1) 642))) := hD
    refine lv_aload_n hex hbc dX1_pop_13 rfl (lv_at hl 0 rfl) ?_
    refine lv_aload_n hex hbc dX1_pop_14 rfl (lv_at hl 0 rfl) ?_
    refine va_get (v := .int (iI (σ 12 0))) hex hbc hts hin1 hown hK hP 17 rfl rfl 1 (by decide) (hts _ (List.mem_of_getElem? (i := 2) rfl)) (fun _ h => h) rfl dX1_pop_15 ?_
    refine zt_if_le (a := (σ 12 0)) (tgt := 30) hex hbc (by omega) dX1_pop_18 (by decide) (fun c18 => ?_) (fun c18 => ?_)
    · skip
      refine lv_bipush (v := iI 7) hex hbc dX1_pop_30 (by decide) ?_
      refine va_put hex hbc hts hin1 tyX1 tyX1_ok nmX1 hown hK hP hD hS 17 rfl rfl 1 (by decide) (hts _ (List.mem_of_getElem? (i := 2) rfl)) (fun _ h => h) rfl (tyX1_ok 1 (by decide)) rfl rfl (Nat.le_of_ble_eq_true rfl) dX1_pop_32 (fun H locs hP hD hS => ?_)
      have hP := leW_P (wx_pf_17_1 (G := G) (cx := cx) (a := a) (σ := (sc σ 0 (cpo (σ 0) (σ 1) 642)))) hP
      have hD := leW_D (wx_pf_17_1 (G := G) (cx := cx) (a := a) (σ := (sc σ 0 (cpo (σ 0) (σ 1) 642)))) hD
      obtain ⟨f12_32, ef12_32⟩ : ∃ z : Int → Int, z = ups (σ 12) 0 7 := ⟨_, rfl⟩
      have hP : va_P G vwCl (wx cx a (sc (sc σ 0 (cpo (σ 0) (σ 1) 642)) 12 f12_32)) H := by rw [ef12_32]; exact hP
      have hD : va_D (XA a) (wx cx a (sc (sc σ 0 (cpo (σ 0) (σ 1) 642)) 12 f12_32)) := by rw [ef12_32]; exact hD
      refine lv_aload_n hex hbc dX1_pop_35 rfl (lv_at hl 0 rfl) ?_
      refine lv_dup hex hbc dX1_pop_36 rfl ?_
      refine va_get (v := .int (iI (f12_32 1))) hex hbc hts hin1 hown hK hP 17 rfl rfl 2 (by decide) (hts _ (List.mem_of_getElem? (i := 3) rfl)) (fun _ h => h) rfl dX1_pop_37 ?_
      refine zt_nm (a := (f12_32 1)) (b := (σ 12 1)) (by rw [ef12_32, ups_n _ _ (by omega)]) ?_
      refine lv_iconst (v := iI 1) hex hbc dX1_pop_40 rfl ?_
      refine zt_isub hex hbc dX1_pop_41 ?_
      refine va_put hex hbc hts hin1 tyX1 tyX1_ok nmX1 hown hK hP hD hS 17 rfl rfl 2 (by decide) (hts _ (List.mem_of_getElem? (i := 3) rfl)) (fun _ h => h) rfl (tyX1_ok 2 (by decide)) rfl rfl (Nat.le_of_ble_eq_true rfl) dX1_pop_42 (fun H locs hP hD hS => ?_)
      have hP := leW_P (wx_pf_17_2 (G := G) (cx := cx) (a := a) (σ := (sc (sc σ 0 (cpo (σ 0) (σ 1) 642)) 12 f12_32))) hP
      have hD := leW_D (wx_pf_17_2 (G := G) (cx := cx) (a := a) (σ := (sc (sc σ 0 (cpo (σ 0) (σ 1) 642)) 12 f12_32))) hD
      obtain ⟨f12_42, ef12_42⟩ : ∃ z : Int → Int, z = ups f12_32 1 ((σ 12 1) - 1) := ⟨_, rfl⟩
      have hP : va_P G vwCl (wx cx a (sc (sc σ 0 (cpo (σ 0) (σ 1) 642)) 12 f12_42)) H := by rw [ef12_42]; exact hP
      have hD : va_D (XA a) (wx cx a (sc (sc σ 0 (cpo (σ 0) (σ 1) 642)) 12 f12_42)) := by rw [ef12_42]; exact hD
      exact g_vret hex hbc hrt hlocks hK hP hD hS (show sc (sc σ 0 _) 12 _ = sc (sc σ 0 (cpo (σ 0) (σ 1) 642)) 12 f12_42 from by rw [show (cpo (σ 0) (σ 1) (107 * σ 12 0)) = (cpo (σ 0) (σ 1) 642) from by congr 1; omega, show (ups (ups (σ 12) 0 (if 0 < σ 12 0 then σ 12 0 - 1 else 7)) 1 (σ 12 1 - 1)) = f12_42 from by rw [ef12_42, ef12_32]; funext k; unfold ups; (repeat' split) <;> omega]) dX1_pop_45
    · skip
      refine lv_aload_n hex hbc dX1_pop_21 rfl (lv_at hl 0 rfl) ?_
      refine va_get (v := .int (iI (σ 12 0))) hex hbc hts hin1 hown hK hP 17 rfl rfl 1 (by decide) (hts _ (List.mem_of_getElem? (i := 2) rfl)) (fun _ h => h) rfl dX1_pop_22 ?_
      refine lv_iconst (v := iI 1) hex hbc dX1_pop_25 rfl ?_
      refine zt_isub hex hbc dX1_pop_26 ?_
      refine lv_goto (tgt := 32) hex hbc dX1_pop_27 (by decide) ?_
      refine va_put hex hbc hts hin1 tyX1 tyX1_ok nmX1 hown hK hP hD hS 17 rfl rfl 1 (by decide) (hts _ (List.mem_of_getElem? (i := 2) rfl)) (fun _ h => h) rfl (tyX1_ok 1 (by decide)) rfl rfl (Nat.le_of_ble_eq_true rfl) dX1_pop_32 (fun H locs hP hD hS => ?_)
      have hP := leW_P (wx_pf_17_1 (G := G) (cx := cx) (a := a) (σ := (sc σ 0 (cpo (σ 0) (σ 1) 642)))) hP
      have hD := leW_D (wx_pf_17_1 (G := G) (cx := cx) (a := a) (σ := (sc σ 0 (cpo (σ 0) (σ 1) 642)))) hD
      obtain ⟨f12_32, ef12_32⟩ : ∃ z : Int → Int, z = ups (σ 12) 0 ((σ 12 0) - 1) := ⟨_, rfl⟩
      have hP : va_P G vwCl (wx cx a (sc (sc σ 0 (cpo (σ 0) (σ 1) 642)) 12 f12_32)) H := by rw [ef12_32]; exact hP
      have hD : va_D (XA a) (wx cx a (sc (sc σ 0 (cpo (σ 0) (σ 1) 642)) 12 f12_32)) := by rw [ef12_32]; exact hD
      refine lv_aload_n hex hbc dX1_pop_35 rfl (lv_at hl 0 rfl) ?_
      refine lv_dup hex hbc dX1_pop_36 rfl ?_
      refine va_get (v := .int (iI (f12_32 1))) hex hbc hts hin1 hown hK hP 17 rfl rfl 2 (by decide) (hts _ (List.mem_of_getElem? (i := 3) rfl)) (fun _ h => h) rfl dX1_pop_37 ?_
      refine zt_nm (a := (f12_32 1)) (b := (σ 12 1)) (by rw [ef12_32, ups_n _ _ (by omega)]) ?_
      refine lv_iconst (v := iI 1) hex hbc dX1_pop_40 rfl ?_
      refine zt_isub hex hbc dX1_pop_41 ?_
      refine va_put hex hbc hts hin1 tyX1 tyX1_ok nmX1 hown hK hP hD hS 17 rfl rfl 2 (by decide) (hts _ (List.mem_of_getElem? (i := 3) rfl)) (fun _ h => h) rfl (tyX1_ok 2 (by decide)) rfl rfl (Nat.le_of_ble_eq_true rfl) dX1_pop_42 (fun H locs hP hD hS => ?_)
      have hP := leW_P (wx_pf_17_2 (G := G) (cx := cx) (a := a) (σ := (sc (sc σ 0 (cpo (σ 0) (σ 1) 642)) 12 f12_32))) hP
      have hD := leW_D (wx_pf_17_2 (G := G) (cx := cx) (a := a) (σ := (sc (sc σ 0 (cpo (σ 0) (σ 1) 642)) 12 f12_32))) hD
      obtain ⟨f12_42, ef12_42⟩ : ∃ z : Int → Int, z = ups f12_32 1 ((σ 12 1) - 1) := ⟨_, rfl⟩
      have hP : va_P G vwCl (wx cx a (sc (sc σ 0 (cpo (σ 0) (σ 1) 642)) 12 f12_42)) H := by rw [ef12_42]; exact hP
      have hD : va_D (XA a) (wx cx a (sc (sc σ 0 (cpo (σ 0) (σ 1) 642)) 12 f12_42)) := by rw [ef12_42]; exact hD
      exact g_vret hex hbc hrt hlocks hK hP hD hS (show sc (sc σ 0 _) 12 _ = sc (sc σ 0 (cpo (σ 0) (σ 1) 642)) 12 f12_42 from by rw [show (cpo (σ 0) (σ 1) (107 * σ 12 0)) = (cpo (σ 0) (σ 1) 642) from by congr 1; omega, show (ups (ups (σ 12) 0 (if 0 < σ 12 0 then σ 12 0 - 1 else 7)) 1 (σ 12 1 - 1)) = f12_42 from by rw [ef12_42, ef12_32]; funext k; unfold ups; (repeat' split) <;> omega]) dX1_pop_45
  have cq9_7 : (σ 12 0) = 7 := by omega
  refine g_aald (i := (σ 12 0)) (k := 7) (v := a 54) hex hbc hK hP 18 3 rfl rfl (by decide) cq9_7 (by decide) rfl dX1_pop_9 ?_
  refine g_callv [.ref (a 54)] ⟨hex, hbc, hml, hown, hts⟩ (mX2_copy_q7 l G cx a σ  ) (cwV 1 hts gX1_pop_X2_copy rfl rfl rfl (by decide +kernel) ⟨Nat.le_of_ble_eq_true rfl, Nat.le_of_ble_eq_true rfl⟩) hK hP hD hS (fun _ h => h) 3 2 rfl rfl rfl rfl hl.1 (Nat.le_of_ble_eq_true rfl) dX1_pop_10 ⟨Nat.zero_le _, Nat.zero_le _⟩ (fun u_10 H locs hw_10 hP hD hS hz_10 hk_10 => ?_)
  obtain rfl := hw_10
  have hP : va_P G vwCl (wx cx a (sc σ 0 (cpo (σ 0) (σ 1) 749))) H := hP
  have hD : va_D (XA a) (wx cx a (sc σ 0 (cpo (σ 0) (σ 1) 749))) := hD
  refine lv_aload_n hex hbc dX1_pop_13 rfl (lv_at hl 0 rfl) ?_
  refine lv_aload_n hex hbc dX1_pop_14 rfl (lv_at hl 0 rfl) ?_
  refine va_get (v := .int (iI (σ 12 0))) hex hbc hts hin1 hown hK hP 17 rfl rfl 1 (by decide) (hts _ (List.mem_of_getElem? (i := 2) rfl)) (fun _ h => h) rfl dX1_pop_15 ?_
  refine zt_if_le (a := (σ 12 0)) (tgt := 30) hex hbc (by omega) dX1_pop_18 (by decide) (fun c18 => ?_) (fun c18 => ?_)
  · skip
    refine lv_bipush (v := iI 7) hex hbc dX1_pop_30 (by decide) ?_
    refine va_put hex hbc hts hin1 tyX1 tyX1_ok nmX1 hown hK hP hD hS 17 rfl rfl 1 (by decide) (hts _ (List.mem_of_getElem? (i := 2) rfl)) (fun _ h => h) rfl (tyX1_ok 1 (by decide)) rfl rfl (Nat.le_of_ble_eq_true rfl) dX1_pop_32 (fun H locs hP hD hS => ?_)
    have hP := leW_P (wx_pf_17_1 (G := G) (cx := cx) (a := a) (σ := (sc σ 0 (cpo (σ 0) (σ 1) 749)))) hP
    have hD := leW_D (wx_pf_17_1 (G := G) (cx := cx) (a := a) (σ := (sc σ 0 (cpo (σ 0) (σ 1) 749)))) hD
    obtain ⟨f12_32, ef12_32⟩ : ∃ z : Int → Int, z = ups (σ 12) 0 7 := ⟨_, rfl⟩
    have hP : va_P G vwCl (wx cx a (sc (sc σ 0 (cpo (σ 0) (σ 1) 749)) 12 f12_32)) H := by rw [ef12_32]; exact hP
    have hD : va_D (XA a) (wx cx a (sc (sc σ 0 (cpo (σ 0) (σ 1) 749)) 12 f12_32)) := by rw [ef12_32]; exact hD
    refine lv_aload_n hex hbc dX1_pop_35 rfl (lv_at hl 0 rfl) ?_
    refine lv_dup hex hbc dX1_pop_36 rfl ?_
    refine va_get (v := .int (iI (f12_32 1))) hex hbc hts hin1 hown hK hP 17 rfl rfl 2 (by decide) (hts _ (List.mem_of_getElem? (i := 3) rfl)) (fun _ h => h) rfl dX1_pop_37 ?_
    refine zt_nm (a := (f12_32 1)) (b := (σ 12 1)) (by rw [ef12_32, ups_n _ _ (by omega)]) ?_
    refine lv_iconst (v := iI 1) hex hbc dX1_pop_40 rfl ?_
    refine zt_isub hex hbc dX1_pop_41 ?_
    refine va_put hex hbc hts hin1 tyX1 tyX1_ok nmX1 hown hK hP hD hS 17 rfl rfl 2 (by decide) (hts _ (List.mem_of_getElem? (i := 3) rfl)) (fun _ h => h) rfl (tyX1_ok 2 (by decide)) rfl rfl (Nat.le_of_ble_eq_true rfl) dX1_pop_42 (fun H locs hP hD hS => ?_)
    have hP := leW_P (wx_pf_17_2 (G := G) (cx := cx) (a := a) (σ := (sc (sc σ 0 (cpo (σ 0) (σ 1) 749)) 12 f12_32))) hP
    have hD := leW_D (wx_pf_17_2 (G := G) (cx := cx) (a := a) (σ := (sc (sc σ 0 (cpo (σ 0) (σ 1) 749)) 12 f12_32))) hD
    obtain ⟨f12_42, ef12_42⟩ : ∃ z : Int → Int, z = ups f12_32 1 ((σ 12 1) - 1) := ⟨_, rfl⟩
    have hP : va_P G vwCl (wx cx a (sc (sc σ 0 (cpo (σ 0) (σ 1) 749)) 12 f12_42)) H := by rw [ef12_42]; exact hP
    have hD : va_D (XA a) (wx cx a (sc (sc σ 0 (cpo (σ 0) (σ 1) 749)) 12 f12_42)) := by rw [ef12_42]; exact hD
    exact g_vret hex hbc hrt hlocks hK hP hD hS (show sc (sc σ 0 _) 12 _ = sc (sc σ 0 (cpo (σ 0) (σ 1) 749)) 12 f12_42 from by rw [show (cpo (σ 0) (σ 1) (107 * σ 12 0)) = (cpo (σ 0) (σ 1) 749) from by congr 1; omega, show (ups (ups (σ 12) 0 (if 0 < σ 12 0 then σ 12 0 - 1 else 7)) 1 (σ 12 1 - 1)) = f12_42 from by rw [ef12_42, ef12_32]; funext k; unfold ups; (repeat' split) <;> omega]) dX1_pop_45
  · skip
    refine lv_aload_n hex hbc dX1_pop_21 rfl (lv_at hl 0 rfl) ?_
    refine va_get (v := .int (iI (σ 12 0))) hex hbc hts hin1 hown hK hP 17 rfl rfl 1 (by decide) (hts _ (List.mem_of_getElem? (i := 2) rfl)) (fun _ h => h) rfl dX1_pop_22 ?_
    refine lv_iconst (v := iI 1) hex hbc dX1_pop_25 rfl ?_
    refine zt_isub hex hbc dX1_pop_26 ?_
    refine lv_goto (tgt := 32) hex hbc dX1_pop_27 (by decide) ?_
    refine va_put hex hbc hts hin1 tyX1 tyX1_ok nmX1 hown hK hP hD hS 17 rfl rfl 1 (by decide) (hts _ (List.mem_of_getElem? (i := 2) rfl)) (fun _ h => h) rfl (tyX1_ok 1 (by decide)) rfl rfl (Nat.le_of_ble_eq_true rfl) dX1_pop_32 (fun H locs hP hD hS => ?_)
    have hP := leW_P (wx_pf_17_1 (G := G) (cx := cx) (a := a) (σ := (sc σ 0 (cpo (σ 0) (σ 1) 749)))) hP
    have hD := leW_D (wx_pf_17_1 (G := G) (cx := cx) (a := a) (σ := (sc σ 0 (cpo (σ 0) (σ 1) 749)))) hD
    obtain ⟨f12_32, ef12_32⟩ : ∃ z : Int → Int, z = ups (σ 12) 0 ((σ 12 0) - 1) := ⟨_, rfl⟩
    have hP : va_P G vwCl (wx cx a (sc (sc σ 0 (cpo (σ 0) (σ 1) 749)) 12 f12_32)) H := by rw [ef12_32]; exact hP
    have hD : va_D (XA a) (wx cx a (sc (sc σ 0 (cpo (σ 0) (σ 1) 749)) 12 f12_32)) := by rw [ef12_32]; exact hD
    refine lv_aload_n hex hbc dX1_pop_35 rfl (lv_at hl 0 rfl) ?_
    refine lv_dup hex hbc dX1_pop_36 rfl ?_
    refine va_get (v := .int (iI (f12_32 1))) hex hbc hts hin1 hown hK hP 17 rfl rfl 2 (by decide) (hts _ (List.mem_of_getElem? (i := 3) rfl)) (fun _ h => h) rfl dX1_pop_37 ?_
    refine zt_nm (a := (f12_32 1)) (b := (σ 12 1)) (by rw [ef12_32, ups_n _ _ (by omega)]) ?_
    refine lv_iconst (v := iI 1) hex hbc dX1_pop_40 rfl ?_
    refine zt_isub hex hbc dX1_pop_41 ?_
    refine va_put hex hbc hts hin1 tyX1 tyX1_ok nmX1 hown hK hP hD hS 17 rfl rfl 2 (by decide) (hts _ (List.mem_of_getElem? (i := 3) rfl)) (fun _ h => h) rfl (tyX1_ok 2 (by decide)) rfl rfl (Nat.le_of_ble_eq_true rfl) dX1_pop_42 (fun H locs hP hD hS => ?_)
    have hP := leW_P (wx_pf_17_2 (G := G) (cx := cx) (a := a) (σ := (sc (sc σ 0 (cpo (σ 0) (σ 1) 749)) 12 f12_32))) hP
    have hD := leW_D (wx_pf_17_2 (G := G) (cx := cx) (a := a) (σ := (sc (sc σ 0 (cpo (σ 0) (σ 1) 749)) 12 f12_32))) hD
    obtain ⟨f12_42, ef12_42⟩ : ∃ z : Int → Int, z = ups f12_32 1 ((σ 12 1) - 1) := ⟨_, rfl⟩
    have hP : va_P G vwCl (wx cx a (sc (sc σ 0 (cpo (σ 0) (σ 1) 749)) 12 f12_42)) H := by rw [ef12_42]; exact hP
    have hD : va_D (XA a) (wx cx a (sc (sc σ 0 (cpo (σ 0) (σ 1) 749)) 12 f12_42)) := by rw [ef12_42]; exact hD
    exact g_vret hex hbc hrt hlocks hK hP hD hS (show sc (sc σ 0 _) 12 _ = sc (sc σ 0 (cpo (σ 0) (σ 1) 749)) 12 f12_42 from by rw [show (cpo (σ 0) (σ 1) (107 * σ 12 0)) = (cpo (σ 0) (σ 1) 749) from by congr 1; omega, show (ups (ups (σ 12) 0 (if 0 < σ 12 0 then σ 12 0 - 1 else 7)) 1 (σ 12 1 - 1)) = f12_42 from by rw [ef12_42, ef12_32]; funext k; unfold ups; (repeat' split) <;> omega]) dX1_pop_45
