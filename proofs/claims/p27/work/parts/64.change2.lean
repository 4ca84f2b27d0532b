/-! the law: its change (rows laid by wip/gen27) -/
set_option maxHeartbeats 4000000 in
set_option maxRecDepth 100000 in
theorem mL_change (l : Launch) (G : va_G) (cx a : Nat → Nat) (σ : Nat → Int → Int) (tl : Nat) (th : Nat) (xv : Int32) (xm : Int32) (hHs : (0 ≤ σ 12 0 ∧ σ 12 0 ≤ 7) ∧ (0 ≤ σ 12 1 ∧ σ 12 1 ≤ 8)) (hFk : ∀ i, 0 ≤ i → i ≤ 1 → σ 11 i = 0 ∨ σ 11 i = 1) (hI : Inv (σ 0)) : Met l yL_change wsL_change ({ frames := 7, cells := 0, slots := 0, locals := 171 }) (va_Pc [.ref (a 0), .int xv, .int xm] (fun U => gW G (tx cx) (XA a) (wx cx a) σ U ∧ st4 (XA a) tl th U)) (va_Qi (fun r u => ∃ s, XQ_ σ s ∧ PostN (σ 0 0) (σ 0 74) xm s r u (sel (σ 0 74) xv xm)) (gW G (tx cx) (XA a) (wx cx a)) (XA a)) 0 0 (XA a) := by
  refine Met.ofW (cc := cL_change) (maxL := 6) (ret := some .int) (by decide) rfl ?_
  intro p e s m args below meth c s₁ B hml hv
  obtain ⟨rfl, ⟨hP, hK, hD⟩, h4⟩ := hv
  have hex := B.exec
  have hbc := B.bytes
  have hrt := B.returns
  have hts := atoms_spec (ws := wsL_change) B.pre
  have hown : s.vm.findClass RL = some m.cls := findClass_of_methodNamed B.named
  have hlocks := B.notSynchronized
  have hq : XQ_ σ σ := XQ_rf
  have hS : va_S (XA a) s.heap s.heap [] := va_S.rf
  have hl := lv_entry ([.ref (a 0), .int xv, .int xm]) (n := 6) (Nat.le_of_ble_eq_true rfl)
  rw [lg_entry_eq]
  generalize (lg_sl ([.ref (a 0), .int xv, .int xm]) ++ List.replicate (6 - (lg_sl ([.ref (a 0), .int xv, .int xm])).length) Slot.unset).toArray = ls at hl ⊢
  have hl : lv_has ls 6 [(0, .ref (a 0)), (1, .int xv), (2, .int xm)] := hl
  obtain ⟨hB, hEn, hMk, hAs, hPm⟩ := id hI
  refine lv_aload_n hex hbc dL_change_0 rfl (lv_at hl 0 rfl) ?_
  refine lv_iconst (v := iI 0) hex hbc dL_change_1 rfl ?_
  refine g_calli [.int (iI 0)] ⟨hex, hbc, hml, hown, hts⟩ (mX4_told l G cx a σ 0 (by omega) (XQ_I hq hI)) (cwV 1 hts gL_change_X4_told rfl rfl rfl (by decide +kernel) ⟨Nat.le_of_ble_eq_true rfl, Nat.le_of_ble_eq_true rfl⟩) hK hP hD hS (fun _ h => h) 0 4 rfl rfl rfl rfl hl.1 (Nat.le_of_ble_eq_true rfl) dL_change_2 ⟨Nat.zero_le _, Nat.zero_le _⟩ (fun r_2 u_2 H locs hw_2 hP hD hS hz_2 hk_2 => ?_)
  obtain ⟨⟨v_2, hr_2, hv_2⟩, hn_2⟩ := hw_2
  have hv_2 : TD_ (σ 0) (σ 12 1) (0 : Int) v_2 := Eq.mp (congrArg (fun w => TD_ w (σ 12 1) (0 : Int) v_2) hq.1) hv_2
  have ev_2 : v_2 = (σ 0 0) := TD0 hv_2
  rw [ev_2] at hr_2
  subst hr_2
  have hq := XQ_tr hq hn_2
  refine lv_istore_n (lv' := [(3, .int (iI (σ 0 0))), (0, .ref (a 0)), (1, .int xv), (2, .int xm)]) hex hbc dL_change_5 rfl hl (by decide) rfl (fun ls hl => ?_)
  refine lv_aload_n hex hbc dL_change_6 rfl (lv_at hl 1 rfl) ?_
  refine lv_iconst (v := iI 2) hex hbc dL_change_7 rfl ?_
  refine g_calli [.int (iI 2)] ⟨hex, hbc, hml, hown, hts⟩ (mX4_told l G cx a u_2 2 (by omega) (XQ_I hq hI)) (cwV 1 hts gL_change_X4_told rfl rfl rfl (by decide +kernel) ⟨Nat.le_of_ble_eq_true rfl, Nat.le_of_ble_eq_true rfl⟩) hK hP hD hS (fun _ h => h) 0 4 rfl rfl rfl rfl hl.1 (Nat.le_of_ble_eq_true rfl) dL_change_8 ⟨Nat.zero_le _, Nat.zero_le _⟩ (fun r_8 u_8 H locs hw_8 hP hD hS hz_8 hk_8 => ?_)
  obtain ⟨⟨v_8, hr_8, hv_8⟩, hn_8⟩ := hw_8
  have hv_8 : TD_ (σ 0) (u_2 12 1) (2 : Int) v_8 := Eq.mp (congrArg (fun w => TD_ w (u_2 12 1) (2 : Int) v_8) hq.1) hv_8
  have ev_8 : v_8 = (σ 0 74) := TD2 hv_8
  rw [ev_8] at hr_8
  subst hr_8
  have hq := XQ_tr hq hn_8
  refine lv_istore (lv' := [(4, .int (iI (σ 0 74))), (3, .int (iI (σ 0 0))), (0, .ref (a 0)), (1, .int xv), (2, .int xm)]) hex hbc dL_change_11 hl (by decide) rfl (fun ls hl => ?_)
  refine lv_iload_n hex hbc dL_change_13 rfl (lv_at hl 3 rfl) ?_
  refine lv_bipush (v := iI 22) hex hbc dL_change_14 (by decide) ?_
  have hlo_16 : (1 : Int) ≤ 22 ∧ (22 : Int) < 2147483648 := (by omega)
  refine g_callS [.int xv, .int (iI 22)] ⟨hex, hbc, hml, hown, hts⟩ (mL_low l xv 22 hlo_16) (va_cwS 2 hts gL_change_L_low rfl rfl rfl (by decide +kernel) ⟨Nat.le_of_ble_eq_true rfl, Nat.le_of_ble_eq_true rfl⟩) hP hS rfl rfl hl.1 (Nat.le_of_ble_eq_true rfl) dL_change_16 ⟨Nat.zero_le _, Nat.zero_le _⟩ (fun r_16 H locs hw_16 hP hS => ?_)
  subst hw_16
  have hli_16 := lowF_in xv hlo_16.1
  by_cases cs19 : (lowF xv 22) < 0 ∨ 20 < (lowF xv 22)
  · refine lv_tableOut (tgt := 448) hex hbc dL_change_19 (by rw [iI_toInt (by omega)]; exact cs19) (by decide) ?_
    refine lv_iload_n hex hbc dL_change_448 rfl (lv_at hl 4 rfl) ?_
    refine lv_iconst (v := iI 2) hex hbc dL_change_449 rfl ?_
    have hlo_450 : (1 : Int) ≤ 2 ∧ (2 : Int) < 2147483648 := (by omega)
    refine g_callS [.int xm, .int (iI 2)] ⟨hex, hbc, hml, hown, hts⟩ (mL_low l xm 2 hlo_450) (va_cwS 2 hts gL_change_L_low rfl rfl rfl (by decide +kernel) ⟨Nat.le_of_ble_eq_true rfl, Nat.le_of_ble_eq_true rfl⟩) hP hS rfl rfl hl.1 (Nat.le_of_ble_eq_true rfl) dL_change_450 ⟨Nat.zero_le _, Nat.zero_le _⟩ (fun r_450 H locs hw_450 hP hS => ?_)
    subst hw_450
    have hli_450 := lowF_in xm hlo_450.1
    refine zt_if_ne (a := (lowF xm 2)) (tgt := 470) hex hbc (by omega) dL_change_453 (by decide) (fun c453 => ?_) (fun c453 => ?_)
    · skip
      refine lv_aload_n hex hbc dL_change_470 rfl (lv_at hl 2 rfl) ?_
      refine lv_iload_n hex hbc dL_change_471 rfl (lv_at hl 4 rfl) ?_
      refine lv_iconst (v := iI 1) hex hbc dL_change_472 rfl ?_
      refine lv_ishr hex hbc dL_change_473 ?_
      refine lv_iconst (v := iI 2) hex hbc dL_change_474 rfl ?_
      have hlo_475 : (1 : Int) ≤ 2 ∧ (2 : Int) < 2147483648 := (by omega)
      refine g_callS [.int (xm >>> ((iI 1) &&& 31)), .int (iI 2)] ⟨hex, hbc, hml, hown, hts⟩ (mL_low l (xm >>> ((iI 1) &&& 31)) 2 hlo_475) (va_cwS 2 hts gL_change_L_low rfl rfl rfl (by decide +kernel) ⟨Nat.le_of_ble_eq_true rfl, Nat.le_of_ble_eq_true rfl⟩) hP hS rfl rfl hl.1 (Nat.le_of_ble_eq_true rfl) dL_change_475 ⟨Nat.zero_le _, Nat.zero_le _⟩ (fun r_475 H locs hw_475 hP hS => ?_)
      subst hw_475
      have hli_475 := lowF_in (xm >>> ((iI 1) &&& 31)) hlo_475.1
      refine g_calli [.int (iI (lowF (xm >>> ((iI 1) &&& 31)) 2))] ⟨hex, hbc, hml, hown, hts⟩ (mX4_back l G cx a u_8 (lowF (xm >>> ((iI 1) &&& 31)) 2) (by omega) (XQ_fk hq hFk) (XQ_hs hq hHs) (XQ_I hq hI)) (cwV 1 hts gL_change_X4_back rfl rfl rfl (by decide +kernel) ⟨Nat.le_of_ble_eq_true rfl, Nat.le_of_ble_eq_true rfl⟩) hK hP hD hS (fun _ h => h) 0 4 rfl rfl rfl rfl hl.1 (Nat.le_of_ble_eq_true rfl) dL_change_478 ⟨Nat.zero_le _, Nat.zero_le _⟩ (fun r_478 u_478 H locs hw_478 hP hD hS hz_478 hk_478 => ?_)
      exact g_iret hex hbc hrt hlocks hK hP hD hS ⟨u_8, hq, (by rw [sel_22 (by omega) (by omega)]; exact hw_478)⟩ dL_change_481
    · skip
      refine lv_aload_n hex hbc dL_change_456 rfl (lv_at hl 2 rfl) ?_
      refine lv_iload_n hex hbc dL_change_457 rfl (lv_at hl 4 rfl) ?_
      refine lv_iconst (v := iI 1) hex hbc dL_change_458 rfl ?_
      refine lv_ishr hex hbc dL_change_459 ?_
      refine lv_iconst (v := iI 2) hex hbc dL_change_460 rfl ?_
      have hlo_461 : (1 : Int) ≤ 2 ∧ (2 : Int) < 2147483648 := (by omega)
      refine g_callS [.int (xm >>> ((iI 1) &&& 31)), .int (iI 2)] ⟨hex, hbc, hml, hown, hts⟩ (mL_low l (xm >>> ((iI 1) &&& 31)) 2 hlo_461) (va_cwS 2 hts gL_change_L_low rfl rfl rfl (by decide +kernel) ⟨Nat.le_of_ble_eq_true rfl, Nat.le_of_ble_eq_true rfl⟩) hP hS rfl rfl hl.1 (Nat.le_of_ble_eq_true rfl) dL_change_461 ⟨Nat.zero_le _, Nat.zero_le _⟩ (fun r_461 H locs hw_461 hP hS => ?_)
      subst hw_461
      have hli_461 := lowF_in (xm >>> ((iI 1) &&& 31)) hlo_461.1
      refine g_calli [.int (iI (lowF (xm >>> ((iI 1) &&& 31)) 2))] ⟨hex, hbc, hml, hown, hts⟩ (mX4_keep l G cx a u_8 (lowF (xm >>> ((iI 1) &&& 31)) 2) (by omega) (XQ_I hq hI)) (cwV 1 hts gL_change_X4_keep rfl rfl rfl (by decide +kernel) ⟨Nat.le_of_ble_eq_true rfl, Nat.le_of_ble_eq_true rfl⟩) hK hP hD hS (fun _ h => h) 0 4 rfl rfl rfl rfl hl.1 (Nat.le_of_ble_eq_true rfl) dL_change_464 ⟨Nat.zero_le _, Nat.zero_le _⟩ (fun r_464 u_464 H locs hw_464 hP hD hS hz_464 hk_464 => ?_)
      refine lv_goto (tgt := 481) hex hbc dL_change_467 (by decide) ?_
      exact g_iret hex hbc hrt hlocks hK hP hD hS ⟨u_8, hq, (by rw [sel_21 (by omega) (by omega)]; exact hw_464)⟩ dL_change_481
  by_cases cs19_0 : (lowF xv 22) = 0
  · refine zt_nm (a := (lowF xv 22)) (b := 0) cs19_0 ?_
    refine lv_tableIn (off := 97) (tgt := 116) hex hbc dL_change_19 (by decide) (by decide) rfl (by decide) ?_
    refine lv_iload_n hex hbc dL_change_116 rfl (lv_at hl 4 rfl) ?_
    refine lv_iconst (v := iI 4) hex hbc dL_change_117 rfl ?_
    have hlo_118 : (1 : Int) ≤ 4 ∧ (4 : Int) < 2147483648 := (by omega)
    refine g_callS [.int xm, .int (iI 4)] ⟨hex, hbc, hml, hown, hts⟩ (mL_low l xm 4 hlo_118) (va_cwS 2 hts gL_change_L_low rfl rfl rfl (by decide +kernel) ⟨Nat.le_of_ble_eq_true rfl, Nat.le_of_ble_eq_true rfl⟩) hP hS rfl rfl hl.1 (Nat.le_of_ble_eq_true rfl) dL_change_118 ⟨Nat.zero_le _, Nat.zero_le _⟩ (fun r_118 H locs hw_118 hP hS => ?_)
    subst hw_118
    have hli_118 := lowF_in xm hlo_118.1
    refine zt_if_ne (a := (lowF xm 4)) (tgt := 141) hex hbc (by omega) dL_change_121 (by decide) (fun c121 => ?_) (fun c121 => ?_)
    · skip
      refine lv_aload_n hex hbc dL_change_141 rfl (lv_at hl 2 rfl) ?_
      refine g_calli [] ⟨hex, hbc, hml, hown, hts⟩ (mX4_find l G cx a u_8  (XQ_hs hq hHs) (XQ_I hq hI)) (cwV 0 hts gL_change_X4_find rfl rfl rfl (by decide +kernel) ⟨Nat.le_of_ble_eq_true rfl, Nat.le_of_ble_eq_true rfl⟩) hK hP hD hS (fun _ h => h) 0 4 rfl rfl rfl rfl hl.1 (Nat.le_of_ble_eq_true rfl) dL_change_142 ⟨Nat.zero_le _, Nat.zero_le _⟩ (fun r_142 u_142 H locs hw_142 hP hD hS hz_142 hk_142 => ?_)
      exact g_iret hex hbc hrt hlocks hK hP hD hS ⟨u_8, hq, (by rw [sel_1 (by omega) (by omega)]; exact hw_142)⟩ dL_change_145
    · skip
      refine lv_aload_n hex hbc dL_change_124 rfl (lv_at hl 2 rfl) ?_
      refine lv_iconst (v := iI 1) hex hbc dL_change_125 rfl ?_
      refine lv_iload_n hex hbc dL_change_126 rfl (lv_at hl 4 rfl) ?_
      refine lv_iconst (v := iI 2) hex hbc dL_change_127 rfl ?_
      refine lv_ishr hex hbc dL_change_128 ?_
      refine lv_bipush (v := iI 64) hex hbc dL_change_129 (by decide) ?_
      have hlo_131 : (1 : Int) ≤ 64 ∧ (64 : Int) < 2147483648 := (by omega)
      refine g_callS [.int (xm >>> ((iI 2) &&& 31)), .int (iI 64)] ⟨hex, hbc, hml, hown, hts⟩ (mL_low l (xm >>> ((iI 2) &&& 31)) 64 hlo_131) (va_cwS 2 hts gL_change_L_low rfl rfl rfl (by decide +kernel) ⟨Nat.le_of_ble_eq_true rfl, Nat.le_of_ble_eq_true rfl⟩) hP hS rfl rfl hl.1 (Nat.le_of_ble_eq_true rfl) dL_change_131 ⟨Nat.zero_le _, Nat.zero_le _⟩ (fun r_131 H locs hw_131 hP hS => ?_)
      subst hw_131
      have hli_131 := lowF_in (xm >>> ((iI 2) &&& 31)) hlo_131.1
      refine zt_iadd hex hbc dL_change_134 ?_
      refine g_calli [.int (iI (1 + (lowF (xm >>> ((iI 2) &&& 31)) 64)))] ⟨hex, hbc, hml, hown, hts⟩ (mX4_begin l G cx a u_8 (1 + (lowF (xm >>> ((iI 2) &&& 31)) 64)) (by omega) (XQ_hs hq hHs) (XQ_I hq hI)) (cwV 1 hts gL_change_X4_begin rfl rfl rfl (by decide +kernel) ⟨Nat.le_of_ble_eq_true rfl, Nat.le_of_ble_eq_true rfl⟩) hK hP hD hS (fun _ h => h) 0 4 rfl rfl rfl rfl hl.1 (Nat.le_of_ble_eq_true rfl) dL_change_135 ⟨Nat.zero_le _, Nat.zero_le _⟩ (fun r_135 u_135 H locs hw_135 hP hD hS hz_135 hk_135 => ?_)
      refine lv_goto (tgt := 145) hex hbc dL_change_138 (by decide) ?_
      exact g_iret hex hbc hrt hlocks hK hP hD hS ⟨u_8, hq, (by rw [sel_0 (by omega) (by omega)]; exact hw_135)⟩ dL_change_145
  by_cases cs19_1 : (lowF xv 22) = 1
  · refine zt_nm (a := (lowF xv 22)) (b := 1) cs19_1 ?_
    refine lv_tableIn (off := 127) (tgt := 146) hex hbc dL_change_19 (by decide) (by decide) rfl (by decide) ?_
    refine lv_iload_n hex hbc dL_change_146 rfl (lv_at hl 4 rfl) ?_
    refine lv_iload_n hex hbc dL_change_147 rfl (lv_at hl 1 rfl) ?_
    have hlo_148 : (1 : Int) ≤ (σ 0 0) ∧ ((σ 0 0) : Int) < 2147483648 := (by omega)
    refine g_callS [.int xm, .int (iI (σ 0 0))] ⟨hex, hbc, hml, hown, hts⟩ (mL_low l xm (σ 0 0) hlo_148) (va_cwS 2 hts gL_change_L_low rfl rfl rfl (by decide +kernel) ⟨Nat.le_of_ble_eq_true rfl, Nat.le_of_ble_eq_true rfl⟩) hP hS rfl rfl hl.1 (Nat.le_of_ble_eq_true rfl) dL_change_148 ⟨Nat.zero_le _, Nat.zero_le _⟩ (fun r_148 H locs hw_148 hP hS => ?_)
    subst hw_148
    have hli_148 := lowF_in xm hlo_148.1
    refine lv_istore (lv' := [(5, .int (iI (lowF xm (σ 0 0)))), (4, .int (iI (σ 0 74))), (3, .int (iI (σ 0 0))), (0, .ref (a 0)), (1, .int xv), (2, .int xm)]) hex hbc dL_change_151 hl (by decide) rfl (fun ls hl => ?_)
    refine lv_aload_n hex hbc dL_change_153 rfl (lv_at hl 3 rfl) ?_
    refine lv_iload hex hbc dL_change_154 (lv_at hl 0 rfl) ?_
    refine lv_iload hex hbc dL_change_156 (lv_at hl 0 rfl) ?_
    refine lv_iload_n hex hbc dL_change_158 rfl (lv_at hl 5 rfl) ?_
    refine lv_bipush (v := iI 6) hex hbc dL_change_159 (by decide) ?_
    refine lv_ishr hex hbc dL_change_161 ?_
    refine lv_iload_n hex hbc dL_change_162 rfl (lv_at hl 2 rfl) ?_
    refine lv_iload hex hbc dL_change_163 (lv_at hl 0 rfl) ?_
    refine zt_isub hex hbc dL_change_165 ?_
    have hlo_166 : (1 : Int) ≤ ((σ 0 0) - (lowF xm (σ 0 0))) ∧ (((σ 0 0) - (lowF xm (σ 0 0))) : Int) < 2147483648 := (by omega)
    refine g_callS [.int (xm >>> ((iI 6) &&& 31)), .int (iI ((σ 0 0) - (lowF xm (σ 0 0))))] ⟨hex, hbc, hml, hown, hts⟩ (mL_low l (xm >>> ((iI 6) &&& 31)) ((σ 0 0) - (lowF xm (σ 0 0))) hlo_166) (va_cwS 2 hts gL_change_L_low rfl rfl rfl (by decide +kernel) ⟨Nat.le_of_ble_eq_true rfl, Nat.le_of_ble_eq_true rfl⟩) hP hS rfl rfl hl.1 (Nat.le_of_ble_eq_true rfl) dL_change_166 ⟨Nat.zero_le _, Nat.zero_le _⟩ (fun r_166 H locs hw_166 hP hS => ?_)
    subst hw_166
    have hli_166 := lowF_in (xm >>> ((iI 6) &&& 31)) hlo_166.1
    refine zt_iadd hex hbc dL_change_169 ?_
    refine lv_iload_n hex hbc dL_change_170 rfl (lv_at hl 5 rfl) ?_
    refine lv_bipush (v := iI 12) hex hbc dL_change_171 (by decide) ?_
    refine lv_ishr hex hbc dL_change_173 ?_
    refine lv_sipush (v := iI 1000) hex hbc dL_change_174 (by decide) ?_
    have hlo_177 : (1 : Int) ≤ 1000 ∧ (1000 : Int) < 2147483648 := (by omega)
    refine g_callS [.int (xm >>> ((iI 12) &&& 31)), .int (iI 1000)] ⟨hex, hbc, hml, hown, hts⟩ (mL_low l (xm >>> ((iI 12) &&& 31)) 1000 hlo_177) (va_cwS 2 hts gL_change_L_low rfl rfl rfl (by decide +kernel) ⟨Nat.le_of_ble_eq_true rfl, Nat.le_of_ble_eq_true rfl⟩) hP hS rfl rfl hl.1 (Nat.le_of_ble_eq_true rfl) dL_change_177 ⟨Nat.zero_le _, Nat.zero_le _⟩ (fun r_177 H locs hw_177 hP hS => ?_)
    subst hw_177
    have hli_177 := lowF_in (xm >>> ((iI 12) &&& 31)) hlo_177.1
    refine g_calli [.int (iI (lowF xm (σ 0 0))), .int (iI ((lowF xm (σ 0 0)) + (lowF (xm >>> ((iI 6) &&& 31)) ((σ 0 0) - (lowF xm (σ 0 0)))))), .int (iI (lowF (xm >>> ((iI 12) &&& 31)) 1000))] ⟨hex, hbc, hml, hown, hts⟩ (mX4_sound l G cx a u_8 (lowF xm (σ 0 0)) ((lowF xm (σ 0 0)) + (lowF (xm >>> ((iI 6) &&& 31)) ((σ 0 0) - (lowF xm (σ 0 0))))) (lowF (xm >>> ((iI 12) &&& 31)) 1000) (by omega) (by omega) (by omega) (XQ_hs hq hHs) (XQ_I hq hI)) (cwV 3 hts gL_change_X4_sound rfl rfl rfl (by decide +kernel) ⟨Nat.le_of_ble_eq_true rfl, Nat.le_of_ble_eq_true rfl⟩) hK hP hD hS (fun _ h => h) 0 4 rfl rfl rfl rfl hl.1 (Nat.le_of_ble_eq_true rfl) dL_change_180 ⟨Nat.zero_le _, Nat.zero_le _⟩ (fun r_180 u_180 H locs hw_180 hP hD hS hz_180 hk_180 => ?_)
    exact g_iret hex hbc hrt hlocks hK hP hD hS ⟨u_8, hq, (by rw [sel_2 (by omega)]; exact hw_180)⟩ dL_change_183
  by_cases cs19_2 : (lowF xv 22) = 2
  · refine zt_nm (a := (lowF xv 22)) (b := 2) cs19_2 ?_
    refine lv_tableIn (off := 127) (tgt := 146) hex hbc dL_change_19 (by decide) (by decide) rfl (by decide) ?_
    refine lv_iload_n hex hbc dL_change_146 rfl (lv_at hl 4 rfl) ?_
    refine lv_iload_n hex hbc dL_change_147 rfl (lv_at hl 1 rfl) ?_
    have hlo_148 : (1 : Int) ≤ (σ 0 0) ∧ ((σ 0 0) : Int) < 2147483648 := (by omega)
    refine g_callS [.int xm, .int (iI (σ 0 0))] ⟨hex, hbc, hml, hown, hts⟩ (mL_low l xm (σ 0 0) hlo_148) (va_cwS 2 hts gL_change_L_low rfl rfl rfl (by decide +kernel) ⟨Nat.le_of_ble_eq_true rfl, Nat.le_of_ble_eq_true rfl⟩) hP hS rfl rfl hl.1 (Nat.le_of_ble_eq_true rfl) dL_change_148 ⟨Nat.zero_le _, Nat.zero_le _⟩ (fun r_148 H locs hw_148 hP hS => ?_)
    subst hw_148
    have hli_148 := lowF_in xm hlo_148.1
    refine lv_istore (lv' := [(5, .int (iI (lowF xm (σ 0 0)))), (4, .int (iI (σ 0 74))), (3, .int (iI (σ 0 0))), (0, .ref (a 0)), (1, .int xv), (2, .int xm)]) hex hbc dL_change_151 hl (by decide) rfl (fun ls hl => ?_)
    refine lv_aload_n hex hbc dL_change_153 rfl (lv_at hl 3 rfl) ?_
    refine lv_iload hex hbc dL_change_154 (lv_at hl 0 rfl) ?_
    refine lv_iload hex hbc dL_change_156 (lv_at hl 0 rfl) ?_
    refine lv_iload_n hex hbc dL_change_158 rfl (lv_at hl 5 rfl) ?_
    refine lv_bipush (v := iI 6) hex hbc dL_change_159 (by decide) ?_
    refine lv_ishr hex hbc dL_change_161 ?_
    refine lv_iload_n hex hbc dL_change_162 rfl (lv_at hl 2 rfl) ?_
    refine lv_iload hex hbc dL_change_163 (lv_at hl 0 rfl) ?_
    refine zt_isub hex hbc dL_change_165 ?_
    have hlo_166 : (1 : Int) ≤ ((σ 0 0) - (lowF xm (σ 0 0))) ∧ (((σ 0 0) - (lowF xm (σ 0 0))) : Int) < 2147483648 := (by omega)
    refine g_callS [.int (xm >>> ((iI 6) &&& 31)), .int (iI ((σ 0 0) - (lowF xm (σ 0 0))))] ⟨hex, hbc, hml, hown, hts⟩ (mL_low l (xm >>> ((iI 6) &&& 31)) ((σ 0 0) - (lowF xm (σ 0 0))) hlo_166) (va_cwS 2 hts gL_change_L_low rfl rfl rfl (by decide +kernel) ⟨Nat.le_of_ble_eq_true rfl, Nat.le_of_ble_eq_true rfl⟩) hP hS rfl rfl hl.1 (Nat.le_of_ble_eq_true rfl) dL_change_166 ⟨Nat.zero_le _, Nat.zero_le _⟩ (fun r_166 H locs hw_166 hP hS => ?_)
    subst hw_166
    have hli_166 := lowF_in (xm >>> ((iI 6) &&& 31)) hlo_166.1
    refine zt_iadd hex hbc dL_change_169 ?_
    refine lv_iload_n hex hbc dL_change_170 rfl (lv_at hl 5 rfl) ?_
    refine lv_bipush (v := iI 12) hex hbc dL_change_171 (by decide) ?_
    refine lv_ishr hex hbc dL_change_173 ?_
    refine lv_sipush (v := iI 1000) hex hbc dL_change_174 (by decide) ?_
    have hlo_177 : (1 : Int) ≤ 1000 ∧ (1000 : Int) < 2147483648 := (by omega)
    refine g_callS [.int (xm >>> ((iI 12) &&& 31)), .int (iI 1000)] ⟨hex, hbc, hml, hown, hts⟩ (mL_low l (xm >>> ((iI 12) &&& 31)) 1000 hlo_177) (va_cwS 2 hts gL_change_L_low rfl rfl rfl (by decide +kernel) ⟨Nat.le_of_ble_eq_true rfl, Nat.le_of_ble_eq_true rfl⟩) hP hS rfl rfl hl.1 (Nat.le_of_ble_eq_true rfl) dL_change_177 ⟨Nat.zero_le _, Nat.zero_le _⟩ (fun r_177 H locs hw_177 hP hS => ?_)
    subst hw_177
    have hli_177 := lowF_in (xm >>> ((iI 12) &&& 31)) hlo_177.1
    refine g_calli [.int (iI (lowF xm (σ 0 0))), .int (iI ((lowF xm (σ 0 0)) + (lowF (xm >>> ((iI 6) &&& 31)) ((σ 0 0) - (lowF xm (σ 0 0)))))), .int (iI (lowF (xm >>> ((iI 12) &&& 31)) 1000))] ⟨hex, hbc, hml, hown, hts⟩ (mX4_sound l G cx a u_8 (lowF xm (σ 0 0)) ((lowF xm (σ 0 0)) + (lowF (xm >>> ((iI 6) &&& 31)) ((σ 0 0) - (lowF xm (σ 0 0))))) (lowF (xm >>> ((iI 12) &&& 31)) 1000) (by omega) (by omega) (by omega) (XQ_hs hq hHs) (XQ_I hq hI)) (cwV 3 hts gL_change_X4_sound rfl rfl rfl (by decide +kernel) ⟨Nat.le_of_ble_eq_true rfl, Nat.le_of_ble_eq_true rfl⟩) hK hP hD hS (fun _ h => h) 0 4 rfl rfl rfl rfl hl.1 (Nat.le_of_ble_eq_true rfl) dL_change_180 ⟨Nat.zero_le _, Nat.zero_le _⟩ (fun r_180 u_180 H locs hw_180 hP hD hS hz_180 hk_180 => ?_)
    exact g_iret hex hbc hrt hlocks hK hP hD hS ⟨u_8, hq, (by rw [sel_2 (by omega)]; exact hw_180)⟩ dL_change_183
  by_cases cs19_3 : (lowF xv 22) = 3
  · refine zt_nm (a := (lowF xv 22)) (b := 3) cs19_3 ?_
    refine lv_tableIn (off := 127) (tgt := 146) hex hbc dL_change_19 (by decide) (by decide) rfl (by decide) ?_
    refine lv_iload_n hex hbc dL_change_146 rfl (lv_at hl 4 rfl) ?_
    refine lv_iload_n hex hbc dL_change_147 rfl (lv_at hl 1 rfl) ?_
    have hlo_148 : (1 : Int) ≤ (σ 0 0) ∧ ((σ 0 0) : Int) < 2147483648 := (by omega)
    refine g_callS [.int xm, .int (iI (σ 0 0))] ⟨hex, hbc, hml, hown, hts⟩ (mL_low l xm (σ 0 0) hlo_148) (va_cwS 2 hts gL_change_L_low rfl rfl rfl (by decide +kernel) ⟨Nat.le_of_ble_eq_true rfl, Nat.le_of_ble_eq_true rfl⟩) hP hS rfl rfl hl.1 (Nat.le_of_ble_eq_true rfl) dL_change_148 ⟨Nat.zero_le _, Nat.zero_le _⟩ (fun r_148 H locs hw_148 hP hS => ?_)
    subst hw_148
    have hli_148 := lowF_in xm hlo_148.1
    refine lv_istore (lv' := [(5, .int (iI (lowF xm (σ 0 0)))), (4, .int (iI (σ 0 74))), (3, .int (iI (σ 0 0))), (0, .ref (a 0)), (1, .int xv), (2, .int xm)]) hex hbc dL_change_151 hl (by decide) rfl (fun ls hl => ?_)
    refine lv_aload_n hex hbc dL_change_153 rfl (lv_at hl 3 rfl) ?_
    refine lv_iload hex hbc dL_change_154 (lv_at hl 0 rfl) ?_
    refine lv_iload hex hbc dL_change_156 (lv_at hl 0 rfl) ?_
    refine lv_iload_n hex hbc dL_change_158 rfl (lv_at hl 5 rfl) ?_
    refine lv_bipush (v := iI 6) hex hbc dL_change_159 (by decide) ?_
    refine lv_ishr hex hbc dL_change_161 ?_
    refine lv_iload_n hex hbc dL_change_162 rfl (lv_at hl 2 rfl) ?_
    refine lv_iload hex hbc dL_change_163 (lv_at hl 0 rfl) ?_
    refine zt_isub hex hbc dL_change_165 ?_
    have hlo_166 : (1 : Int) ≤ ((σ 0 0) - (lowF xm (σ 0 0))) ∧ (((σ 0 0) - (lowF xm (σ 0 0))) : Int) < 2147483648 := (by omega)
    refine g_callS [.int (xm >>> ((iI 6) &&& 31)), .int (iI ((σ 0 0) - (lowF xm (σ 0 0))))] ⟨hex, hbc, hml, hown, hts⟩ (mL_low l (xm >>> ((iI 6) &&& 31)) ((σ 0 0) - (lowF xm (σ 0 0))) hlo_166) (va_cwS 2 hts gL_change_L_low rfl rfl rfl (by decide +kernel) ⟨Nat.le_of_ble_eq_true rfl, Nat.le_of_ble_eq_true rfl⟩) hP hS rfl rfl hl.1 (Nat.le_of_ble_eq_true rfl) dL_change_166 ⟨Nat.zero_le _, Nat.zero_le _⟩ (fun r_166 H locs hw_166 hP hS => ?_)
    subst hw_166
    have hli_166 := lowF_in (xm >>> ((iI 6) &&& 31)) hlo_166.1
    refine zt_iadd hex hbc dL_change_169 ?_
    refine lv_iload_n hex hbc dL_change_170 rfl (lv_at hl 5 rfl) ?_
    refine lv_bipush (v := iI 12) hex hbc dL_change_171 (by decide) ?_
    refine lv_ishr hex hbc dL_change_173 ?_
    refine lv_sipush (v := iI 1000) hex hbc dL_change_174 (by decide) ?_
    have hlo_177 : (1 : Int) ≤ 1000 ∧ (1000 : Int) < 2147483648 := (by omega)
    refine g_callS [.int (xm >>> ((iI 12) &&& 31)), .int (iI 1000)] ⟨hex, hbc, hml, hown, hts⟩ (mL_low l (xm >>> ((iI 12) &&& 31)) 1000 hlo_177) (va_cwS 2 hts gL_change_L_low rfl rfl rfl (by decide +kernel) ⟨Nat.le_of_ble_eq_true rfl, Nat.le_of_ble_eq_true rfl⟩) hP hS rfl rfl hl.1 (Nat.le_of_ble_eq_true rfl) dL_change_177 ⟨Nat.zero_le _, Nat.zero_le _⟩ (fun r_177 H locs hw_177 hP hS => ?_)
    subst hw_177
    have hli_177 := lowF_in (xm >>> ((iI 12) &&& 31)) hlo_177.1
    refine g_calli [.int (iI (lowF xm (σ 0 0))), .int (iI ((lowF xm (σ 0 0)) + (lowF (xm >>> ((iI 6) &&& 31)) ((σ 0 0) - (lowF xm (σ 0 0)))))), .int (iI (lowF (xm >>> ((iI 12) &&& 31)) 1000))] ⟨hex, hbc, hml, hown, hts⟩ (mX4_sound l G cx a u_8 (lowF xm (σ 0 0)) ((lowF xm (σ 0 0)) + (lowF (xm >>> ((iI 6) &&& 31)) ((σ 0 0) - (lowF xm (σ 0 0))))) (lowF (xm >>> ((iI 12) &&& 31)) 1000) (by omega) (by omega) (by omega) (XQ_hs hq hHs) (XQ_I hq hI)) (cwV 3 hts gL_change_X4_sound rfl rfl rfl (by decide +kernel) ⟨Nat.le_of_ble_eq_true rfl, Nat.le_of_ble_eq_true rfl⟩) hK hP hD hS (fun _ h => h) 0 4 rfl rfl rfl rfl hl.1 (Nat.le_of_ble_eq_true rfl) dL_change_180 ⟨Nat.zero_le _, Nat.zero_le _⟩ (fun r_180 u_180 H locs hw_180 hP hD hS hz_180 hk_180 => ?_)
    exact g_iret hex hbc hrt hlocks hK hP hD hS ⟨u_8, hq, (by rw [sel_2 (by omega)]; exact hw_180)⟩ dL_change_183
  by_cases cs19_4 : (lowF xv 22) = 4
  · refine zt_nm (a := (lowF xv 22)) (b := 4) cs19_4 ?_
    refine lv_tableIn (off := 165) (tgt := 184) hex hbc dL_change_19 (by decide) (by decide) rfl (by decide) ?_
    refine lv_aload_n hex hbc dL_change_184 rfl (lv_at hl 2 rfl) ?_
    refine lv_iconst (v := iI 0) hex hbc dL_change_185 rfl ?_
    refine lv_iconst (v := iI 1) hex hbc dL_change_186 rfl ?_
    refine lv_iload_n hex hbc dL_change_187 rfl (lv_at hl 4 rfl) ?_
    refine lv_sipush (v := iI 300) hex hbc dL_change_188 (by decide) ?_
    have hlo_191 : (1 : Int) ≤ 300 ∧ (300 : Int) < 2147483648 := (by omega)
    refine g_callS [.int xm, .int (iI 300)] ⟨hex, hbc, hml, hown, hts⟩ (mL_low l xm 300 hlo_191) (va_cwS 2 hts gL_change_L_low rfl rfl rfl (by decide +kernel) ⟨Nat.le_of_ble_eq_true rfl, Nat.le_of_ble_eq_true rfl⟩) hP hS rfl rfl hl.1 (Nat.le_of_ble_eq_true rfl) dL_change_191 ⟨Nat.zero_le _, Nat.zero_le _⟩ (fun r_191 H locs hw_191 hP hS => ?_)
    subst hw_191
    have hli_191 := lowF_in xm hlo_191.1
    refine zt_iadd hex hbc dL_change_194 ?_
    refine g_callis [.int (iI 0), .int (iI (1 + (lowF xm 300)))] ⟨hex, hbc, hml, hown, hts⟩ (mX4_set l G cx a u_8 tl th 0 (1 + (lowF xm 300)) (by omega) (by omega) (XQ_hs hq hHs) (XQ_I hq hI)) (cwV 2 hts gL_change_X4_set rfl rfl rfl (by decide +kernel) ⟨Nat.le_of_ble_eq_true rfl, Nat.le_of_ble_eq_true rfl⟩) hK hP hD hS h4 rfl rfl hl.1 (Nat.le_of_ble_eq_true rfl) dL_change_195 ⟨Nat.zero_le _, Nat.zero_le _⟩ (fun r_195 u_195 H locs hw_195 hP hD hS => ?_)
    exact g_iret hex hbc hrt hlocks hK hP hD hS ⟨u_8, hq, (by rw [sel_3 (by omega)]; exact hw_195)⟩ dL_change_198
  by_cases cs19_5 : (lowF xv 22) = 5
  · refine zt_nm (a := (lowF xv 22)) (b := 5) cs19_5 ?_
    refine lv_tableIn (off := 180) (tgt := 199) hex hbc dL_change_19 (by decide) (by decide) rfl (by decide) ?_
    refine lv_aload_n hex hbc dL_change_199 rfl (lv_at hl 2 rfl) ?_
    refine lv_iconst (v := iI 1) hex hbc dL_change_200 rfl ?_
    refine lv_iconst (v := iI 1) hex hbc dL_change_201 rfl ?_
    refine lv_iload_n hex hbc dL_change_202 rfl (lv_at hl 4 rfl) ?_
    refine lv_sipush (v := iI 600) hex hbc dL_change_203 (by decide) ?_
    have hlo_206 : (1 : Int) ≤ 600 ∧ (600 : Int) < 2147483648 := (by omega)
    refine g_callS [.int xm, .int (iI 600)] ⟨hex, hbc, hml, hown, hts⟩ (mL_low l xm 600 hlo_206) (va_cwS 2 hts gL_change_L_low rfl rfl rfl (by decide +kernel) ⟨Nat.le_of_ble_eq_true rfl, Nat.le_of_ble_eq_true rfl⟩) hP hS rfl rfl hl.1 (Nat.le_of_ble_eq_true rfl) dL_change_206 ⟨Nat.zero_le _, Nat.zero_le _⟩ (fun r_206 H locs hw_206 hP hS => ?_)
    subst hw_206
    have hli_206 := lowF_in xm hlo_206.1
    refine zt_iadd hex hbc dL_change_209 ?_
    refine g_callis [.int (iI 1), .int (iI (1 + (lowF xm 600)))] ⟨hex, hbc, hml, hown, hts⟩ (mX4_set l G cx a u_8 tl th 1 (1 + (lowF xm 600)) (by omega) (by omega) (XQ_hs hq hHs) (XQ_I hq hI)) (cwV 2 hts gL_change_X4_set rfl rfl rfl (by decide +kernel) ⟨Nat.le_of_ble_eq_true rfl, Nat.le_of_ble_eq_true rfl⟩) hK hP hD hS h4 rfl rfl hl.1 (Nat.le_of_ble_eq_true rfl) dL_change_210 ⟨Nat.zero_le _, Nat.zero_le _⟩ (fun r_210 u_210 H locs hw_210 hP hD hS => ?_)
    exact g_iret hex hbc hrt hlocks hK hP hD hS ⟨u_8, hq, (by rw [sel_4 (by omega)]; exact hw_210)⟩ dL_change_213
  by_cases cs19_6 : (lowF xv 22) = 6
  · refine zt_nm (a := (lowF xv 22)) (b := 6) cs19_6 ?_
    refine lv_tableIn (off := 195) (tgt := 214) hex hbc dL_change_19 (by decide) (by decide) rfl (by decide) ?_
    refine lv_aload_n hex hbc dL_change_214 rfl (lv_at hl 2 rfl) ?_
    refine lv_iconst (v := iI 2) hex hbc dL_change_215 rfl ?_
    refine lv_iconst (v := iI 1) hex hbc dL_change_216 rfl ?_
    refine lv_iload_n hex hbc dL_change_217 rfl (lv_at hl 4 rfl) ?_
    refine lv_iconst (v := iI 5) hex hbc dL_change_218 rfl ?_
    have hlo_219 : (1 : Int) ≤ 5 ∧ (5 : Int) < 2147483648 := (by omega)
    refine g_callS [.int xm, .int (iI 5)] ⟨hex, hbc, hml, hown, hts⟩ (mL_low l xm 5 hlo_219) (va_cwS 2 hts gL_change_L_low rfl rfl rfl (by decide +kernel) ⟨Nat.le_of_ble_eq_true rfl, Nat.le_of_ble_eq_true rfl⟩) hP hS rfl rfl hl.1 (Nat.le_of_ble_eq_true rfl) dL_change_219 ⟨Nat.zero_le _, Nat.zero_le _⟩ (fun r_219 H locs hw_219 hP hS => ?_)
    subst hw_219
    have hli_219 := lowF_in xm hlo_219.1
    refine zt_iadd hex hbc dL_change_222 ?_
    refine g_callis [.int (iI 2), .int (iI (1 + (lowF xm 5)))] ⟨hex, hbc, hml, hown, hts⟩ (mX4_set l G cx a u_8 tl th 2 (1 + (lowF xm 5)) (by omega) (by omega) (XQ_hs hq hHs) (XQ_I hq hI)) (cwV 2 hts gL_change_X4_set rfl rfl rfl (by decide +kernel) ⟨Nat.le_of_ble_eq_true rfl, Nat.le_of_ble_eq_true rfl⟩) hK hP hD hS h4 rfl rfl hl.1 (Nat.le_of_ble_eq_true rfl) dL_change_223 ⟨Nat.zero_le _, Nat.zero_le _⟩ (fun r_223 u_223 H locs hw_223 hP hD hS => ?_)
    exact g_iret hex hbc hrt hlocks hK hP hD hS ⟨u_8, hq, (by rw [sel_5 (by omega)]; exact hw_223)⟩ dL_change_226
  by_cases cs19_7 : (lowF xv 22) = 7
  · refine zt_nm (a := (lowF xv 22)) (b := 7) cs19_7 ?_
    refine lv_tableIn (off := 208) (tgt := 227) hex hbc dL_change_19 (by decide) (by decide) rfl (by decide) ?_
    refine lv_iload_n hex hbc dL_change_227 rfl (lv_at hl 4 rfl) ?_
    refine lv_iconst (v := iI 2) hex hbc dL_change_228 rfl ?_
    have hlo_229 : (1 : Int) ≤ 2 ∧ (2 : Int) < 2147483648 := (by omega)
    refine g_callS [.int xm, .int (iI 2)] ⟨hex, hbc, hml, hown, hts⟩ (mL_low l xm 2 hlo_229) (va_cwS 2 hts gL_change_L_low rfl rfl rfl (by decide +kernel) ⟨Nat.le_of_ble_eq_true rfl, Nat.le_of_ble_eq_true rfl⟩) hP hS rfl rfl hl.1 (Nat.le_of_ble_eq_true rfl) dL_change_229 ⟨Nat.zero_le _, Nat.zero_le _⟩ (fun r_229 H locs hw_229 hP hS => ?_)
    subst hw_229
    have hli_229 := lowF_in xm hlo_229.1
    refine zt_if_ne (a := (lowF xm 2)) (tgt := 254) hex hbc (by omega) dL_change_232 (by decide) (fun c232 => ?_) (fun c232 => ?_)
    · skip
      refine lv_aload_n hex hbc dL_change_254 rfl (lv_at hl 2 rfl) ?_
      refine lv_iconst (v := iI 4) hex hbc dL_change_255 rfl ?_
      refine lv_bipush (v := iI 100) hex hbc dL_change_256 (by decide) ?_
      refine lv_iload_n hex hbc dL_change_258 rfl (lv_at hl 4 rfl) ?_
      refine lv_iconst (v := iI 1) hex hbc dL_change_259 rfl ?_
      refine lv_ishr hex hbc dL_change_260 ?_
      refine lv_sipush (v := iI 901) hex hbc dL_change_261 (by decide) ?_
      have hlo_264 : (1 : Int) ≤ 901 ∧ (901 : Int) < 2147483648 := (by omega)
      refine g_callS [.int (xm >>> ((iI 1) &&& 31)), .int (iI 901)] ⟨hex, hbc, hml, hown, hts⟩ (mL_low l (xm >>> ((iI 1) &&& 31)) 901 hlo_264) (va_cwS 2 hts gL_change_L_low rfl rfl rfl (by decide +kernel) ⟨Nat.le_of_ble_eq_true rfl, Nat.le_of_ble_eq_true rfl⟩) hP hS rfl rfl hl.1 (Nat.le_of_ble_eq_true rfl) dL_change_264 ⟨Nat.zero_le _, Nat.zero_le _⟩ (fun r_264 H locs hw_264 hP hS => ?_)
      subst hw_264
      have hli_264 := lowF_in (xm >>> ((iI 1) &&& 31)) hlo_264.1
      refine zt_iadd hex hbc dL_change_267 ?_
      refine g_callis [.int (iI 4), .int (iI (100 + (lowF (xm >>> ((iI 1) &&& 31)) 901)))] ⟨hex, hbc, hml, hown, hts⟩ (mX4_set l G cx a u_8 tl th 4 (100 + (lowF (xm >>> ((iI 1) &&& 31)) 901)) (by omega) (by omega) (XQ_hs hq hHs) (XQ_I hq hI)) (cwV 2 hts gL_change_X4_set rfl rfl rfl (by decide +kernel) ⟨Nat.le_of_ble_eq_true rfl, Nat.le_of_ble_eq_true rfl⟩) hK hP hD hS h4 rfl rfl hl.1 (Nat.le_of_ble_eq_true rfl) dL_change_268 ⟨Nat.zero_le _, Nat.zero_le _⟩ (fun r_268 u_268 H locs hw_268 hP hD hS => ?_)
      exact g_iret hex hbc hrt hlocks hK hP hD hS ⟨u_8, hq, (by rw [sel_7 (by omega) (by omega)]; exact hw_268)⟩ dL_change_271
    · skip
      refine lv_aload_n hex hbc dL_change_235 rfl (lv_at hl 2 rfl) ?_
      refine lv_iconst (v := iI 3) hex hbc dL_change_236 rfl ?_
      refine lv_bipush (v := iI 10) hex hbc dL_change_237 (by decide) ?_
      refine lv_iload_n hex hbc dL_change_239 rfl (lv_at hl 4 rfl) ?_
      refine lv_iconst (v := iI 1) hex hbc dL_change_240 rfl ?_
      refine lv_ishr hex hbc dL_change_241 ?_
      refine lv_bipush (v := iI 91) hex hbc dL_change_242 (by decide) ?_
      have hlo_244 : (1 : Int) ≤ 91 ∧ (91 : Int) < 2147483648 := (by omega)
      refine g_callS [.int (xm >>> ((iI 1) &&& 31)), .int (iI 91)] ⟨hex, hbc, hml, hown, hts⟩ (mL_low l (xm >>> ((iI 1) &&& 31)) 91 hlo_244) (va_cwS 2 hts gL_change_L_low rfl rfl rfl (by decide +kernel) ⟨Nat.le_of_ble_eq_true rfl, Nat.le_of_ble_eq_true rfl⟩) hP hS rfl rfl hl.1 (Nat.le_of_ble_eq_true rfl) dL_change_244 ⟨Nat.zero_le _, Nat.zero_le _⟩ (fun r_244 H locs hw_244 hP hS => ?_)
      subst hw_244
      have hli_244 := lowF_in (xm >>> ((iI 1) &&& 31)) hlo_244.1
      refine zt_iadd hex hbc dL_change_247 ?_
      refine g_callis [.int (iI 3), .int (iI (10 + (lowF (xm >>> ((iI 1) &&& 31)) 91)))] ⟨hex, hbc, hml, hown, hts⟩ (mX4_set l G cx a u_8 tl th 3 (10 + (lowF (xm >>> ((iI 1) &&& 31)) 91)) (by omega) (by omega) (XQ_hs hq hHs) (XQ_I hq hI)) (cwV 2 hts gL_change_X4_set rfl rfl rfl (by decide +kernel) ⟨Nat.le_of_ble_eq_true rfl, Nat.le_of_ble_eq_true rfl⟩) hK hP hD hS h4 rfl rfl hl.1 (Nat.le_of_ble_eq_true rfl) dL_change_248 ⟨Nat.zero_le _, Nat.zero_le _⟩ (fun r_248 u_248 H locs hw_248 hP hD hS => ?_)
      refine lv_goto (tgt := 271) hex hbc dL_change_251 (by decide) ?_
      exact g_iret hex hbc hrt hlocks hK hP hD hS ⟨u_8, hq, (by rw [sel_6 (by omega) (by omega)]; exact hw_248)⟩ dL_change_271
  by_cases cs19_8 : (lowF xv 22) = 8
  · refine zt_nm (a := (lowF xv 22)) (b := 8) cs19_8 ?_
    refine lv_tableIn (off := 253) (tgt := 272) hex hbc dL_change_19 (by decide) (by decide) rfl (by decide) ?_
    refine lv_aload_n hex hbc dL_change_272 rfl (lv_at hl 2 rfl) ?_
    refine lv_iconst (v := iI 5) hex hbc dL_change_273 rfl ?_
    refine lv_iconst (v := iI 1) hex hbc dL_change_274 rfl ?_
    refine lv_iload_n hex hbc dL_change_275 rfl (lv_at hl 4 rfl) ?_
    refine lv_sipush (v := iI 9000) hex hbc dL_change_276 (by decide) ?_
    have hlo_279 : (1 : Int) ≤ 9000 ∧ (9000 : Int) < 2147483648 := (by omega)
    refine g_callS [.int xm, .int (iI 9000)] ⟨hex, hbc, hml, hown, hts⟩ (mL_low l xm 9000 hlo_279) (va_cwS 2 hts gL_change_L_low rfl rfl rfl (by decide +kernel) ⟨Nat.le_of_ble_eq_true rfl, Nat.le_of_ble_eq_true rfl⟩) hP hS rfl rfl hl.1 (Nat.le_of_ble_eq_true rfl) dL_change_279 ⟨Nat.zero_le _, Nat.zero_le _⟩ (fun r_279 H locs hw_279 hP hS => ?_)
    subst hw_279
    have hli_279 := lowF_in xm hlo_279.1
    refine zt_iadd hex hbc dL_change_282 ?_
    refine g_callis [.int (iI 5), .int (iI (1 + (lowF xm 9000)))] ⟨hex, hbc, hml, hown, hts⟩ (mX4_set l G cx a u_8 tl th 5 (1 + (lowF xm 9000)) (by omega) (by omega) (XQ_hs hq hHs) (XQ_I hq hI)) (cwV 2 hts gL_change_X4_set rfl rfl rfl (by decide +kernel) ⟨Nat.le_of_ble_eq_true rfl, Nat.le_of_ble_eq_true rfl⟩) hK hP hD hS h4 rfl rfl hl.1 (Nat.le_of_ble_eq_true rfl) dL_change_283 ⟨Nat.zero_le _, Nat.zero_le _⟩ (fun r_283 u_283 H locs hw_283 hP hD hS => ?_)
    exact g_iret hex hbc hrt hlocks hK hP hD hS ⟨u_8, hq, (by rw [sel_8 (by omega)]; exact hw_283)⟩ dL_change_286
  by_cases cs19_9 : (lowF xv 22) = 9
  · refine zt_nm (a := (lowF xv 22)) (b := 9) cs19_9 ?_
    refine lv_tableIn (off := 268) (tgt := 287) hex hbc dL_change_19 (by decide) (by decide) rfl (by decide) ?_
    refine lv_aload_n hex hbc dL_change_287 rfl (lv_at hl 2 rfl) ?_
    refine lv_bipush (v := iI 6) hex hbc dL_change_288 (by decide) ?_
    refine lv_iconst (v := iI 1) hex hbc dL_change_290 rfl ?_
    refine lv_iload_n hex hbc dL_change_291 rfl (lv_at hl 4 rfl) ?_
    refine lv_bipush (v := iI 32) hex hbc dL_change_292 (by decide) ?_
    have hlo_294 : (1 : Int) ≤ 32 ∧ (32 : Int) < 2147483648 := (by omega)
    refine g_callS [.int xm, .int (iI 32)] ⟨hex, hbc, hml, hown, hts⟩ (mL_low l xm 32 hlo_294) (va_cwS 2 hts gL_change_L_low rfl rfl rfl (by decide +kernel) ⟨Nat.le_of_ble_eq_true rfl, Nat.le_of_ble_eq_true rfl⟩) hP hS rfl rfl hl.1 (Nat.le_of_ble_eq_true rfl) dL_change_294 ⟨Nat.zero_le _, Nat.zero_le _⟩ (fun r_294 H locs hw_294 hP hS => ?_)
    subst hw_294
    have hli_294 := lowF_in xm hlo_294.1
    refine zt_iadd hex hbc dL_change_297 ?_
    refine g_callis [.int (iI 6), .int (iI (1 + (lowF xm 32)))] ⟨hex, hbc, hml, hown, hts⟩ (mX4_set l G cx a u_8 tl th 6 (1 + (lowF xm 32)) (by omega) (by omega) (XQ_hs hq hHs) (XQ_I hq hI)) (cwV 2 hts gL_change_X4_set rfl rfl rfl (by decide +kernel) ⟨Nat.le_of_ble_eq_true rfl, Nat.le_of_ble_eq_true rfl⟩) hK hP hD hS h4 rfl rfl hl.1 (Nat.le_of_ble_eq_true rfl) dL_change_298 ⟨Nat.zero_le _, Nat.zero_le _⟩ (fun r_298 u_298 H locs hw_298 hP hD hS => ?_)
    exact g_iret hex hbc hrt hlocks hK hP hD hS ⟨u_8, hq, (by rw [sel_9 (by omega)]; exact hw_298)⟩ dL_change_301
  by_cases cs19_10 : (lowF xv 22) = 10
  · refine zt_nm (a := (lowF xv 22)) (b := 10) cs19_10 ?_
    refine lv_tableIn (off := 283) (tgt := 302) hex hbc dL_change_19 (by decide) (by decide) rfl (by decide) ?_
    refine lv_aload_n hex hbc dL_change_302 rfl (lv_at hl 2 rfl) ?_
    refine lv_bipush (v := iI 7) hex hbc dL_change_303 (by decide) ?_
    refine lv_iload_n hex hbc dL_change_305 rfl (lv_at hl 4 rfl) ?_
    refine lv_iconst (v := iI 2) hex hbc dL_change_306 rfl ?_
    have hlo_307 : (1 : Int) ≤ 2 ∧ (2 : Int) < 2147483648 := (by omega)
    refine g_callS [.int xm, .int (iI 2)] ⟨hex, hbc, hml, hown, hts⟩ (mL_low l xm 2 hlo_307) (va_cwS 2 hts gL_change_L_low rfl rfl rfl (by decide +kernel) ⟨Nat.le_of_ble_eq_true rfl, Nat.le_of_ble_eq_true rfl⟩) hP hS rfl rfl hl.1 (Nat.le_of_ble_eq_true rfl) dL_change_307 ⟨Nat.zero_le _, Nat.zero_le _⟩ (fun r_307 H locs hw_307 hP hS => ?_)
    subst hw_307
    have hli_307 := lowF_in xm hlo_307.1
    refine g_callis [.int (iI 7), .int (iI (lowF xm 2))] ⟨hex, hbc, hml, hown, hts⟩ (mX4_set l G cx a u_8 tl th 7 (lowF xm 2) (by omega) (by omega) (XQ_hs hq hHs) (XQ_I hq hI)) (cwV 2 hts gL_change_X4_set rfl rfl rfl (by decide +kernel) ⟨Nat.le_of_ble_eq_true rfl, Nat.le_of_ble_eq_true rfl⟩) hK hP hD hS h4 rfl rfl hl.1 (Nat.le_of_ble_eq_true rfl) dL_change_310 ⟨Nat.zero_le _, Nat.zero_le _⟩ (fun r_310 u_310 H locs hw_310 hP hD hS => ?_)
    exact g_iret hex hbc hrt hlocks hK hP hD hS ⟨u_8, hq, (by rw [sel_10 (by omega)]; exact hw_310)⟩ dL_change_313
  by_cases cs19_11 : (lowF xv 22) = 11
  · refine zt_nm (a := (lowF xv 22)) (b := 11) cs19_11 ?_
    refine lv_tableIn (off := 283) (tgt := 302) hex hbc dL_change_19 (by decide) (by decide) rfl (by decide) ?_
    refine lv_aload_n hex hbc dL_change_302 rfl (lv_at hl 2 rfl) ?_
    refine lv_bipush (v := iI 7) hex hbc dL_change_303 (by decide) ?_
    refine lv_iload_n hex hbc dL_change_305 rfl (lv_at hl 4 rfl) ?_
    refine lv_iconst (v := iI 2) hex hbc dL_change_306 rfl ?_
    have hlo_307 : (1 : Int) ≤ 2 ∧ (2 : Int) < 2147483648 := (by omega)
    refine g_callS [.int xm, .int (iI 2)] ⟨hex, hbc, hml, hown, hts⟩ (mL_low l xm 2 hlo_307) (va_cwS 2 hts gL_change_L_low rfl rfl rfl (by decide +kernel) ⟨Nat.le_of_ble_eq_true rfl, Nat.le_of_ble_eq_true rfl⟩) hP hS rfl rfl hl.1 (Nat.le_of_ble_eq_true rfl) dL_change_307 ⟨Nat.zero_le _, Nat.zero_le _⟩ (fun r_307 H locs hw_307 hP hS => ?_)
    subst hw_307
    have hli_307 := lowF_in xm hlo_307.1
    refine g_callis [.int (iI 7), .int (iI (lowF xm 2))] ⟨hex, hbc, hml, hown, hts⟩ (mX4_set l G cx a u_8 tl th 7 (lowF xm 2) (by omega) (by omega) (XQ_hs hq hHs) (XQ_I hq hI)) (cwV 2 hts gL_change_X4_set rfl rfl rfl (by decide +kernel) ⟨Nat.le_of_ble_eq_true rfl, Nat.le_of_ble_eq_true rfl⟩) hK hP hD hS h4 rfl rfl hl.1 (Nat.le_of_ble_eq_true rfl) dL_change_310 ⟨Nat.zero_le _, Nat.zero_le _⟩ (fun r_310 u_310 H locs hw_310 hP hD hS => ?_)
    exact g_iret hex hbc hrt hlocks hK hP hD hS ⟨u_8, hq, (by rw [sel_10 (by omega)]; exact hw_310)⟩ dL_change_313
  by_cases cs19_12 : (lowF xv 22) = 12
  · refine zt_nm (a := (lowF xv 22)) (b := 12) cs19_12 ?_
    refine lv_tableIn (off := 295) (tgt := 314) hex hbc dL_change_19 (by decide) (by decide) rfl (by decide) ?_
    refine lv_aload_n hex hbc dL_change_314 rfl (lv_at hl 2 rfl) ?_
    refine lv_bipush (v := iI 8) hex hbc dL_change_315 (by decide) ?_
    refine lv_iload_n hex hbc dL_change_317 rfl (lv_at hl 4 rfl) ?_
    refine lv_sipush (v := iI 501) hex hbc dL_change_318 (by decide) ?_
    have hlo_321 : (1 : Int) ≤ 501 ∧ (501 : Int) < 2147483648 := (by omega)
    refine g_callS [.int xm, .int (iI 501)] ⟨hex, hbc, hml, hown, hts⟩ (mL_low l xm 501 hlo_321) (va_cwS 2 hts gL_change_L_low rfl rfl rfl (by decide +kernel) ⟨Nat.le_of_ble_eq_true rfl, Nat.le_of_ble_eq_true rfl⟩) hP hS rfl rfl hl.1 (Nat.le_of_ble_eq_true rfl) dL_change_321 ⟨Nat.zero_le _, Nat.zero_le _⟩ (fun r_321 H locs hw_321 hP hS => ?_)
    subst hw_321
    have hli_321 := lowF_in xm hlo_321.1
    refine g_callis [.int (iI 8), .int (iI (lowF xm 501))] ⟨hex, hbc, hml, hown, hts⟩ (mX4_set l G cx a u_8 tl th 8 (lowF xm 501) (by omega) (by omega) (XQ_hs hq hHs) (XQ_I hq hI)) (cwV 2 hts gL_change_X4_set rfl rfl rfl (by decide +kernel) ⟨Nat.le_of_ble_eq_true rfl, Nat.le_of_ble_eq_true rfl⟩) hK hP hD hS h4 rfl rfl hl.1 (Nat.le_of_ble_eq_true rfl) dL_change_324 ⟨Nat.zero_le _, Nat.zero_le _⟩ (fun r_324 u_324 H locs hw_324 hP hD hS => ?_)
    exact g_iret hex hbc hrt hlocks hK hP hD hS ⟨u_8, hq, (by rw [sel_11 (by omega)]; exact hw_324)⟩ dL_change_327
  by_cases cs19_13 : (lowF xv 22) = 13
  · refine zt_nm (a := (lowF xv 22)) (b := 13) cs19_13 ?_
    refine lv_tableIn (off := 309) (tgt := 328) hex hbc dL_change_19 (by decide) (by decide) rfl (by decide) ?_
    refine lv_aload_n hex hbc dL_change_328 rfl (lv_at hl 2 rfl) ?_
    refine g_calli [] ⟨hex, hbc, hml, hown, hts⟩ (mX4_find l G cx a u_8  (XQ_hs hq hHs) (XQ_I hq hI)) (cwV 0 hts gL_change_X4_find rfl rfl rfl (by decide +kernel) ⟨Nat.le_of_ble_eq_true rfl, Nat.le_of_ble_eq_true rfl⟩) hK hP hD hS (fun _ h => h) 0 4 rfl rfl rfl rfl hl.1 (Nat.le_of_ble_eq_true rfl) dL_change_329 ⟨Nat.zero_le _, Nat.zero_le _⟩ (fun r_329 u_329 H locs hw_329 hP hD hS hz_329 hk_329 => ?_)
    exact g_iret hex hbc hrt hlocks hK hP hD hS ⟨u_8, hq, (by rw [sel_12 (by omega)]; exact hw_329)⟩ dL_change_332
  by_cases cs19_14 : (lowF xv 22) = 14
  · refine zt_nm (a := (lowF xv 22)) (b := 14) cs19_14 ?_
    refine lv_tableIn (off := 314) (tgt := 333) hex hbc dL_change_19 (by decide) (by decide) rfl (by decide) ?_
    refine lv_aload_n hex hbc dL_change_333 rfl (lv_at hl 2 rfl) ?_
    refine lv_iload_n hex hbc dL_change_334 rfl (lv_at hl 4 rfl) ?_
    refine lv_iload_n hex hbc dL_change_335 rfl (lv_at hl 1 rfl) ?_
    have hlo_336 : (1 : Int) ≤ (σ 0 0) ∧ ((σ 0 0) : Int) < 2147483648 := (by omega)
    refine g_callS [.int xm, .int (iI (σ 0 0))] ⟨hex, hbc, hml, hown, hts⟩ (mL_low l xm (σ 0 0) hlo_336) (va_cwS 2 hts gL_change_L_low rfl rfl rfl (by decide +kernel) ⟨Nat.le_of_ble_eq_true rfl, Nat.le_of_ble_eq_true rfl⟩) hP hS rfl rfl hl.1 (Nat.le_of_ble_eq_true rfl) dL_change_336 ⟨Nat.zero_le _, Nat.zero_le _⟩ (fun r_336 H locs hw_336 hP hS => ?_)
    subst hw_336
    have hli_336 := lowF_in xm hlo_336.1
    refine g_calli [.int (iI (lowF xm (σ 0 0)))] ⟨hex, hbc, hml, hown, hts⟩ (mX4_mark l G cx a u_8 (lowF xm (σ 0 0)) (by omega) (XQ_hs hq hHs) (XQ_I hq hI)) (cwV 1 hts gL_change_X4_mark rfl rfl rfl (by decide +kernel) ⟨Nat.le_of_ble_eq_true rfl, Nat.le_of_ble_eq_true rfl⟩) hK hP hD hS (fun _ h => h) 0 4 rfl rfl rfl rfl hl.1 (Nat.le_of_ble_eq_true rfl) dL_change_339 ⟨Nat.zero_le _, Nat.zero_le _⟩ (fun r_339 u_339 H locs hw_339 hP hD hS hz_339 hk_339 => ?_)
    exact g_iret hex hbc hrt hlocks hK hP hD hS ⟨u_8, hq, (by rw [sel_13 (by omega)]; exact hw_339)⟩ dL_change_342
  by_cases cs19_15 : (lowF xv 22) = 15
  · refine zt_nm (a := (lowF xv 22)) (b := 15) cs19_15 ?_
    refine lv_tableIn (off := 314) (tgt := 333) hex hbc dL_change_19 (by decide) (by decide) rfl (by decide) ?_
    refine lv_aload_n hex hbc dL_change_333 rfl (lv_at hl 2 rfl) ?_
    refine lv_iload_n hex hbc dL_change_334 rfl (lv_at hl 4 rfl) ?_
    refine lv_iload_n hex hbc dL_change_335 rfl (lv_at hl 1 rfl) ?_
    have hlo_336 : (1 : Int) ≤ (σ 0 0) ∧ ((σ 0 0) : Int) < 2147483648 := (by omega)
    refine g_callS [.int xm, .int (iI (σ 0 0))] ⟨hex, hbc, hml, hown, hts⟩ (mL_low l xm (σ 0 0) hlo_336) (va_cwS 2 hts gL_change_L_low rfl rfl rfl (by decide +kernel) ⟨Nat.le_of_ble_eq_true rfl, Nat.le_of_ble_eq_true rfl⟩) hP hS rfl rfl hl.1 (Nat.le_of_ble_eq_true rfl) dL_change_336 ⟨Nat.zero_le _, Nat.zero_le _⟩ (fun r_336 H locs hw_336 hP hS => ?_)
    subst hw_336
    have hli_336 := lowF_in xm hlo_336.1
    refine g_calli [.int (iI (lowF xm (σ 0 0)))] ⟨hex, hbc, hml, hown, hts⟩ (mX4_mark l G cx a u_8 (lowF xm (σ 0 0)) (by omega) (XQ_hs hq hHs) (XQ_I hq hI)) (cwV 1 hts gL_change_X4_mark rfl rfl rfl (by decide +kernel) ⟨Nat.le_of_ble_eq_true rfl, Nat.le_of_ble_eq_true rfl⟩) hK hP hD hS (fun _ h => h) 0 4 rfl rfl rfl rfl hl.1 (Nat.le_of_ble_eq_true rfl) dL_change_339 ⟨Nat.zero_le _, Nat.zero_le _⟩ (fun r_339 u_339 H locs hw_339 hP hD hS hz_339 hk_339 => ?_)
    exact g_iret hex hbc hrt hlocks hK hP hD hS ⟨u_8, hq, (by rw [sel_13 (by omega)]; exact hw_339)⟩ dL_change_342
  by_cases cs19_16 : (lowF xv 22) = 16
  · refine zt_nm (a := (lowF xv 22)) (b := 16) cs19_16 ?_
    refine lv_tableIn (off := 314) (tgt := 333) hex hbc dL_change_19 (by decide) (by decide) rfl (by decide) ?_
    refine lv_aload_n hex hbc dL_change_333 rfl (lv_at hl 2 rfl) ?_
    refine lv_iload_n hex hbc dL_change_334 rfl (lv_at hl 4 rfl) ?_
    refine lv_iload_n hex hbc dL_change_335 rfl (lv_at hl 1 rfl) ?_
    have hlo_336 : (1 : Int) ≤ (σ 0 0) ∧ ((σ 0 0) : Int) < 2147483648 := (by omega)
    refine g_callS [.int xm, .int (iI (σ 0 0))] ⟨hex, hbc, hml, hown, hts⟩ (mL_low l xm (σ 0 0) hlo_336) (va_cwS 2 hts gL_change_L_low rfl rfl rfl (by decide +kernel) ⟨Nat.le_of_ble_eq_true rfl, Nat.le_of_ble_eq_true rfl⟩) hP hS rfl rfl hl.1 (Nat.le_of_ble_eq_true rfl) dL_change_336 ⟨Nat.zero_le _, Nat.zero_le _⟩ (fun r_336 H locs hw_336 hP hS => ?_)
    subst hw_336
    have hli_336 := lowF_in xm hlo_336.1
    refine g_calli [.int (iI (lowF xm (σ 0 0)))] ⟨hex, hbc, hml, hown, hts⟩ (mX4_mark l G cx a u_8 (lowF xm (σ 0 0)) (by omega) (XQ_hs hq hHs) (XQ_I hq hI)) (cwV 1 hts gL_change_X4_mark rfl rfl rfl (by decide +kernel) ⟨Nat.le_of_ble_eq_true rfl, Nat.le_of_ble_eq_true rfl⟩) hK hP hD hS (fun _ h => h) 0 4 rfl rfl rfl rfl hl.1 (Nat.le_of_ble_eq_true rfl) dL_change_339 ⟨Nat.zero_le _, Nat.zero_le _⟩ (fun r_339 u_339 H locs hw_339 hP hD hS hz_339 hk_339 => ?_)
    exact g_iret hex hbc hrt hlocks hK hP hD hS ⟨u_8, hq, (by rw [sel_13 (by omega)]; exact hw_339)⟩ dL_change_342
  by_cases cs19_17 : (lowF xv 22) = 17
  · refine zt_nm (a := (lowF xv 22)) (b := 17) cs19_17 ?_
    refine lv_tableIn (off := 324) (tgt := 343) hex hbc dL_change_19 (by decide) (by decide) rfl (by decide) ?_
    refine lv_iload hex hbc dL_change_343 (lv_at hl 0 rfl) ?_
    refine lv_iconst (v := iI 2) hex hbc dL_change_345 rfl ?_
    refine zt_icmp_ge (a := (σ 0 74)) (b := 2) (tgt := 357) hex hbc (by omega) dL_change_346 (by decide) (fun c346 => ?_) (fun c346 => ?_)
    · skip
      refine lv_aload_n hex hbc dL_change_357 rfl (lv_at hl 2 rfl) ?_
      refine lv_iconst (v := iI 1) hex hbc dL_change_358 rfl ?_
      refine lv_iload_n hex hbc dL_change_359 rfl (lv_at hl 4 rfl) ?_
      refine lv_iload hex hbc dL_change_360 (lv_at hl 0 rfl) ?_
      refine lv_iconst (v := iI 1) hex hbc dL_change_362 rfl ?_
      refine zt_isub hex hbc dL_change_363 ?_
      have hlo_364 : (1 : Int) ≤ ((σ 0 74) - 1) ∧ (((σ 0 74) - 1) : Int) < 2147483648 := (by omega)
      refine g_callS [.int xm, .int (iI ((σ 0 74) - 1))] ⟨hex, hbc, hml, hown, hts⟩ (mL_low l xm ((σ 0 74) - 1) hlo_364) (va_cwS 2 hts gL_change_L_low rfl rfl rfl (by decide +kernel) ⟨Nat.le_of_ble_eq_true rfl, Nat.le_of_ble_eq_true rfl⟩) hP hS rfl rfl hl.1 (Nat.le_of_ble_eq_true rfl) dL_change_364 ⟨Nat.zero_le _, Nat.zero_le _⟩ (fun r_364 H locs hw_364 hP hS => ?_)
      subst hw_364
      have hli_364 := lowF_in xm hlo_364.1
      refine zt_iadd hex hbc dL_change_367 ?_
      refine g_calli [.int (iI (1 + (lowF xm ((σ 0 74) - 1))))] ⟨hex, hbc, hml, hown, hts⟩ (mX4_unmark l G cx a u_8 (1 + (lowF xm ((σ 0 74) - 1))) (by omega) (XQ_hs hq hHs) (XQ_I hq hI)) (cwV 1 hts gL_change_X4_unmark rfl rfl rfl (by decide +kernel) ⟨Nat.le_of_ble_eq_true rfl, Nat.le_of_ble_eq_true rfl⟩) hK hP hD hS (fun _ h => h) 0 4 rfl rfl rfl rfl hl.1 (Nat.le_of_ble_eq_true rfl) dL_change_368 ⟨Nat.zero_le _, Nat.zero_le _⟩ (fun r_368 u_368 H locs hw_368 hP hD hS hz_368 hk_368 => ?_)
      exact g_iret hex hbc hrt hlocks hK hP hD hS ⟨u_8, hq, (by rw [sel_15 (by omega) (by omega)]; exact hw_368)⟩ dL_change_371
    · skip
      refine lv_aload_n hex hbc dL_change_349 rfl (lv_at hl 2 rfl) ?_
      refine lv_iconst (v := iI 0) hex hbc dL_change_350 rfl ?_
      refine g_calli [.int (iI 0)] ⟨hex, hbc, hml, hown, hts⟩ (mX4_unmark l G cx a u_8 0 (by omega) (XQ_hs hq hHs) (XQ_I hq hI)) (cwV 1 hts gL_change_X4_unmark rfl rfl rfl (by decide +kernel) ⟨Nat.le_of_ble_eq_true rfl, Nat.le_of_ble_eq_true rfl⟩) hK hP hD hS (fun _ h => h) 0 4 rfl rfl rfl rfl hl.1 (Nat.le_of_ble_eq_true rfl) dL_change_351 ⟨Nat.zero_le _, Nat.zero_le _⟩ (fun r_351 u_351 H locs hw_351 hP hD hS hz_351 hk_351 => ?_)
      refine lv_goto (tgt := 371) hex hbc dL_change_354 (by decide) ?_
      exact g_iret hex hbc hrt hlocks hK hP hD hS ⟨u_8, hq, (by rw [sel_14 (by omega) (by omega)]; exact hw_351)⟩ dL_change_371
  by_cases cs19_18 : (lowF xv 22) = 18
  · refine zt_nm (a := (lowF xv 22)) (b := 18) cs19_18 ?_
    refine lv_tableIn (off := 353) (tgt := 372) hex hbc dL_change_19 (by decide) (by decide) rfl (by decide) ?_
    refine lv_iload hex hbc dL_change_372 (lv_at hl 0 rfl) ?_
    refine lv_iconst (v := iI 2) hex hbc dL_change_374 rfl ?_
    refine zt_icmp_ge (a := (σ 0 74)) (b := 2) (tgt := 387) hex hbc (by omega) dL_change_375 (by decide) (fun c375 => ?_) (fun c375 => ?_)
    · skip
      refine lv_aload_n hex hbc dL_change_387 rfl (lv_at hl 2 rfl) ?_
      refine lv_iconst (v := iI 1) hex hbc dL_change_388 rfl ?_
      refine lv_iload_n hex hbc dL_change_389 rfl (lv_at hl 4 rfl) ?_
      refine lv_iload hex hbc dL_change_390 (lv_at hl 0 rfl) ?_
      refine lv_iconst (v := iI 1) hex hbc dL_change_392 rfl ?_
      refine zt_isub hex hbc dL_change_393 ?_
      have hlo_394 : (1 : Int) ≤ ((σ 0 74) - 1) ∧ (((σ 0 74) - 1) : Int) < 2147483648 := (by omega)
      refine g_callS [.int xm, .int (iI ((σ 0 74) - 1))] ⟨hex, hbc, hml, hown, hts⟩ (mL_low l xm ((σ 0 74) - 1) hlo_394) (va_cwS 2 hts gL_change_L_low rfl rfl rfl (by decide +kernel) ⟨Nat.le_of_ble_eq_true rfl, Nat.le_of_ble_eq_true rfl⟩) hP hS rfl rfl hl.1 (Nat.le_of_ble_eq_true rfl) dL_change_394 ⟨Nat.zero_le _, Nat.zero_le _⟩ (fun r_394 H locs hw_394 hP hS => ?_)
      subst hw_394
      have hli_394 := lowF_in xm hlo_394.1
      refine zt_iadd hex hbc dL_change_397 ?_
      refine lv_iload_n hex hbc dL_change_398 rfl (lv_at hl 4 rfl) ?_
      refine lv_iconst (v := iI 4) hex hbc dL_change_399 rfl ?_
      refine lv_ishr hex hbc dL_change_400 ?_
      refine lv_iload_n hex hbc dL_change_401 rfl (lv_at hl 1 rfl) ?_
      have hlo_402 : (1 : Int) ≤ (σ 0 0) ∧ ((σ 0 0) : Int) < 2147483648 := (by omega)
      refine g_callS [.int (xm >>> ((iI 4) &&& 31)), .int (iI (σ 0 0))] ⟨hex, hbc, hml, hown, hts⟩ (mL_low l (xm >>> ((iI 4) &&& 31)) (σ 0 0) hlo_402) (va_cwS 2 hts gL_change_L_low rfl rfl rfl (by decide +kernel) ⟨Nat.le_of_ble_eq_true rfl, Nat.le_of_ble_eq_true rfl⟩) hP hS rfl rfl hl.1 (Nat.le_of_ble_eq_true rfl) dL_change_402 ⟨Nat.zero_le _, Nat.zero_le _⟩ (fun r_402 H locs hw_402 hP hS => ?_)
      subst hw_402
      have hli_402 := lowF_in (xm >>> ((iI 4) &&& 31)) hlo_402.1
      refine g_calli [.int (iI (1 + (lowF xm ((σ 0 74) - 1)))), .int (iI (lowF (xm >>> ((iI 4) &&& 31)) (σ 0 0)))] ⟨hex, hbc, hml, hown, hts⟩ (mX4_moveMark l G cx a u_8 (1 + (lowF xm ((σ 0 74) - 1))) (lowF (xm >>> ((iI 4) &&& 31)) (σ 0 0)) (by omega) (by omega) (XQ_hs hq hHs) (XQ_I hq hI)) (cwV 2 hts gL_change_X4_moveMark rfl rfl rfl (by decide +kernel) ⟨Nat.le_of_ble_eq_true rfl, Nat.le_of_ble_eq_true rfl⟩) hK hP hD hS (fun _ h => h) 0 4 rfl rfl rfl rfl hl.1 (Nat.le_of_ble_eq_true rfl) dL_change_405 ⟨Nat.zero_le _, Nat.zero_le _⟩ (fun r_405 u_405 H locs hw_405 hP hD hS hz_405 hk_405 => ?_)
      exact g_iret hex hbc hrt hlocks hK hP hD hS ⟨u_8, hq, (by rw [sel_17 (by omega) (by omega)]; exact hw_405)⟩ dL_change_408
    · skip
      refine lv_aload_n hex hbc dL_change_378 rfl (lv_at hl 2 rfl) ?_
      refine lv_iconst (v := iI 0) hex hbc dL_change_379 rfl ?_
      refine lv_iconst (v := iI 0) hex hbc dL_change_380 rfl ?_
      refine g_calli [.int (iI 0), .int (iI 0)] ⟨hex, hbc, hml, hown, hts⟩ (mX4_moveMark l G cx a u_8 0 0 (by omega) (by omega) (XQ_hs hq hHs) (XQ_I hq hI)) (cwV 2 hts gL_change_X4_moveMark rfl rfl rfl (by decide +kernel) ⟨Nat.le_of_ble_eq_true rfl, Nat.le_of_ble_eq_true rfl⟩) hK hP hD hS (fun _ h => h) 0 4 rfl rfl rfl rfl hl.1 (Nat.le_of_ble_eq_true rfl) dL_change_381 ⟨Nat.zero_le _, Nat.zero_le _⟩ (fun r_381 u_381 H locs hw_381 hP hD hS hz_381 hk_381 => ?_)
      refine lv_goto (tgt := 408) hex hbc dL_change_384 (by decide) ?_
      exact g_iret hex hbc hrt hlocks hK hP hD hS ⟨u_8, hq, (by rw [sel_16 (by omega) (by omega)]; exact hw_381)⟩ dL_change_408
  by_cases cs19_19 : (lowF xv 22) = 19
  · refine zt_nm (a := (lowF xv 22)) (b := 19) cs19_19 ?_
    refine lv_tableIn (off := 390) (tgt := 409) hex hbc dL_change_19 (by decide) (by decide) rfl (by decide) ?_
    refine lv_iload_n hex hbc dL_change_409 rfl (lv_at hl 4 rfl) ?_
    refine lv_iconst (v := iI 3) hex hbc dL_change_410 rfl ?_
    have hlo_411 : (1 : Int) ≤ 3 ∧ (3 : Int) < 2147483648 := (by omega)
    refine g_callS [.int xm, .int (iI 3)] ⟨hex, hbc, hml, hown, hts⟩ (mL_low l xm 3 hlo_411) (va_cwS 2 hts gL_change_L_low rfl rfl rfl (by decide +kernel) ⟨Nat.le_of_ble_eq_true rfl, Nat.le_of_ble_eq_true rfl⟩) hP hS rfl rfl hl.1 (Nat.le_of_ble_eq_true rfl) dL_change_411 ⟨Nat.zero_le _, Nat.zero_le _⟩ (fun r_411 H locs hw_411 hP hS => ?_)
    subst hw_411
    have hli_411 := lowF_in xm hlo_411.1
    refine zt_if_ne (a := (lowF xm 3)) (tgt := 424) hex hbc (by omega) dL_change_414 (by decide) (fun c414 => ?_) (fun c414 => ?_)
    · skip
      refine lv_aload_n hex hbc dL_change_424 rfl (lv_at hl 2 rfl) ?_
      refine lv_iload_n hex hbc dL_change_425 rfl (lv_at hl 4 rfl) ?_
      refine lv_iload hex hbc dL_change_426 (lv_at hl 0 rfl) ?_
      have hlo_428 : (1 : Int) ≤ (σ 0 74) ∧ ((σ 0 74) : Int) < 2147483648 := (by omega)
      refine g_callS [.int xm, .int (iI (σ 0 74))] ⟨hex, hbc, hml, hown, hts⟩ (mL_low l xm (σ 0 74) hlo_428) (va_cwS 2 hts gL_change_L_low rfl rfl rfl (by decide +kernel) ⟨Nat.le_of_ble_eq_true rfl, Nat.le_of_ble_eq_true rfl⟩) hP hS rfl rfl hl.1 (Nat.le_of_ble_eq_true rfl) dL_change_428 ⟨Nat.zero_le _, Nat.zero_le _⟩ (fun r_428 H locs hw_428 hP hS => ?_)
      subst hw_428
      have hli_428 := lowF_in xm hlo_428.1
      refine lv_iload_n hex hbc dL_change_431 rfl (lv_at hl 4 rfl) ?_
      refine lv_iconst (v := iI 4) hex hbc dL_change_432 rfl ?_
      refine lv_ishr hex hbc dL_change_433 ?_
      refine lv_iload hex hbc dL_change_434 (lv_at hl 0 rfl) ?_
      have hlo_436 : (1 : Int) ≤ (σ 0 74) ∧ ((σ 0 74) : Int) < 2147483648 := (by omega)
      refine g_callS [.int (xm >>> ((iI 4) &&& 31)), .int (iI (σ 0 74))] ⟨hex, hbc, hml, hown, hts⟩ (mL_low l (xm >>> ((iI 4) &&& 31)) (σ 0 74) hlo_436) (va_cwS 2 hts gL_change_L_low rfl rfl rfl (by decide +kernel) ⟨Nat.le_of_ble_eq_true rfl, Nat.le_of_ble_eq_true rfl⟩) hP hS rfl rfl hl.1 (Nat.le_of_ble_eq_true rfl) dL_change_436 ⟨Nat.zero_le _, Nat.zero_le _⟩ (fun r_436 H locs hw_436 hP hS => ?_)
      subst hw_436
      have hli_436 := lowF_in (xm >>> ((iI 4) &&& 31)) hlo_436.1
      refine g_calli [.int (iI (lowF xm (σ 0 74))), .int (iI (lowF (xm >>> ((iI 4) &&& 31)) (σ 0 74)))] ⟨hex, hbc, hml, hown, hts⟩ (mX4_swap l G cx a u_8 (lowF xm (σ 0 74)) (lowF (xm >>> ((iI 4) &&& 31)) (σ 0 74)) (by omega) (by omega) (XQ_hs hq hHs) (XQ_I hq hI)) (cwV 2 hts gL_change_X4_swap rfl rfl rfl (by decide +kernel) ⟨Nat.le_of_ble_eq_true rfl, Nat.le_of_ble_eq_true rfl⟩) hK hP hD hS (fun _ h => h) 0 4 rfl rfl rfl rfl hl.1 (Nat.le_of_ble_eq_true rfl) dL_change_439 ⟨Nat.zero_le _, Nat.zero_le _⟩ (fun r_439 u_439 H locs hw_439 hP hD hS hz_439 hk_439 => ?_)
      exact g_iret hex hbc hrt hlocks hK hP hD hS ⟨u_8, hq, (by rw [sel_19 (by omega) (by omega)]; exact hw_439)⟩ dL_change_442
    · skip
      refine lv_aload_n hex hbc dL_change_417 rfl (lv_at hl 2 rfl) ?_
      refine g_calli [] ⟨hex, hbc, hml, hown, hts⟩ (mX4_reverse l G cx a u_8  (XQ_hs hq hHs) (XQ_I hq hI)) (cwV 0 hts gL_change_X4_reverse rfl rfl rfl (by decide +kernel) ⟨Nat.le_of_ble_eq_true rfl, Nat.le_of_ble_eq_true rfl⟩) hK hP hD hS (fun _ h => h) 0 4 rfl rfl rfl rfl hl.1 (Nat.le_of_ble_eq_true rfl) dL_change_418 ⟨Nat.zero_le _, Nat.zero_le _⟩ (fun r_418 u_418 H locs hw_418 hP hD hS hz_418 hk_418 => ?_)
      refine lv_goto (tgt := 442) hex hbc dL_change_421 (by decide) ?_
      exact g_iret hex hbc hrt hlocks hK hP hD hS ⟨u_8, hq, (by rw [sel_18 (by omega) (by omega)]; exact hw_418)⟩ dL_change_442
  have cs19_20 : (lowF xv 22) = 20 := by omega
  refine zt_nm (a := (lowF xv 22)) (b := 20) cs19_20 ?_
  refine lv_tableIn (off := 424) (tgt := 443) hex hbc dL_change_19 (by decide) (by decide) rfl (by decide) ?_
  refine lv_aload_n hex hbc dL_change_443 rfl (lv_at hl 2 rfl) ?_
  refine g_calli [] ⟨hex, hbc, hml, hown, hts⟩ (mX4_undo l G cx a u_8  (XQ_hs hq hHs) (XQ_I hq hI)) (cwV 0 hts gL_change_X4_undo rfl rfl rfl (by decide +kernel) ⟨Nat.le_of_ble_eq_true rfl, Nat.le_of_ble_eq_true rfl⟩) hK hP hD hS (fun _ h => h) 0 4 rfl rfl rfl rfl hl.1 (Nat.le_of_ble_eq_true rfl) dL_change_444 ⟨Nat.zero_le _, Nat.zero_le _⟩ (fun r_444 u_444 H locs hw_444 hP hD hS hz_444 hk_444 => ?_)
  exact g_iret hex hbc hrt hlocks hK hP hD hS ⟨u_8, hq, (by rw [sel_20 (by omega)]; exact hw_444)⟩ dL_change_447
