/-! the law: isLaid (rows laid by wip/gen27) -/
set_option maxHeartbeats 4000000 in
set_option maxRecDepth 100000 in
theorem mL_isLaid (l : Launch) (G : va_G) (cx a : Nat → Nat) (σ : Nat → Int → Int)  (xv : Int32) (hI : Inv (σ 0)) : Met l yL_isLaid wsL_isLaid ({ frames := 7, cells := 0, slots := 0, locals := 175 }) (va_Pc [.ref (a 0), .int xv] (gW G (tx cx) (XA a) (wx cx a) σ)) (va_Qi (fun r u => iI 1 = r ∧ XQ_ σ u) (gW G (tx cx) (XA a) (wx cx a)) (XA a)) 0 0 (XA a) := by
  refine Met.ofW (cc := cL_isLaid) (maxL := 18) (ret := some .boolean) (by decide) rfl ?_
  intro p e s m args below meth c s₁ B hml hv
  obtain ⟨rfl, hP, hK, hD⟩ := hv
  have hex := B.exec
  have hbc := B.bytes
  have hrt := B.returns
  have hts := atoms_spec (ws := wsL_isLaid) B.pre
  have hown : s.vm.findClass RL = some m.cls := findClass_of_methodNamed B.named
  have hlocks := B.notSynchronized
  have hq : XQ_ σ σ := XQ_rf
  have hS : va_S (XA a) s.heap s.heap [] := va_S.rf
  have hl := lv_entry ([.ref (a 0), .int xv]) (n := 18) (Nat.le_of_ble_eq_true rfl)
  rw [lg_entry_eq]
  generalize (lg_sl ([.ref (a 0), .int xv]) ++ List.replicate (18 - (lg_sl ([.ref (a 0), .int xv])).length) Slot.unset).toArray = ls at hl ⊢
  have hl : lv_has ls 18 [(0, .ref (a 0)), (1, .int xv)] := hl
  obtain ⟨hB, hEn, hMk, hAs, hPm⟩ := id hI
  have h75 : σ 0 75 = 0 := hB.2.2.2.2.2.2.2.2.2.2.2
  have hf0 : fr (σ 0) 0 = 0 := (fr_lt (by omega)).trans h75
  refine lv_aload_n hex hbc dL_isLaid_0 rfl (lv_at hl 0 rfl) ?_
  refine lv_iconst (v := iI 2) hex hbc dL_isLaid_1 rfl ?_
  refine g_calli [.int (iI 2)] ⟨hex, hbc, hml, hown, hts⟩ (mX4_told l G cx a σ 2 (by omega) (XQ_I hq hI)) (cwV 1 hts gL_isLaid_X4_told rfl rfl rfl (by decide +kernel) ⟨Nat.le_of_ble_eq_true rfl, Nat.le_of_ble_eq_true rfl⟩) hK hP hD hS (fun _ h => h) 0 4 rfl rfl rfl rfl hl.1 (Nat.le_of_ble_eq_true rfl) dL_isLaid_2 ⟨Nat.zero_le _, Nat.zero_le _⟩ (fun r_2 u_2 H locs hw_2 hP hD hS hz_2 hk_2 => ?_)
  obtain ⟨⟨v_2, hr_2, hv_2⟩, hn_2⟩ := hw_2
  have hv_2 : TD_ (σ 0) (σ 12 1) (2 : Int) v_2 := Eq.mp (congrArg (fun w => TD_ w (σ 12 1) (2 : Int) v_2) hq.1) hv_2
  have ev_2 : v_2 = (σ 0 74) := TD2 hv_2
  rw [ev_2] at hr_2
  subst hr_2
  have hq := XQ_tr hq hn_2
  refine lv_istore_n (lv' := [(2, .int (iI (σ 0 74))), (0, .ref (a 0)), (1, .int xv)]) hex hbc dL_isLaid_5 rfl hl (by decide) rfl (fun ls hl => ?_)
  refine lv_aload_n hex hbc dL_isLaid_6 rfl (lv_at hl 1 rfl) ?_
  refine lv_iconst (v := iI 5) hex hbc dL_isLaid_7 rfl ?_
  refine g_calli [.int (iI 5)] ⟨hex, hbc, hml, hown, hts⟩ (mX4_setting l G cx a u_2 5 (by omega) (XQ_I hq hI)) (cwV 1 hts gL_isLaid_X4_setting rfl rfl rfl (by decide +kernel) ⟨Nat.le_of_ble_eq_true rfl, Nat.le_of_ble_eq_true rfl⟩) hK hP hD hS (fun _ h => h) 0 4 rfl rfl rfl rfl hl.1 (Nat.le_of_ble_eq_true rfl) dL_isLaid_8 ⟨Nat.zero_le _, Nat.zero_le _⟩ (fun r_8 u_8 H locs hw_8 hP hD hS hz_8 hk_8 => ?_)
  obtain ⟨hr_8, hs_8, hn_8⟩ := hw_8
  have hr_8 : iI ((σ 0) (1 + (5 : Int))) = r_8 := Eq.mp (congrArg (fun w => (0 ≤ (5 : Int) ∧ (5 : Int) ≤ 8) → iI (w (1 + (5 : Int))) = r_8) hq.1) hr_8 (by omega)
  subst hr_8
  refine zt_nm (a := (σ 0) (1 + (5 : Int))) (b := (σ 0 6)) rfl ?_
  have hq := XQ_tr hq hn_8
  refine lv_istore_n (lv' := [(3, .int (iI (σ 0 6))), (2, .int (iI (σ 0 74))), (0, .ref (a 0)), (1, .int xv)]) hex hbc dL_isLaid_11 rfl hl (by decide) rfl (fun ls hl => ?_)
  refine lv_aload_n hex hbc dL_isLaid_12 rfl (lv_at hl 2 rfl) ?_
  refine lv_iconst (v := iI 3) hex hbc dL_isLaid_13 rfl ?_
  refine g_calli [.int (iI 3)] ⟨hex, hbc, hml, hown, hts⟩ (mX4_told l G cx a u_8 3 (by omega) (XQ_I hq hI)) (cwV 1 hts gL_isLaid_X4_told rfl rfl rfl (by decide +kernel) ⟨Nat.le_of_ble_eq_true rfl, Nat.le_of_ble_eq_true rfl⟩) hK hP hD hS (fun _ h => h) 0 4 rfl rfl rfl rfl hl.1 (Nat.le_of_ble_eq_true rfl) dL_isLaid_14 ⟨Nat.zero_le _, Nat.zero_le _⟩ (fun r_14 u_14 H locs hw_14 hP hD hS hz_14 hk_14 => ?_)
  obtain ⟨⟨v_14, hr_14, hv_14⟩, hn_14⟩ := hw_14
  have hv_14 : TD_ (σ 0) (u_8 12 1) (3 : Int) v_14 := Eq.mp (congrArg (fun w => TD_ w (u_8 12 1) (3 : Int) v_14) hq.1) hv_14
  have hp_14 : (lay_ (σ 0) ∧ v_14 = 1) ∨ (¬ lay_ (σ 0) ∧ v_14 = 0) := TD3 hv_14
  subst hr_14
  have hq := XQ_tr hq hn_14
  refine zt_ifb_ne (P := lay_ (σ 0)) (tgt := 98) hex hbc hp_14 dL_isLaid_17 (by decide) (fun c17 => ?_) (fun c17 => ?_)
  · skip
    have hb01 := sum_01 (bey_in (σ 0) (bud (σ 0))) (σ 0 74).toNat
    have hsf := sum_fad hI c17 (σ 0 74).toNat (by omega)
    refine lv_iconst (v := iI 0) hex hbc dL_isLaid_98 rfl ?_
    refine zt_nm (a := 0) (b := (par_ (σ 0) 0)) (par_0 _).symm ?_
    refine lv_istore (lv' := [(4, .int (iI (par_ (σ 0) 0))), (3, .int (iI (σ 0 6))), (2, .int (iI (σ 0 74))), (0, .ref (a 0)), (1, .int xv)]) hex hbc dL_isLaid_99 hl (by decide) rfl (fun ls hl => ?_)
    refine lv_iconst (v := iI 0) hex hbc dL_isLaid_101 rfl ?_
    refine zt_nm (a := 0) (b := (sumN (fad (σ 0) (bud (σ 0))) (0 : Int).toNat)) rfl ?_
    refine lv_istore (lv' := [(5, .int (iI (sumN (fad (σ 0) (bud (σ 0))) (0 : Int).toNat))), (4, .int (iI (par_ (σ 0) 0))), (3, .int (iI (σ 0 6))), (2, .int (iI (σ 0 74))), (0, .ref (a 0)), (1, .int xv)]) hex hbc dL_isLaid_102 hl (by decide) rfl (fun ls hl => ?_)
    refine lv_iconst (v := iI 0) hex hbc dL_isLaid_104 rfl ?_
    refine zt_nm (a := 0) (b := (sumN (bey_o (σ 0)) (0 : Int).toNat)) rfl ?_
    refine lv_istore (lv' := [(6, .int (iI (sumN (bey_o (σ 0)) (0 : Int).toNat))), (5, .int (iI (sumN (fad (σ 0) (bud (σ 0))) (0 : Int).toNat))), (4, .int (iI (par_ (σ 0) 0))), (3, .int (iI (σ 0 6))), (2, .int (iI (σ 0 74))), (0, .ref (a 0)), (1, .int xv)]) hex hbc dL_isLaid_105 hl (by decide) rfl (fun ls hl => ?_)
    refine lv_iconst (v := iI 0) hex hbc dL_isLaid_107 rfl ?_
    refine lv_istore (lv' := [(7, .int (iI 0)), (6, .int (iI (sumN (bey_o (σ 0)) (0 : Int).toNat))), (5, .int (iI (sumN (fad (σ 0) (bud (σ 0))) (0 : Int).toNat))), (4, .int (iI (par_ (σ 0) 0))), (3, .int (iI (σ 0 6))), (2, .int (iI (σ 0 74))), (0, .ref (a 0)), (1, .int xv)]) hex hbc dL_isLaid_108 hl (by decide) rfl (fun ls hl => ?_)
    have loop_110 : ∀ (N : Nat) (k1 : Int) (ω110 : Nat → Int → Int), (0 ≤ k1 ∧ k1 ≤ σ 0 74) → (16 - k1) < (N : Int) → XQ_ σ ω110 → ∀ (H : Heap) (locs : List Loc) (ls : Array Slot), va_P G vwCl (wx cx a ω110) H → va_D (XA a) (wx cx a ω110) → va_S (XA a) s.heap H locs → lv_has ls 18 [(0, .ref (a 0)), (1, .int xv), (2, .int (iI (σ 0 74))), (3, .int (iI (σ 0 6))), (4, .int (iI (par_ (σ 0) k1))), (5, .int (iI (sumN (fad (σ 0) (bud (σ 0))) k1.toNat))), (6, .int (iI (sumN (bey_o (σ 0)) k1.toNat))), (7, .int (iI k1))] → W p l e (headSpec wsL_isLaid ({ frames := 7, cells := 0, slots := 0, locals := 175 })).room s m ([.ref (a 0), .int xv] : List Value).toArray below meth c H locs 0 0 (MQ below (va_Qi (fun r u => iI 1 = r ∧ XQ_ σ u) (gW G (tx cx) (XA a) (wx cx a)) (XA a)) ([.ref (a 0), .int xv] : List Value).toArray s 0 0 (XA a)) (F0 m 110 ls []) := by
      intro N
      induction N with
      | zero => intro k1 ω110 hinv hlt; exfalso; omega
      | succ N ih_110 =>
        intro k1 ω110 ⟨hk0, hk1⟩ hlt_110 hq H locs ls hP hD hS hl
        refine lv_iload hex hbc dL_isLaid_110 (lv_at hl 7 rfl) ?_
        refine lv_iload_n hex hbc dL_isLaid_112 rfl (lv_at hl 2 rfl) ?_
        refine zt_icmp_ge (a := k1) (b := (σ 0 74)) (tgt := 496) hex hbc (by omega) dL_isLaid_113 (by decide) (fun c113 => ?_) (fun c113 => ?_)
        · skip
          refine lv_iload hex hbc dL_isLaid_496 (lv_at hl 4 rfl) ?_
          refine zt_nm (a := (par_ (σ 0) k1)) (b := (σ 0 6)) (by rw [show k1 = σ 0 74 by omega]; exact par_end hI) ?_
          refine lv_iload_n hex hbc dL_isLaid_498 rfl (lv_at hl 3 rfl) ?_
          refine lv_icmp_ne (tgt := 550) hex hbc dL_isLaid_499 (by decide) (fun h => absurd rfl h) (fun _ => ?_)
          refine lv_aload_n hex hbc dL_isLaid_502 rfl (lv_at hl 0 rfl) ?_
          refine lv_iconst (v := iI 4) hex hbc dL_isLaid_503 rfl ?_
          refine g_calli [.int (iI 4)] ⟨hex, hbc, hml, hown, hts⟩ (mX4_told l G cx a ω110 4 (by omega) (XQ_I hq hI)) (cwV 1 hts gL_isLaid_X4_told rfl rfl rfl (by decide +kernel) ⟨Nat.le_of_ble_eq_true rfl, Nat.le_of_ble_eq_true rfl⟩) hK hP hD hS (fun _ h => h) 0 4 rfl rfl rfl rfl hl.1 (Nat.le_of_ble_eq_true rfl) dL_isLaid_504 ⟨Nat.zero_le _, Nat.zero_le _⟩ (fun r_504 u_504 H locs hw_504 hP hD hS hz_504 hk_504 => ?_)
          obtain ⟨⟨v_504, hr_504, hv_504⟩, hn_504⟩ := hw_504
          have hv_504 : TD_ (σ 0) (ω110 12 1) (4 : Int) v_504 := Eq.mp (congrArg (fun w => TD_ w (ω110 12 1) (4 : Int) v_504) hq.1) hv_504
          have ev_504 : v_504 = (sumN (bey (σ 0) (bud (σ 0))) (σ 0 74).toNat) := TD4 hv_504 c17
          rw [ev_504] at hr_504
          subst hr_504
          have hq := XQ_tr hq hn_504
          refine lv_iload hex hbc dL_isLaid_507 (lv_at hl 6 rfl) ?_
          refine zt_nm (a := (sumN (bey_o (σ 0)) k1.toNat)) (b := (sumN (bey (σ 0) (bud (σ 0))) (σ 0 74).toNat)) (by rw [show k1 = σ 0 74 by omega]; exact bey_sum hI) ?_
          refine lv_icmp_ne (tgt := 550) hex hbc dL_isLaid_509 (by decide) (fun h => absurd rfl h) (fun _ => ?_)
          refine lv_aload_n hex hbc dL_isLaid_512 rfl (lv_at hl 0 rfl) ?_
          refine lv_iconst (v := iI 5) hex hbc dL_isLaid_513 rfl ?_
          refine g_calli [.int (iI 5)] ⟨hex, hbc, hml, hown, hts⟩ (mX4_told l G cx a u_504 5 (by omega) (XQ_I hq hI)) (cwV 1 hts gL_isLaid_X4_told rfl rfl rfl (by decide +kernel) ⟨Nat.le_of_ble_eq_true rfl, Nat.le_of_ble_eq_true rfl⟩) hK hP hD hS (fun _ h => h) 0 4 rfl rfl rfl rfl hl.1 (Nat.le_of_ble_eq_true rfl) dL_isLaid_514 ⟨Nat.zero_le _, Nat.zero_le _⟩ (fun r_514 u_514 H locs hw_514 hP hD hS hz_514 hk_514 => ?_)
          obtain ⟨⟨v_514, hr_514, hv_514⟩, hn_514⟩ := hw_514
          have hv_514 : TD_ (σ 0) (u_504 12 1) (5 : Int) v_514 := Eq.mp (congrArg (fun w => TD_ w (u_504 12 1) (5 : Int) v_514) hq.1) hv_514
          have ev_514 : v_514 = (sumN (fad (σ 0) (bud (σ 0))) (σ 0 74).toNat) := TD5 hv_514 c17
          rw [ev_514] at hr_514
          subst hr_514
          have hq := XQ_tr hq hn_514
          refine lv_iload hex hbc dL_isLaid_517 (lv_at hl 5 rfl) ?_
          refine zt_nm (a := (sumN (fad (σ 0) (bud (σ 0))) k1.toNat)) (b := (sumN (fad (σ 0) (bud (σ 0))) (σ 0 74).toNat)) (by rw [show k1 = σ 0 74 by omega]) ?_
          refine lv_icmp_ne (tgt := 550) hex hbc dL_isLaid_519 (by decide) (fun h => absurd rfl h) (fun _ => ?_)
          refine lv_aload_n hex hbc dL_isLaid_522 rfl (lv_at hl 0 rfl) ?_
          refine lv_bipush (v := iI 7) hex hbc dL_isLaid_523 (by decide) ?_
          refine g_calli [.int (iI 7)] ⟨hex, hbc, hml, hown, hts⟩ (mX4_setting l G cx a u_514 7 (by omega) (XQ_I hq hI)) (cwV 1 hts gL_isLaid_X4_setting rfl rfl rfl (by decide +kernel) ⟨Nat.le_of_ble_eq_true rfl, Nat.le_of_ble_eq_true rfl⟩) hK hP hD hS (fun _ h => h) 0 4 rfl rfl rfl rfl hl.1 (Nat.le_of_ble_eq_true rfl) dL_isLaid_525 ⟨Nat.zero_le _, Nat.zero_le _⟩ (fun r_525 u_525 H locs hw_525 hP hD hS hz_525 hk_525 => ?_)
          obtain ⟨hr_525, hs_525, hn_525⟩ := hw_525
          have hr_525 : iI ((σ 0) (1 + (7 : Int))) = r_525 := Eq.mp (congrArg (fun w => (0 ≤ (7 : Int) ∧ (7 : Int) ≤ 8) → iI (w (1 + (7 : Int))) = r_525) hq.1) hr_525 (by omega)
          subst hr_525
          refine zt_nm (a := (σ 0) (1 + (7 : Int))) (b := (σ 0 8)) rfl ?_
          have hq := XQ_tr hq hn_525
          refine zt_if_eq (a := (σ 0 8)) (tgt := 536) hex hbc (by omega) dL_isLaid_528 (by decide) (fun c528 => ?_) (fun c528 => ?_)
          · skip
            refine lv_aload_n hex hbc dL_isLaid_536 rfl (lv_at hl 0 rfl) ?_
            refine lv_iload_n hex hbc dL_isLaid_537 rfl (lv_at hl 3 rfl) ?_
            refine lv_iconst (v := iI 0) hex hbc dL_isLaid_538 rfl ?_
            refine g_calli [.int (iI (σ 0 6)), .int (iI 0)] ⟨hex, hbc, hml, hown, hts⟩ (mX4_source l G cx a u_525 (σ 0 6) 0 (by omega) (by omega) (XQ_I hq hI)) (cwV 2 hts gL_isLaid_X4_source rfl rfl rfl (by decide +kernel) ⟨Nat.le_of_ble_eq_true rfl, Nat.le_of_ble_eq_true rfl⟩) hK hP hD hS (fun _ h => h) 0 4 rfl rfl rfl rfl hl.1 (Nat.le_of_ble_eq_true rfl) dL_isLaid_539 ⟨Nat.zero_le _, Nat.zero_le _⟩ (fun r_539 u_539 H locs hw_539 hP hD hS hz_539 hk_539 => ?_)
            obtain ⟨⟨v_539, hr_539, hv_539⟩, hn_539⟩ := hw_539
            have hv_539 : SR_ (σ 0) (σ 0 6) (0 : Int) v_539 := Eq.mp (congrArg (fun w => SR_ w (σ 0 6) (0 : Int) v_539) hq.1) hv_539
            have ev_539 : v_539 = (-1) := hv_539.1 (by omega)
            rw [ev_539] at hr_539
            subst hr_539
            have hq := XQ_tr hq hn_539
            refine lv_iconst (v := iI (-1)) hex hbc dL_isLaid_542 rfl ?_
            refine zt_icmp_ne (a := (-1)) (b := (-1)) (tgt := 550) hex hbc (by decide) dL_isLaid_543 (by decide) (fun h => absurd h (by decide)) (fun _ => ?_)
            refine lv_iconst (v := iI 1) hex hbc dL_isLaid_546 rfl ?_
            refine lv_goto (tgt := 551) hex hbc dL_isLaid_547 (by decide) ?_
            exact g_zret hex hbc hrt hlocks rfl hK hP hD hS ⟨rfl, hq⟩ dL_isLaid_551
          · skip
            refine lv_iload hex hbc dL_isLaid_531 (lv_at hl 6 rfl) ?_
            refine zt_nm (a := (sumN (bey_o (σ 0)) k1.toNat)) (b := 0) (by rw [show k1 = σ 0 74 by omega]; exact bey_all hI c17 c528) ?_
            refine zt_if_ne (a := 0) (tgt := 550) hex hbc (by decide) dL_isLaid_533 (by decide) (fun h => absurd h (by decide)) (fun _ => ?_)
            refine lv_aload_n hex hbc dL_isLaid_536 rfl (lv_at hl 0 rfl) ?_
            refine lv_iload_n hex hbc dL_isLaid_537 rfl (lv_at hl 3 rfl) ?_
            refine lv_iconst (v := iI 0) hex hbc dL_isLaid_538 rfl ?_
            refine g_calli [.int (iI (σ 0 6)), .int (iI 0)] ⟨hex, hbc, hml, hown, hts⟩ (mX4_source l G cx a u_525 (σ 0 6) 0 (by omega) (by omega) (XQ_I hq hI)) (cwV 2 hts gL_isLaid_X4_source rfl rfl rfl (by decide +kernel) ⟨Nat.le_of_ble_eq_true rfl, Nat.le_of_ble_eq_true rfl⟩) hK hP hD hS (fun _ h => h) 0 4 rfl rfl rfl rfl hl.1 (Nat.le_of_ble_eq_true rfl) dL_isLaid_539 ⟨Nat.zero_le _, Nat.zero_le _⟩ (fun r_539 u_539 H locs hw_539 hP hD hS hz_539 hk_539 => ?_)
            obtain ⟨⟨v_539, hr_539, hv_539⟩, hn_539⟩ := hw_539
            have hv_539 : SR_ (σ 0) (σ 0 6) (0 : Int) v_539 := Eq.mp (congrArg (fun w => SR_ w (σ 0 6) (0 : Int) v_539) hq.1) hv_539
            have ev_539 : v_539 = (-1) := hv_539.1 (by omega)
            rw [ev_539] at hr_539
            subst hr_539
            have hq := XQ_tr hq hn_539
            refine lv_iconst (v := iI (-1)) hex hbc dL_isLaid_542 rfl ?_
            refine zt_icmp_ne (a := (-1)) (b := (-1)) (tgt := 550) hex hbc (by decide) dL_isLaid_543 (by decide) (fun h => absurd h (by decide)) (fun _ => ?_)
            refine lv_iconst (v := iI 1) hex hbc dL_isLaid_546 rfl ?_
            refine lv_goto (tgt := 551) hex hbc dL_isLaid_547 (by decide) ?_
            exact g_zret hex hbc hrt hlocks rfl hK hP hD hS ⟨rfl, hq⟩ dL_isLaid_551
        · skip
          have hoP := hI.at_ord ⟨hk0, c113⟩
          have hnx := nxp_in ⟨hk0, c113⟩
          have hoN := hI.at_ord hnx
          have hbd := bud_in hI c17 hoP.1 hoP.2
          have hbn := bud_in hI c17 hoN.1 hoN.2
          have hln := hI.ln_in hoP.1 hoP.2
          have hfd := fad_in hI c17 ⟨hk0, c113⟩
          have hpi := par_in hI c17 (p := k1) (by omega)
          have hpn := par_in hI c17 (p := k1 + 1) (by omega)
          have hpa := par_at (w := σ 0) hk0
          have hfr := hI.fr_in hoP.1
          have hpl := hI.plc_ord ⟨hk0, c113⟩
          have hfe : (fad (σ 0) (bud (σ 0)) k1) = min (σ 0 9) (min ((bud (σ 0) (σ 0 (91 + k1))) / 4) ((bud (σ 0) (σ 0 (91 + nxp (σ 0) k1))) / 4)) := rfl
          have hm4 := mulb (a := (ln (σ 0) (σ 0 (91 + k1)))) (b := σ 0 4) (A := 64000) (B := 100) (by omega) (by omega) (by omega) (by omega)
          have hm5 := mulb (a := (ln (σ 0) (σ 0 (91 + k1)))) (b := σ 0 5) (A := 64000) (B := 1000) (by omega) (by omega) (by omega) (by omega)
          have hm0 := mulb (a := (fr (σ 0) (σ 0 (91 + k1)))) (b := σ 0 1) (A := 64) (B := 1000) (by omega) (by omega) (by omega) (by omega)
          have hby := bey_in (σ 0) (bud (σ 0)) (σ 0 (91 + k1))
          refine lv_aload_n hex hbc dL_isLaid_116 rfl (lv_at hl 0 rfl) ?_
          refine lv_iload hex hbc dL_isLaid_117 (lv_at hl 7 rfl) ?_
          refine g_calli [.int (iI k1)] ⟨hex, hbc, hml, hown, hts⟩ (mX4_order l G cx a ω110 k1 (by omega) (XQ_I hq hI)) (cwV 1 hts gL_isLaid_X4_order rfl rfl rfl (by decide +kernel) ⟨Nat.le_of_ble_eq_true rfl, Nat.le_of_ble_eq_true rfl⟩) hK hP hD hS (fun _ h => h) 0 4 rfl rfl rfl rfl hl.1 (Nat.le_of_ble_eq_true rfl) dL_isLaid_119 ⟨Nat.zero_le _, Nat.zero_le _⟩ (fun r_119 u_119 H locs hw_119 hP hD hS hz_119 hk_119 => ?_)
          obtain ⟨hr_119, hs_119, hn_119⟩ := hw_119
          have hr_119 : iI ((σ 0) (91 + k1)) = r_119 := Eq.mp (congrArg (fun w => (0 ≤ k1 ∧ k1 < w 74) → iI (w (91 + k1)) = r_119) hq.1) hr_119 ⟨hk0, c113⟩
          subst hr_119
          refine zt_nm (a := (σ 0) (91 + k1)) (b := (σ 0 (91 + k1))) rfl ?_
          have hq := XQ_tr hq hn_119
          refine lv_istore (lv' := [(8, .int (iI (σ 0 (91 + k1)))), (0, .ref (a 0)), (1, .int xv), (2, .int (iI (σ 0 74))), (3, .int (iI (σ 0 6))), (4, .int (iI (par_ (σ 0) k1))), (5, .int (iI (sumN (fad (σ 0) (bud (σ 0))) k1.toNat))), (6, .int (iI (sumN (bey_o (σ 0)) k1.toNat))), (7, .int (iI k1))]) hex hbc dL_isLaid_122 hl (by decide) rfl (fun ls hl => ?_)
          refine lv_aload_n hex hbc dL_isLaid_124 rfl (lv_at hl 1 rfl) ?_
          refine lv_iload hex hbc dL_isLaid_125 (lv_at hl 8 rfl) ?_
          refine lv_iconst (v := iI 1) hex hbc dL_isLaid_127 rfl ?_
          refine zt_iadd hex hbc dL_isLaid_128 ?_
          refine lv_iload_n hex hbc dL_isLaid_129 rfl (lv_at hl 3 rfl) ?_
          refine zt_irem (a := (k1 + 1)) (b := (σ 0 74)) hex hbc (by omega) dL_isLaid_130 ?_
          refine zt_nm (a := ((k1 + 1) % (σ 0 74))) (b := (nxp (σ 0) k1)) (nxp_mod ⟨hk0, c113⟩) ?_
          refine g_calli [.int (iI (nxp (σ 0) k1))] ⟨hex, hbc, hml, hown, hts⟩ (mX4_order l G cx a u_119 (nxp (σ 0) k1) (by omega) (XQ_I hq hI)) (cwV 1 hts gL_isLaid_X4_order rfl rfl rfl (by decide +kernel) ⟨Nat.le_of_ble_eq_true rfl, Nat.le_of_ble_eq_true rfl⟩) hK hP hD hS (fun _ h => h) 0 4 rfl rfl rfl rfl hl.1 (Nat.le_of_ble_eq_true rfl) dL_isLaid_131 ⟨Nat.zero_le _, Nat.zero_le _⟩ (fun r_131 u_131 H locs hw_131 hP hD hS hz_131 hk_131 => ?_)
          obtain ⟨hr_131, hs_131, hn_131⟩ := hw_131
          have hr_131 : iI ((σ 0) (91 + (nxp (σ 0) k1))) = r_131 := Eq.mp (congrArg (fun w => (0 ≤ (nxp (σ 0) k1) ∧ (nxp (σ 0) k1) < w 74) → iI (w (91 + (nxp (σ 0) k1))) = r_131) hq.1) hr_131 hnx
          subst hr_131
          refine zt_nm (a := (σ 0) (91 + (nxp (σ 0) k1))) (b := (σ 0 (91 + nxp (σ 0) k1))) rfl ?_
          have hq := XQ_tr hq hn_131
          refine lv_istore (lv' := [(9, .int (iI (σ 0 (91 + nxp (σ 0) k1)))), (8, .int (iI (σ 0 (91 + k1)))), (0, .ref (a 0)), (1, .int xv), (2, .int (iI (σ 0 74))), (3, .int (iI (σ 0 6))), (4, .int (iI (par_ (σ 0) k1))), (5, .int (iI (sumN (fad (σ 0) (bud (σ 0))) k1.toNat))), (6, .int (iI (sumN (bey_o (σ 0)) k1.toNat))), (7, .int (iI k1))]) hex hbc dL_isLaid_134 hl (by decide) rfl (fun ls hl => ?_)
          refine lv_aload_n hex hbc dL_isLaid_136 rfl (lv_at hl 2 rfl) ?_
          refine lv_iload hex hbc dL_isLaid_137 (lv_at hl 1 rfl) ?_
          refine lv_iconst (v := iI 2) hex hbc dL_isLaid_139 rfl ?_
          refine g_calli [.int (iI (σ 0 (91 + k1))), .int (iI 2)] ⟨hex, hbc, hml, hown, hts⟩ (mX4_slice l G cx a u_131 (σ 0 (91 + k1)) 2 (by omega) (by omega) (XQ_I hq hI)) (cwV 2 hts gL_isLaid_X4_slice rfl rfl rfl (by decide +kernel) ⟨Nat.le_of_ble_eq_true rfl, Nat.le_of_ble_eq_true rfl⟩) hK hP hD hS (fun _ h => h) 0 4 rfl rfl rfl rfl hl.1 (Nat.le_of_ble_eq_true rfl) dL_isLaid_140 ⟨Nat.zero_le _, Nat.zero_le _⟩ (fun r_140 u_140 H locs hw_140 hP hD hS hz_140 hk_140 => ?_)
          obtain ⟨⟨v_140, hr_140, hv_140⟩, hn_140⟩ := hw_140
          have hv_140 : SL_ (σ 0) (σ 0 (91 + k1)) (2 : Int) v_140 := Eq.mp (congrArg (fun w => SL_ w (σ 0 (91 + k1)) (2 : Int) v_140) hq.1) hv_140
          have ev_140 : v_140 = (bud (σ 0) (σ 0 (91 + k1))) := SL2 hv_140 hoP c17
          rw [ev_140] at hr_140
          subst hr_140
          have hq := XQ_tr hq hn_140
          refine lv_istore (lv' := [(10, .int (iI (bud (σ 0) (σ 0 (91 + k1))))), (9, .int (iI (σ 0 (91 + nxp (σ 0) k1)))), (8, .int (iI (σ 0 (91 + k1)))), (0, .ref (a 0)), (1, .int xv), (2, .int (iI (σ 0 74))), (3, .int (iI (σ 0 6))), (4, .int (iI (par_ (σ 0) k1))), (5, .int (iI (sumN (fad (σ 0) (bud (σ 0))) k1.toNat))), (6, .int (iI (sumN (bey_o (σ 0)) k1.toNat))), (7, .int (iI k1))]) hex hbc dL_isLaid_143 hl (by decide) rfl (fun ls hl => ?_)
          refine lv_aload_n hex hbc dL_isLaid_145 rfl (lv_at hl 3 rfl) ?_
          refine lv_iload hex hbc dL_isLaid_146 (lv_at hl 2 rfl) ?_
          refine lv_iconst (v := iI 1) hex hbc dL_isLaid_148 rfl ?_
          refine g_calli [.int (iI (σ 0 (91 + k1))), .int (iI 1)] ⟨hex, hbc, hml, hown, hts⟩ (mX4_slice l G cx a u_140 (σ 0 (91 + k1)) 1 (by omega) (by omega) (XQ_I hq hI)) (cwV 2 hts gL_isLaid_X4_slice rfl rfl rfl (by decide +kernel) ⟨Nat.le_of_ble_eq_true rfl, Nat.le_of_ble_eq_true rfl⟩) hK hP hD hS (fun _ h => h) 0 4 rfl rfl rfl rfl hl.1 (Nat.le_of_ble_eq_true rfl) dL_isLaid_149 ⟨Nat.zero_le _, Nat.zero_le _⟩ (fun r_149 u_149 H locs hw_149 hP hD hS hz_149 hk_149 => ?_)
          obtain ⟨⟨v_149, hr_149, hv_149⟩, hn_149⟩ := hw_149
          have hv_149 : SL_ (σ 0) (σ 0 (91 + k1)) (1 : Int) v_149 := Eq.mp (congrArg (fun w => SL_ w (σ 0 (91 + k1)) (1 : Int) v_149) hq.1) hv_149
          have ev_149 : v_149 = (ln (σ 0) (σ 0 (91 + k1))) := SL1 hv_149 hoP
          rw [ev_149] at hr_149
          subst hr_149
          have hq := XQ_tr hq hn_149
          refine lv_istore (lv' := [(11, .int (iI (ln (σ 0) (σ 0 (91 + k1))))), (10, .int (iI (bud (σ 0) (σ 0 (91 + k1))))), (9, .int (iI (σ 0 (91 + nxp (σ 0) k1)))), (8, .int (iI (σ 0 (91 + k1)))), (0, .ref (a 0)), (1, .int xv), (2, .int (iI (σ 0 74))), (3, .int (iI (σ 0 6))), (4, .int (iI (par_ (σ 0) k1))), (5, .int (iI (sumN (fad (σ 0) (bud (σ 0))) k1.toNat))), (6, .int (iI (sumN (bey_o (σ 0)) k1.toNat))), (7, .int (iI k1))]) hex hbc dL_isLaid_152 hl (by decide) rfl (fun ls hl => ?_)
          refine lv_aload_n hex hbc dL_isLaid_154 rfl (lv_at hl 4 rfl) ?_
          refine lv_iload hex hbc dL_isLaid_155 (lv_at hl 2 rfl) ?_
          refine lv_iconst (v := iI 2) hex hbc dL_isLaid_157 rfl ?_
          refine g_calli [.int (iI (σ 0 (91 + nxp (σ 0) k1))), .int (iI 2)] ⟨hex, hbc, hml, hown, hts⟩ (mX4_slice l G cx a u_149 (σ 0 (91 + nxp (σ 0) k1)) 2 (by omega) (by omega) (XQ_I hq hI)) (cwV 2 hts gL_isLaid_X4_slice rfl rfl rfl (by decide +kernel) ⟨Nat.le_of_ble_eq_true rfl, Nat.le_of_ble_eq_true rfl⟩) hK hP hD hS (fun _ h => h) 0 4 rfl rfl rfl rfl hl.1 (Nat.le_of_ble_eq_true rfl) dL_isLaid_158 ⟨Nat.zero_le _, Nat.zero_le _⟩ (fun r_158 u_158 H locs hw_158 hP hD hS hz_158 hk_158 => ?_)
          obtain ⟨⟨v_158, hr_158, hv_158⟩, hn_158⟩ := hw_158
          have hv_158 : SL_ (σ 0) (σ 0 (91 + nxp (σ 0) k1)) (2 : Int) v_158 := Eq.mp (congrArg (fun w => SL_ w (σ 0 (91 + nxp (σ 0) k1)) (2 : Int) v_158) hq.1) hv_158
          have ev_158 : v_158 = (bud (σ 0) (σ 0 (91 + nxp (σ 0) k1))) := SL2 hv_158 hoN c17
          rw [ev_158] at hr_158
          subst hr_158
          have hq := XQ_tr hq hn_158
          refine lv_istore (lv' := [(12, .int (iI (bud (σ 0) (σ 0 (91 + nxp (σ 0) k1))))), (11, .int (iI (ln (σ 0) (σ 0 (91 + k1))))), (10, .int (iI (bud (σ 0) (σ 0 (91 + k1))))), (9, .int (iI (σ 0 (91 + nxp (σ 0) k1)))), (8, .int (iI (σ 0 (91 + k1)))), (0, .ref (a 0)), (1, .int xv), (2, .int (iI (σ 0 74))), (3, .int (iI (σ 0 6))), (4, .int (iI (par_ (σ 0) k1))), (5, .int (iI (sumN (fad (σ 0) (bud (σ 0))) k1.toNat))), (6, .int (iI (sumN (bey_o (σ 0)) k1.toNat))), (7, .int (iI k1))]) hex hbc dL_isLaid_161 hl (by decide) rfl (fun ls hl => ?_)
          have cut_177 : ∀ (ω177 : Nat → Int → Int), XQ_ σ ω177 → ∀ (H : Heap) (locs : List Loc) (ls : Array Slot), va_P G vwCl (wx cx a ω177) H → va_D (XA a) (wx cx a ω177) → va_S (XA a) s.heap H locs → lv_has ls 18 [(11, .int (iI (ln (σ 0) (σ 0 (91 + k1))))), (10, .int (iI (bud (σ 0) (σ 0 (91 + k1))))), (8, .int (iI (σ 0 (91 + k1)))), (0, .ref (a 0)), (1, .int xv), (2, .int (iI (σ 0 74))), (3, .int (iI (σ 0 6))), (4, .int (iI (par_ (σ 0) k1))), (5, .int (iI (sumN (fad (σ 0) (bud (σ 0))) k1.toNat))), (6, .int (iI (sumN (bey_o (σ 0)) k1.toNat))), (7, .int (iI k1))] → W p l e (headSpec wsL_isLaid ({ frames := 7, cells := 0, slots := 0, locals := 175 })).room s m ([.ref (a 0), .int xv] : List Value).toArray below meth c H locs 0 0 (MQ below (va_Qi (fun r u => iI 1 = r ∧ XQ_ σ u) (gW G (tx cx) (XA a) (wx cx a)) (XA a)) ([.ref (a 0), .int xv] : List Value).toArray s 0 0 (XA a)) (F0 m 177 ls [.int (iI (min (bud (σ 0) (σ 0 (91 + k1))) (bud (σ 0) (σ 0 (91 + nxp (σ 0) k1)))))]) := by
            intro ω177 hq H locs ls hP hD hS hl
            refine lv_iconst (v := iI 4) hex hbc dL_isLaid_177 rfl ?_
            refine zt_idiv (a := (min (bud (σ 0) (σ 0 (91 + k1))) (bud (σ 0) (σ 0 (91 + nxp (σ 0) k1))))) (b := 4) hex hbc (by omega) dL_isLaid_178 ?_
            refine lv_istore (lv' := [(13, .int (iI ((min (bud (σ 0) (σ 0 (91 + k1))) (bud (σ 0) (σ 0 (91 + nxp (σ 0) k1)))) / 4))), (11, .int (iI (ln (σ 0) (σ 0 (91 + k1))))), (10, .int (iI (bud (σ 0) (σ 0 (91 + k1))))), (8, .int (iI (σ 0 (91 + k1)))), (0, .ref (a 0)), (1, .int xv), (2, .int (iI (σ 0 74))), (3, .int (iI (σ 0 6))), (4, .int (iI (par_ (σ 0) k1))), (5, .int (iI (sumN (fad (σ 0) (bud (σ 0))) k1.toNat))), (6, .int (iI (sumN (bey_o (σ 0)) k1.toNat))), (7, .int (iI k1))]) hex hbc dL_isLaid_179 hl (by decide) rfl (fun ls hl => ?_)
            have cut_203 : ∀ (ω203 : Nat → Int → Int), XQ_ σ ω203 → ∀ (H : Heap) (locs : List Loc) (ls : Array Slot), va_P G vwCl (wx cx a ω203) H → va_D (XA a) (wx cx a ω203) → va_S (XA a) s.heap H locs → lv_has ls 18 [(11, .int (iI (ln (σ 0) (σ 0 (91 + k1))))), (10, .int (iI (bud (σ 0) (σ 0 (91 + k1))))), (8, .int (iI (σ 0 (91 + k1)))), (0, .ref (a 0)), (1, .int xv), (2, .int (iI (σ 0 74))), (3, .int (iI (σ 0 6))), (4, .int (iI (par_ (σ 0) k1))), (5, .int (iI (sumN (fad (σ 0) (bud (σ 0))) k1.toNat))), (6, .int (iI (sumN (bey_o (σ 0)) k1.toNat))), (7, .int (iI k1))] → W p l e (headSpec wsL_isLaid ({ frames := 7, cells := 0, slots := 0, locals := 175 })).room s m ([.ref (a 0), .int xv] : List Value).toArray below meth c H locs 0 0 (MQ below (va_Qi (fun r u => iI 1 = r ∧ XQ_ σ u) (gW G (tx cx) (XA a) (wx cx a)) (XA a)) ([.ref (a 0), .int xv] : List Value).toArray s 0 0 (XA a)) (F0 m 203 ls [.int (iI (fad (σ 0) (bud (σ 0)) k1))]) := by
              intro ω203 hq H locs ls hP hD hS hl
              refine lv_istore (lv' := [(13, .int (iI (fad (σ 0) (bud (σ 0)) k1))), (11, .int (iI (ln (σ 0) (σ 0 (91 + k1))))), (10, .int (iI (bud (σ 0) (σ 0 (91 + k1))))), (8, .int (iI (σ 0 (91 + k1)))), (0, .ref (a 0)), (1, .int xv), (2, .int (iI (σ 0 74))), (3, .int (iI (σ 0 6))), (4, .int (iI (par_ (σ 0) k1))), (5, .int (iI (sumN (fad (σ 0) (bud (σ 0))) k1.toNat))), (6, .int (iI (sumN (bey_o (σ 0)) k1.toNat))), (7, .int (iI k1))]) hex hbc dL_isLaid_203 hl (by decide) rfl (fun ls hl => ?_)
              have cut_247 : ∀ (ω247 : Nat → Int → Int), XQ_ σ ω247 → ∀ (H : Heap) (locs : List Loc) (ls : Array Slot), va_P G vwCl (wx cx a ω247) H → va_D (XA a) (wx cx a ω247) → va_S (XA a) s.heap H locs → lv_has ls 18 [(13, .int (iI (fad (σ 0) (bud (σ 0)) k1))), (11, .int (iI (ln (σ 0) (σ 0 (91 + k1))))), (10, .int (iI (bud (σ 0) (σ 0 (91 + k1))))), (8, .int (iI (σ 0 (91 + k1)))), (0, .ref (a 0)), (1, .int xv), (2, .int (iI (σ 0 74))), (3, .int (iI (σ 0 6))), (4, .int (iI (par_ (σ 0) k1))), (5, .int (iI (sumN (fad (σ 0) (bud (σ 0))) k1.toNat))), (6, .int (iI (sumN (bey_o (σ 0)) k1.toNat))), (7, .int (iI k1))] → W p l e (headSpec wsL_isLaid ({ frames := 7, cells := 0, slots := 0, locals := 175 })).room s m ([.ref (a 0), .int xv] : List Value).toArray below meth c H locs 0 0 (MQ below (va_Qi (fun r u => iI 1 = r ∧ XQ_ σ u) (gW G (tx cx) (XA a) (wx cx a)) (XA a)) ([.ref (a 0), .int xv] : List Value).toArray s 0 0 (XA a)) (F0 m 247 ls [.int (iI (1 - bey (σ 0) (bud (σ 0)) (σ 0 (91 + k1))))]) := by
                intro ω247 hq H locs ls hP hD hS hl
                refine lv_istore (lv' := [(14, .int (iI (1 - bey (σ 0) (bud (σ 0)) (σ 0 (91 + k1))))), (13, .int (iI (fad (σ 0) (bud (σ 0)) k1))), (11, .int (iI (ln (σ 0) (σ 0 (91 + k1))))), (10, .int (iI (bud (σ 0) (σ 0 (91 + k1))))), (8, .int (iI (σ 0 (91 + k1)))), (0, .ref (a 0)), (1, .int xv), (2, .int (iI (σ 0 74))), (3, .int (iI (σ 0 6))), (4, .int (iI (par_ (σ 0) k1))), (5, .int (iI (sumN (fad (σ 0) (bud (σ 0))) k1.toNat))), (6, .int (iI (sumN (bey_o (σ 0)) k1.toNat))), (7, .int (iI k1))]) hex hbc dL_isLaid_247 hl (by decide) rfl (fun ls hl => ?_)
                have cut_263 : ∀ (ω263 : Nat → Int → Int), XQ_ σ ω263 → ∀ (H : Heap) (locs : List Loc) (ls : Array Slot), va_P G vwCl (wx cx a ω263) H → va_D (XA a) (wx cx a ω263) → va_S (XA a) s.heap H locs → lv_has ls 18 [(13, .int (iI (fad (σ 0) (bud (σ 0)) k1))), (11, .int (iI (ln (σ 0) (σ 0 (91 + k1))))), (10, .int (iI (bud (σ 0) (σ 0 (91 + k1))))), (8, .int (iI (σ 0 (91 + k1)))), (0, .ref (a 0)), (1, .int xv), (2, .int (iI (σ 0 74))), (3, .int (iI (σ 0 6))), (4, .int (iI (par_ (σ 0) k1))), (5, .int (iI (sumN (fad (σ 0) (bud (σ 0))) k1.toNat))), (7, .int (iI k1))] → W p l e (headSpec wsL_isLaid ({ frames := 7, cells := 0, slots := 0, locals := 175 })).room s m ([.ref (a 0), .int xv] : List Value).toArray below meth c H locs 0 0 (MQ below (va_Qi (fun r u => iI 1 = r ∧ XQ_ σ u) (gW G (tx cx) (XA a) (wx cx a)) (XA a)) ([.ref (a 0), .int xv] : List Value).toArray s 0 0 (XA a)) (F0 m 263 ls [.int (iI (sumN (bey_o (σ 0)) (k1 + 1).toNat))]) := by
                  intro ω263 hq H locs ls hP hD hS hl
                  refine lv_istore (lv' := [(6, .int (iI (sumN (bey_o (σ 0)) (k1 + 1).toNat))), (13, .int (iI (fad (σ 0) (bud (σ 0)) k1))), (11, .int (iI (ln (σ 0) (σ 0 (91 + k1))))), (10, .int (iI (bud (σ 0) (σ 0 (91 + k1))))), (8, .int (iI (σ 0 (91 + k1)))), (0, .ref (a 0)), (1, .int xv), (2, .int (iI (σ 0 74))), (3, .int (iI (σ 0 6))), (4, .int (iI (par_ (σ 0) k1))), (5, .int (iI (sumN (fad (σ 0) (bud (σ 0))) k1.toNat))), (7, .int (iI k1))]) hex hbc dL_isLaid_263 hl (by decide) rfl (fun ls hl => ?_)
                  refine lv_iload hex hbc dL_isLaid_265 (lv_at hl 10 rfl) ?_
                  refine lv_iload hex hbc dL_isLaid_267 (lv_at hl 1 rfl) ?_
                  refine zt_iadd hex hbc dL_isLaid_269 ?_
                  refine zt_nm (a := ((sumN (fad (σ 0) (bud (σ 0))) k1.toNat) + (fad (σ 0) (bud (σ 0)) k1))) (b := (sumN (fad (σ 0) (bud (σ 0))) (k1 + 1).toNat)) (sumN_at hk0).symm ?_
                  refine lv_istore (lv' := [(5, .int (iI (sumN (fad (σ 0) (bud (σ 0))) (k1 + 1).toNat))), (6, .int (iI (sumN (bey_o (σ 0)) (k1 + 1).toNat))), (13, .int (iI (fad (σ 0) (bud (σ 0)) k1))), (11, .int (iI (ln (σ 0) (σ 0 (91 + k1))))), (10, .int (iI (bud (σ 0) (σ 0 (91 + k1))))), (8, .int (iI (σ 0 (91 + k1)))), (0, .ref (a 0)), (1, .int xv), (2, .int (iI (σ 0 74))), (3, .int (iI (σ 0 6))), (4, .int (iI (par_ (σ 0) k1))), (7, .int (iI k1))]) hex hbc dL_isLaid_270 hl (by decide) rfl (fun ls hl => ?_)
                  refine lv_aload_n hex hbc dL_isLaid_272 rfl (lv_at hl 6 rfl) ?_
                  refine lv_iload hex hbc dL_isLaid_273 (lv_at hl 5 rfl) ?_
                  refine lv_iconst (v := iI 4) hex hbc dL_isLaid_275 rfl ?_
                  refine g_calli [.int (iI (σ 0 (91 + k1))), .int (iI 4)] ⟨hex, hbc, hml, hown, hts⟩ (mX4_slice l G cx a ω263 (σ 0 (91 + k1)) 4 (by omega) (by omega) (XQ_I hq hI)) (cwV 2 hts gL_isLaid_X4_slice rfl rfl rfl (by decide +kernel) ⟨Nat.le_of_ble_eq_true rfl, Nat.le_of_ble_eq_true rfl⟩) hK hP hD hS (fun _ h => h) 0 4 rfl rfl rfl rfl hl.1 (Nat.le_of_ble_eq_true rfl) dL_isLaid_276 ⟨Nat.zero_le _, Nat.zero_le _⟩ (fun r_276 u_276 H locs hw_276 hP hD hS hz_276 hk_276 => ?_)
                  obtain ⟨⟨v_276, hr_276, hv_276⟩, hn_276⟩ := hw_276
                  have hv_276 : SL_ (σ 0) (σ 0 (91 + k1)) (4 : Int) v_276 := Eq.mp (congrArg (fun w => SL_ w (σ 0 (91 + k1)) (4 : Int) v_276) hq.1) hv_276
                  have ev_276 : v_276 = (par_ (σ 0) k1) := (SL4 hv_276 hoP c17).trans (congrArg (par_ (σ 0)) hpl)
                  rw [ev_276] at hr_276
                  subst hr_276
                  have hq := XQ_tr hq hn_276
                  refine lv_iload hex hbc dL_isLaid_279 (lv_at hl 10 rfl) ?_
                  refine lv_icmp_ne (tgt := 353) hex hbc dL_isLaid_281 (by decide) (fun h => absurd rfl h) (fun _ => ?_)
                  refine lv_aload_n hex hbc dL_isLaid_284 rfl (lv_at hl 6 rfl) ?_
                  refine lv_iload hex hbc dL_isLaid_285 (lv_at hl 5 rfl) ?_
                  refine lv_bipush (v := iI 6) hex hbc dL_isLaid_287 (by decide) ?_
                  refine g_calli [.int (iI (σ 0 (91 + k1))), .int (iI 6)] ⟨hex, hbc, hml, hown, hts⟩ (mX4_slice l G cx a u_276 (σ 0 (91 + k1)) 6 (by omega) (by omega) (XQ_I hq hI)) (cwV 2 hts gL_isLaid_X4_slice rfl rfl rfl (by decide +kernel) ⟨Nat.le_of_ble_eq_true rfl, Nat.le_of_ble_eq_true rfl⟩) hK hP hD hS (fun _ h => h) 0 4 rfl rfl rfl rfl hl.1 (Nat.le_of_ble_eq_true rfl) dL_isLaid_289 ⟨Nat.zero_le _, Nat.zero_le _⟩ (fun r_289 u_289 H locs hw_289 hP hD hS hz_289 hk_289 => ?_)
                  obtain ⟨⟨v_289, hr_289, hv_289⟩, hn_289⟩ := hw_289
                  have hv_289 : SL_ (σ 0) (σ 0 (91 + k1)) (6 : Int) v_289 := Eq.mp (congrArg (fun w => SL_ w (σ 0 (91 + k1)) (6 : Int) v_289) hq.1) hv_289
                  have ev_289 : v_289 = (fad (σ 0) (bud (σ 0)) k1) := (SL6 hv_289 hoP c17).trans (congrArg (fad (σ 0) (bud (σ 0))) hpl)
                  rw [ev_289] at hr_289
                  subst hr_289
                  have hq := XQ_tr hq hn_289
                  refine lv_iload hex hbc dL_isLaid_292 (lv_at hl 2 rfl) ?_
                  refine lv_icmp_ne (tgt := 353) hex hbc dL_isLaid_294 (by decide) (fun h => absurd rfl h) (fun _ => ?_)
                  refine lv_iload hex hbc dL_isLaid_297 (lv_at hl 4 rfl) ?_
                  refine zt_if_lt (a := (bud (σ 0) (σ 0 (91 + k1)))) (tgt := 353) hex hbc (by omega) dL_isLaid_299 (by decide) (fun c299 => ?_) (fun c299 => ?_)
                  · skip
                    exfalso; omega
                  · skip
                    refine lv_aload_n hex hbc dL_isLaid_302 rfl (lv_at hl 6 rfl) ?_
                    refine lv_iload hex hbc dL_isLaid_303 (lv_at hl 5 rfl) ?_
                    refine g_callf [.int (iI (σ 0 (91 + k1)))] ⟨hex, hbc, hml, hown, hts⟩ (mX4_warp l G cx a u_289 (σ 0 (91 + k1)) (by omega) (XQ_I hq hI)) (cwV 1 hts gL_isLaid_X4_warp rfl rfl rfl (by decide +kernel) ⟨Nat.le_of_ble_eq_true rfl, Nat.le_of_ble_eq_true rfl⟩) hK hP hD hS (fun _ h => h) 0 4 rfl rfl rfl rfl hl.1 (Nat.le_of_ble_eq_true rfl) dL_isLaid_305 ⟨Nat.zero_le _, Nat.zero_le _⟩ (fun r_305 u_305 H locs hw_305 hP hD hS hz_305 hk_305 => ?_)
                    obtain ⟨hv_305, hn_305⟩ := hw_305
                    have hv_305 : WV_ (σ 0) (σ 0 (91 + k1)) r_305 := Eq.mp (congrArg (fun w => WV_ w (σ 0 (91 + k1)) r_305) hq.1) hv_305
                    have hr_305 : r_305 = FP.fdiv (FP.i2f (iI (bud (σ 0) (σ 0 (91 + k1))))) (FP.i2f (iI (ln (σ 0) (σ 0 (91 + k1))))) := (hv_305.2 hoP).1 c17
                    subst hr_305
                    have hq := XQ_tr hq hn_305
                    refine lv_iload hex hbc dL_isLaid_308 (lv_at hl 4 rfl) ?_
                    refine lv_i2f hex hbc dL_isLaid_310 ?_
                    refine lv_iload hex hbc dL_isLaid_311 (lv_at hl 3 rfl) ?_
                    refine lv_i2f hex hbc dL_isLaid_313 ?_
                    refine lv_fdiv hex hbc dL_isLaid_314 (wv_n (by omega)) ?_
                    refine lv_fcmp hex hbc dL_isLaid_315 ?_
                    rw [fc_self (wv_n (show (1 : Int) ≤ (ln (σ 0) (σ 0 (91 + k1))) ∧ (ln (σ 0) (σ 0 (91 + k1))) < 2147483648 from by omega))]
                    refine zt_raw (b := 0) rfl ?_
                    refine zt_if_ne (a := 0) (tgt := 353) hex hbc (by decide) dL_isLaid_316 (by decide) (fun h => absurd h (by decide)) (fun _ => ?_)
                    have cut_355 : ∀ (ω355 : Nat → Int → Int), XQ_ σ ω355 → ∀ (H : Heap) (locs : List Loc) (ls : Array Slot), va_P G vwCl (wx cx a ω355) H → va_D (XA a) (wx cx a ω355) → va_S (XA a) s.heap H locs → lv_has ls 18 [(13, .int (iI (fad (σ 0) (bud (σ 0)) k1))), (11, .int (iI (ln (σ 0) (σ 0 (91 + k1))))), (10, .int (iI (bud (σ 0) (σ 0 (91 + k1))))), (8, .int (iI (σ 0 (91 + k1)))), (0, .ref (a 0)), (1, .int xv), (2, .int (iI (σ 0 74))), (3, .int (iI (σ 0 6))), (4, .int (iI (par_ (σ 0) k1))), (5, .int (iI (sumN (fad (σ 0) (bud (σ 0))) (k1 + 1).toNat))), (6, .int (iI (sumN (bey_o (σ 0)) (k1 + 1).toNat))), (7, .int (iI k1))] → W p l e (headSpec wsL_isLaid ({ frames := 7, cells := 0, slots := 0, locals := 175 })).room s m ([.ref (a 0), .int xv] : List Value).toArray below meth c H locs 0 0 (MQ below (va_Qi (fun r u => iI 1 = r ∧ XQ_ σ u) (gW G (tx cx) (XA a) (wx cx a)) (XA a)) ([.ref (a 0), .int xv] : List Value).toArray s 0 0 (XA a)) (F0 m 355 ls []) := by
                      intro ω355 hq H locs ls hP hD hS hl
                      have cut_483 : ∀ (ω483 : Nat → Int → Int), XQ_ σ ω483 → ∀ (H : Heap) (locs : List Loc) (ls : Array Slot), va_P G vwCl (wx cx a ω483) H → va_D (XA a) (wx cx a ω483) → va_S (XA a) s.heap H locs → lv_has ls 18 [(10, .int (iI (bud (σ 0) (σ 0 (91 + k1))))), (0, .ref (a 0)), (1, .int xv), (2, .int (iI (σ 0 74))), (3, .int (iI (σ 0 6))), (4, .int (iI (par_ (σ 0) k1))), (5, .int (iI (sumN (fad (σ 0) (bud (σ 0))) (k1 + 1).toNat))), (6, .int (iI (sumN (bey_o (σ 0)) (k1 + 1).toNat))), (7, .int (iI k1))] → W p l e (headSpec wsL_isLaid ({ frames := 7, cells := 0, slots := 0, locals := 175 })).room s m ([.ref (a 0), .int xv] : List Value).toArray below meth c H locs 0 0 (MQ below (va_Qi (fun r u => iI 1 = r ∧ XQ_ σ u) (gW G (tx cx) (XA a) (wx cx a)) (XA a)) ([.ref (a 0), .int xv] : List Value).toArray s 0 0 (XA a)) (F0 m 483 ls []) := by
                        intro ω483 hq H locs ls hP hD hS hl
                        refine lv_iload hex hbc dL_isLaid_483 (lv_at hl 5 rfl) ?_
                        refine lv_iload hex hbc dL_isLaid_485 (lv_at hl 0 rfl) ?_
                        refine zt_iadd hex hbc dL_isLaid_487 ?_
                        refine zt_nm (a := ((par_ (σ 0) k1) + (bud (σ 0) (σ 0 (91 + k1))))) (b := (par_ (σ 0) (k1 + 1))) hpa.symm ?_
                        refine lv_istore (lv' := [(4, .int (iI (par_ (σ 0) (k1 + 1)))), (10, .int (iI (bud (σ 0) (σ 0 (91 + k1))))), (0, .ref (a 0)), (1, .int xv), (2, .int (iI (σ 0 74))), (3, .int (iI (σ 0 6))), (5, .int (iI (sumN (fad (σ 0) (bud (σ 0))) (k1 + 1).toNat))), (6, .int (iI (sumN (bey_o (σ 0)) (k1 + 1).toNat))), (7, .int (iI k1))]) hex hbc dL_isLaid_488 hl (by decide) rfl (fun ls hl => ?_)
                        refine lv_iinc (v := iI (k1 + 1)) (lv' := [(7, .int (iI (k1 + 1))), (4, .int (iI (par_ (σ 0) (k1 + 1)))), (10, .int (iI (bud (σ 0) (σ 0 (91 + k1))))), (0, .ref (a 0)), (1, .int xv), (2, .int (iI (σ 0 74))), (3, .int (iI (σ 0 6))), (5, .int (iI (sumN (fad (σ 0) (bud (σ 0))) (k1 + 1).toNat))), (6, .int (iI (sumN (bey_o (σ 0)) (k1 + 1).toNat)))]) hex hbc dL_isLaid_490 hl (k := 8) rfl (iI_add _ _) (by decide) rfl (fun ls hl => ?_)
                        refine lv_goto (tgt := 110) hex hbc dL_isLaid_493 (by decide) ?_
                        exact ih_110 (k1 + 1) ω483 ⟨by omega, by omega⟩ (by omega) hq _ _ _ hP hD hS (lv_sub hl [3, 4, 5, 6, 1, 7, 8, 0] rfl)
                      refine lv_iload hex hbc dL_isLaid_355 (lv_at hl 2 rfl) ?_
                      refine zt_if_le (a := (bud (σ 0) (σ 0 (91 + k1)))) (tgt := 483) hex hbc (by omega) dL_isLaid_357 (by decide) (fun c357 => ?_) (fun c357 => ?_)
                      · skip
                        exact cut_483 _ hq _ _ _ hP hD hS (lv_sub hl [2, 4, 5, 6, 7, 8, 9, 10, 11] rfl)
                      · skip
                        refine lv_iload_n hex hbc dL_isLaid_360 rfl (lv_at hl 5 rfl) ?_
                        refine lv_iload hex hbc dL_isLaid_361 (lv_at hl 11 rfl) ?_
                        refine lv_ishr hex hbc dL_isLaid_363 ?_
                        refine lv_iload hex hbc dL_isLaid_364 (lv_at hl 2 rfl) ?_
                        obtain ⟨j1, ej⟩ : ∃ z, z = lowF (xv >>> ((iI k1) &&& 31)) (bud (σ 0) (σ 0 (91 + k1))) := ⟨_, rfl⟩
                        have hlo_366 : (1 : Int) ≤ (bud (σ 0) (σ 0 (91 + k1))) ∧ ((bud (σ 0) (σ 0 (91 + k1))) : Int) < 2147483648 := (by omega)
                        refine g_callS [.int (xv >>> ((iI k1) &&& 31)), .int (iI (bud (σ 0) (σ 0 (91 + k1))))] ⟨hex, hbc, hml, hown, hts⟩ (mL_low l (xv >>> ((iI k1) &&& 31)) (bud (σ 0) (σ 0 (91 + k1))) hlo_366) (va_cwS 2 hts gL_isLaid_L_low rfl rfl rfl (by decide +kernel) ⟨Nat.le_of_ble_eq_true rfl, Nat.le_of_ble_eq_true rfl⟩) hP hS rfl rfl hl.1 (Nat.le_of_ble_eq_true rfl) dL_isLaid_366 ⟨Nat.zero_le _, Nat.zero_le _⟩ (fun r_366 H locs hw_366 hP hS => ?_)
                        subst hw_366
                        have hli_366 := lowF_in (xv >>> ((iI k1) &&& 31)) hlo_366.1
                        refine zt_nm (a := (lowF (xv >>> ((iI k1) &&& 31)) (bud (σ 0) (σ 0 (91 + k1))))) (b := j1) ej.symm ?_
                        rw [← ej] at hli_366
                        have hjq := jq_in (j := j1) (n := (ln (σ 0) (σ 0 (91 + k1)))) (b := (bud (σ 0) (σ 0 (91 + k1)))) (by omega) (by omega)
                        have hmj := mulb (a := j1) (b := (ln (σ 0) (σ 0 (91 + k1)))) (A := 200001) (B := 64000) (by omega) (by omega) (by omega) (by omega)
                        refine lv_istore (lv' := [(15, .int (iI j1)), (13, .int (iI (fad (σ 0) (bud (σ 0)) k1))), (11, .int (iI (ln (σ 0) (σ 0 (91 + k1))))), (10, .int (iI (bud (σ 0) (σ 0 (91 + k1))))), (8, .int (iI (σ 0 (91 + k1)))), (0, .ref (a 0)), (1, .int xv), (2, .int (iI (σ 0 74))), (3, .int (iI (σ 0 6))), (4, .int (iI (par_ (σ 0) k1))), (5, .int (iI (sumN (fad (σ 0) (bud (σ 0))) (k1 + 1).toNat))), (6, .int (iI (sumN (bey_o (σ 0)) (k1 + 1).toNat))), (7, .int (iI k1))]) hex hbc dL_isLaid_369 hl (by decide) rfl (fun ls hl => ?_)
                        refine lv_aload_n hex hbc dL_isLaid_371 rfl (lv_at hl 5 rfl) ?_
                        refine lv_iload hex hbc dL_isLaid_372 (lv_at hl 4 rfl) ?_
                        refine lv_iconst (v := iI 0) hex hbc dL_isLaid_374 rfl ?_
                        refine g_calli [.int (iI (σ 0 (91 + k1))), .int (iI 0)] ⟨hex, hbc, hml, hown, hts⟩ (mX4_slice l G cx a ω355 (σ 0 (91 + k1)) 0 (by omega) (by omega) (XQ_I hq hI)) (cwV 2 hts gL_isLaid_X4_slice rfl rfl rfl (by decide +kernel) ⟨Nat.le_of_ble_eq_true rfl, Nat.le_of_ble_eq_true rfl⟩) hK hP hD hS (fun _ h => h) 0 4 rfl rfl rfl rfl hl.1 (Nat.le_of_ble_eq_true rfl) dL_isLaid_375 ⟨Nat.zero_le _, Nat.zero_le _⟩ (fun r_375 u_375 H locs hw_375 hP hD hS hz_375 hk_375 => ?_)
                        obtain ⟨⟨v_375, hr_375, hv_375⟩, hn_375⟩ := hw_375
                        have hv_375 : SL_ (σ 0) (σ 0 (91 + k1)) (0 : Int) v_375 := Eq.mp (congrArg (fun w => SL_ w (σ 0 (91 + k1)) (0 : Int) v_375) hq.1) hv_375
                        have ev_375 : v_375 = (fr (σ 0) (σ 0 (91 + k1))) := SL0 hv_375 hoP
                        rw [ev_375] at hr_375
                        subst hr_375
                        have hq := XQ_tr hq hn_375
                        refine lv_aload_n hex hbc dL_isLaid_378 rfl (lv_at hl 5 rfl) ?_
                        refine lv_iconst (v := iI 0) hex hbc dL_isLaid_379 rfl ?_
                        refine g_calli [.int (iI 0)] ⟨hex, hbc, hml, hown, hts⟩ (mX4_setting l G cx a u_375 0 (by omega) (XQ_I hq hI)) (cwV 1 hts gL_isLaid_X4_setting rfl rfl rfl (by decide +kernel) ⟨Nat.le_of_ble_eq_true rfl, Nat.le_of_ble_eq_true rfl⟩) hK hP hD hS (fun _ h => h) 0 4 rfl rfl rfl rfl hl.1 (Nat.le_of_ble_eq_true rfl) dL_isLaid_380 ⟨Nat.zero_le _, Nat.zero_le _⟩ (fun r_380 u_380 H locs hw_380 hP hD hS hz_380 hk_380 => ?_)
                        obtain ⟨hr_380, hs_380, hn_380⟩ := hw_380
                        have hr_380 : iI ((σ 0) (1 + (0 : Int))) = r_380 := Eq.mp (congrArg (fun w => (0 ≤ (0 : Int) ∧ (0 : Int) ≤ 8) → iI (w (1 + (0 : Int))) = r_380) hq.1) hr_380 (by omega)
                        subst hr_380
                        refine zt_nm (a := (σ 0) (1 + (0 : Int))) (b := (σ 0 1)) rfl ?_
                        have hq := XQ_tr hq hn_380
                        refine zt_imul hex hbc dL_isLaid_383 ?_
                        refine lv_istore (lv' := [(16, .int (iI ((fr (σ 0) (σ 0 (91 + k1))) * (σ 0 1)))), (15, .int (iI j1)), (13, .int (iI (fad (σ 0) (bud (σ 0)) k1))), (11, .int (iI (ln (σ 0) (σ 0 (91 + k1))))), (10, .int (iI (bud (σ 0) (σ 0 (91 + k1))))), (8, .int (iI (σ 0 (91 + k1)))), (0, .ref (a 0)), (1, .int xv), (2, .int (iI (σ 0 74))), (3, .int (iI (σ 0 6))), (4, .int (iI (par_ (σ 0) k1))), (5, .int (iI (sumN (fad (σ 0) (bud (σ 0))) (k1 + 1).toNat))), (6, .int (iI (sumN (bey_o (σ 0)) (k1 + 1).toNat))), (7, .int (iI k1))]) hex hbc dL_isLaid_384 hl (by decide) rfl (fun ls hl => ?_)
                        refine lv_aload_n hex hbc dL_isLaid_386 rfl (lv_at hl 6 rfl) ?_
                        refine lv_iload hex hbc dL_isLaid_387 (lv_at hl 10 rfl) ?_
                        refine lv_iload hex hbc dL_isLaid_389 (lv_at hl 1 rfl) ?_
                        refine zt_iadd hex hbc dL_isLaid_391 ?_
                        refine lv_iconst (v := iI 0) hex hbc dL_isLaid_392 rfl ?_
                        refine g_calli [.int (iI ((par_ (σ 0) k1) + j1)), .int (iI 0)] ⟨hex, hbc, hml, hown, hts⟩ (mX4_source l G cx a u_380 ((par_ (σ 0) k1) + j1) 0 (by omega) (by omega) (XQ_I hq hI)) (cwV 2 hts gL_isLaid_X4_source rfl rfl rfl (by decide +kernel) ⟨Nat.le_of_ble_eq_true rfl, Nat.le_of_ble_eq_true rfl⟩) hK hP hD hS (fun _ h => h) 0 4 rfl rfl rfl rfl hl.1 (Nat.le_of_ble_eq_true rfl) dL_isLaid_393 ⟨Nat.zero_le _, Nat.zero_le _⟩ (fun r_393 u_393 H locs hw_393 hP hD hS hz_393 hk_393 => ?_)
                        obtain ⟨⟨v_393, hr_393, hv_393⟩, hn_393⟩ := hw_393
                        have hv_393 : SR_ (σ 0) ((par_ (σ 0) k1) + j1) (0 : Int) v_393 := Eq.mp (congrArg (fun w => SR_ w ((par_ (σ 0) k1) + j1) (0 : Int) v_393) hq.1) hv_393
                        have ev_393 : v_393 = (σ 0 (91 + k1)) := (SR_at hI c17 ⟨hk0, c113⟩ (by omega) (by omega) hv_393).1 rfl
                        rw [ev_393] at hr_393
                        subst hr_393
                        have hq := XQ_tr hq hn_393
                        refine lv_iload hex hbc dL_isLaid_396 (lv_at hl 5 rfl) ?_
                        refine lv_icmp_ne (tgt := 473) hex hbc dL_isLaid_398 (by decide) (fun h => absurd rfl h) (fun _ => ?_)
                        refine lv_aload_n hex hbc dL_isLaid_401 rfl (lv_at hl 6 rfl) ?_
                        refine lv_iload hex hbc dL_isLaid_402 (lv_at hl 10 rfl) ?_
                        refine lv_iload hex hbc dL_isLaid_404 (lv_at hl 1 rfl) ?_
                        refine zt_iadd hex hbc dL_isLaid_406 ?_
                        refine lv_iconst (v := iI 1) hex hbc dL_isLaid_407 rfl ?_
                        refine g_calli [.int (iI ((par_ (σ 0) k1) + j1)), .int (iI 1)] ⟨hex, hbc, hml, hown, hts⟩ (mX4_source l G cx a u_393 ((par_ (σ 0) k1) + j1) 1 (by omega) (by omega) (XQ_I hq hI)) (cwV 2 hts gL_isLaid_X4_source rfl rfl rfl (by decide +kernel) ⟨Nat.le_of_ble_eq_true rfl, Nat.le_of_ble_eq_true rfl⟩) hK hP hD hS (fun _ h => h) 0 4 rfl rfl rfl rfl hl.1 (Nat.le_of_ble_eq_true rfl) dL_isLaid_408 ⟨Nat.zero_le _, Nat.zero_le _⟩ (fun r_408 u_408 H locs hw_408 hP hD hS hz_408 hk_408 => ?_)
                        obtain ⟨⟨v_408, hr_408, hv_408⟩, hn_408⟩ := hw_408
                        have hv_408 : SR_ (σ 0) ((par_ (σ 0) k1) + j1) (1 : Int) v_408 := Eq.mp (congrArg (fun w => SR_ w ((par_ (σ 0) k1) + j1) (1 : Int) v_408) hq.1) hv_408
                        have ev_408 : v_408 = ((fr (σ 0) (σ 0 (91 + k1))) * (σ 0 1) + j1 * (ln (σ 0) (σ 0 (91 + k1))) / (bud (σ 0) (σ 0 (91 + k1)))) := ((SR_at hI c17 ⟨hk0, c113⟩ (by omega) (by omega) hv_408).2.1 rfl).trans (org_at (by omega) (by omega))
                        rw [ev_408] at hr_408
                        subst hr_408
                        have hq := XQ_tr hq hn_408
                        refine lv_iload hex hbc dL_isLaid_411 (lv_at hl 0 rfl) ?_
                        refine lv_iload hex hbc dL_isLaid_413 (lv_at hl 1 rfl) ?_
                        refine zt_i2l (a := j1) hex hbc (by omega) dL_isLaid_415 ?_
                        refine lv_iload hex hbc dL_isLaid_416 (lv_at hl 3 rfl) ?_
                        refine zt_i2l (a := (ln (σ 0) (σ 0 (91 + k1)))) hex hbc (by omega) dL_isLaid_418 ?_
                        refine zt_lmul hex hbc dL_isLaid_419 ?_
                        refine lv_iload hex hbc dL_isLaid_420 (lv_at hl 4 rfl) ?_
                        refine zt_i2l (a := (bud (σ 0) (σ 0 (91 + k1)))) hex hbc (by omega) dL_isLaid_422 ?_
                        refine zt_ldiv (a := (j1 * (ln (σ 0) (σ 0 (91 + k1))))) (b := (bud (σ 0) (σ 0 (91 + k1)))) hex hbc (by omega) dL_isLaid_423 ?_
                        refine zt_l2i hex hbc dL_isLaid_424 ?_
                        refine zt_iadd hex hbc dL_isLaid_425 ?_
                        refine zt_icmp_ne (a := ((fr (σ 0) (σ 0 (91 + k1))) * (σ 0 1) + j1 * (ln (σ 0) (σ 0 (91 + k1))) / (bud (σ 0) (σ 0 (91 + k1))))) (b := (((fr (σ 0) (σ 0 (91 + k1))) * (σ 0 1)) + ((j1 * (ln (σ 0) (σ 0 (91 + k1)))) / (bud (σ 0) (σ 0 (91 + k1)))))) (tgt := 473) hex hbc (by omega) dL_isLaid_426 (by decide) (fun c426 => ?_) (fun c426 => ?_)
                        · skip
                          exfalso; omega
                        · skip
                          refine lv_aload_n hex hbc dL_isLaid_429 rfl (lv_at hl 6 rfl) ?_
                          refine lv_iload hex hbc dL_isLaid_430 (lv_at hl 10 rfl) ?_
                          refine lv_iload hex hbc dL_isLaid_432 (lv_at hl 1 rfl) ?_
                          refine zt_iadd hex hbc dL_isLaid_434 ?_
                          refine lv_iconst (v := iI 2) hex hbc dL_isLaid_435 rfl ?_
                          refine g_calli [.int (iI ((par_ (σ 0) k1) + j1)), .int (iI 2)] ⟨hex, hbc, hml, hown, hts⟩ (mX4_source l G cx a u_408 ((par_ (σ 0) k1) + j1) 2 (by omega) (by omega) (XQ_I hq hI)) (cwV 2 hts gL_isLaid_X4_source rfl rfl rfl (by decide +kernel) ⟨Nat.le_of_ble_eq_true rfl, Nat.le_of_ble_eq_true rfl⟩) hK hP hD hS (fun _ h => h) 0 4 rfl rfl rfl rfl hl.1 (Nat.le_of_ble_eq_true rfl) dL_isLaid_436 ⟨Nat.zero_le _, Nat.zero_le _⟩ (fun r_436 u_436 H locs hw_436 hP hD hS hz_436 hk_436 => ?_)
                          obtain ⟨⟨v_436, hr_436, hv_436⟩, hn_436⟩ := hw_436
                          have hv_436 : SR_ (σ 0) ((par_ (σ 0) k1) + j1) (2 : Int) v_436 := Eq.mp (congrArg (fun w => SR_ w ((par_ (σ 0) k1) + j1) (2 : Int) v_436) hq.1) hv_436
                          subst hr_436
                          have hq := XQ_tr hq hn_436
                          have hz4 := SR2c (SR_at hI c17 ⟨hk0, c113⟩ (by omega) (by omega) hv_436)
                          refine lv_iload hex hbc dL_isLaid_439 (lv_at hl 1 rfl) ?_
                          refine lv_iload hex hbc dL_isLaid_441 (lv_at hl 4 rfl) ?_
                          refine lv_iload hex hbc dL_isLaid_443 (lv_at hl 2 rfl) ?_
                          refine zt_isub hex hbc dL_isLaid_445 ?_
                          refine zt_icmp_lt (a := j1) (b := ((bud (σ 0) (σ 0 (91 + k1))) - (fad (σ 0) (bud (σ 0)) k1))) (tgt := 453) hex hbc (by omega) dL_isLaid_446 (by decide) (fun c446 => ?_) (fun c446 => ?_)
                          · skip
                            refine lv_iconst (v := iI 0) hex hbc dL_isLaid_453 rfl ?_
                            refine zt_icmp_ne (a := v_436) (b := 0) (tgt := 473) hex hbc (by omega) dL_isLaid_454 (by decide) (fun c454 => ?_) (fun c454 => ?_)
                            · skip
                              exfalso; omega
                            · skip
                              refine lv_aload_n hex hbc dL_isLaid_457 rfl (lv_at hl 6 rfl) ?_
                              refine lv_iload hex hbc dL_isLaid_458 (lv_at hl 10 rfl) ?_
                              refine lv_iconst (v := iI 1) hex hbc dL_isLaid_460 rfl ?_
                              refine g_calli [.int (iI (par_ (σ 0) k1)), .int (iI 1)] ⟨hex, hbc, hml, hown, hts⟩ (mX4_source l G cx a u_436 (par_ (σ 0) k1) 1 (by omega) (by omega) (XQ_I hq hI)) (cwV 2 hts gL_isLaid_X4_source rfl rfl rfl (by decide +kernel) ⟨Nat.le_of_ble_eq_true rfl, Nat.le_of_ble_eq_true rfl⟩) hK hP hD hS (fun _ h => h) 0 4 rfl rfl rfl rfl hl.1 (Nat.le_of_ble_eq_true rfl) dL_isLaid_461 ⟨Nat.zero_le _, Nat.zero_le _⟩ (fun r_461 u_461 H locs hw_461 hP hD hS hz_461 hk_461 => ?_)
                              obtain ⟨⟨v_461, hr_461, hv_461⟩, hn_461⟩ := hw_461
                              have hv_461 : SR_ (σ 0) (par_ (σ 0) k1) (1 : Int) v_461 := Eq.mp (congrArg (fun w => SR_ w (par_ (σ 0) k1) (1 : Int) v_461) hq.1) hv_461
                              have ev_461 : v_461 = ((fr (σ 0) (σ 0 (91 + k1))) * (σ 0 1)) := ((SR_at hI c17 ⟨hk0, c113⟩ (by omega) (by omega) hv_461).2.1 rfl).trans (org_at0 (by omega))
                              rw [ev_461] at hr_461
                              subst hr_461
                              have hq := XQ_tr hq hn_461
                              refine lv_iload hex hbc dL_isLaid_464 (lv_at hl 0 rfl) ?_
                              refine lv_icmp_ne (tgt := 473) hex hbc dL_isLaid_466 (by decide) (fun h => absurd rfl h) (fun _ => ?_)
                              refine lv_iconst (v := iI 1) hex hbc dL_isLaid_469 rfl ?_
                              refine lv_goto (tgt := 474) hex hbc dL_isLaid_470 (by decide) ?_
                              refine lv_istore (lv' := [(17, .int (iI 1)), (16, .int (iI ((fr (σ 0) (σ 0 (91 + k1))) * (σ 0 1)))), (15, .int (iI j1)), (13, .int (iI (fad (σ 0) (bud (σ 0)) k1))), (11, .int (iI (ln (σ 0) (σ 0 (91 + k1))))), (10, .int (iI (bud (σ 0) (σ 0 (91 + k1))))), (8, .int (iI (σ 0 (91 + k1)))), (0, .ref (a 0)), (1, .int xv), (2, .int (iI (σ 0 74))), (3, .int (iI (σ 0 6))), (4, .int (iI (par_ (σ 0) k1))), (5, .int (iI (sumN (fad (σ 0) (bud (σ 0))) (k1 + 1).toNat))), (6, .int (iI (sumN (bey_o (σ 0)) (k1 + 1).toNat))), (7, .int (iI k1))]) hex hbc dL_isLaid_474 hl (by decide) rfl (fun ls hl => ?_)
                              refine lv_iload hex hbc dL_isLaid_476 (lv_at hl 0 rfl) ?_
                              refine zt_if_ne (a := 1) (tgt := 483) hex hbc (by decide) dL_isLaid_478 (by decide) (fun _ => ?_) (fun h => absurd h (by decide))
                              exact cut_483 _ hq _ _ _ hP hD hS (lv_sub hl [5, 7, 8, 9, 10, 11, 12, 13, 14] rfl)
                          · skip
                            refine lv_iconst (v := iI 1) hex hbc dL_isLaid_449 rfl ?_
                            refine lv_goto (tgt := 454) hex hbc dL_isLaid_450 (by decide) ?_
                            refine zt_icmp_ne (a := v_436) (b := 1) (tgt := 473) hex hbc (by omega) dL_isLaid_454 (by decide) (fun c454 => ?_) (fun c454 => ?_)
                            · skip
                              exfalso; omega
                            · skip
                              refine lv_aload_n hex hbc dL_isLaid_457 rfl (lv_at hl 6 rfl) ?_
                              refine lv_iload hex hbc dL_isLaid_458 (lv_at hl 10 rfl) ?_
                              refine lv_iconst (v := iI 1) hex hbc dL_isLaid_460 rfl ?_
                              refine g_calli [.int (iI (par_ (σ 0) k1)), .int (iI 1)] ⟨hex, hbc, hml, hown, hts⟩ (mX4_source l G cx a u_436 (par_ (σ 0) k1) 1 (by omega) (by omega) (XQ_I hq hI)) (cwV 2 hts gL_isLaid_X4_source rfl rfl rfl (by decide +kernel) ⟨Nat.le_of_ble_eq_true rfl, Nat.le_of_ble_eq_true rfl⟩) hK hP hD hS (fun _ h => h) 0 4 rfl rfl rfl rfl hl.1 (Nat.le_of_ble_eq_true rfl) dL_isLaid_461 ⟨Nat.zero_le _, Nat.zero_le _⟩ (fun r_461 u_461 H locs hw_461 hP hD hS hz_461 hk_461 => ?_)
                              obtain ⟨⟨v_461, hr_461, hv_461⟩, hn_461⟩ := hw_461
                              have hv_461 : SR_ (σ 0) (par_ (σ 0) k1) (1 : Int) v_461 := Eq.mp (congrArg (fun w => SR_ w (par_ (σ 0) k1) (1 : Int) v_461) hq.1) hv_461
                              have ev_461 : v_461 = ((fr (σ 0) (σ 0 (91 + k1))) * (σ 0 1)) := ((SR_at hI c17 ⟨hk0, c113⟩ (by omega) (by omega) hv_461).2.1 rfl).trans (org_at0 (by omega))
                              rw [ev_461] at hr_461
                              subst hr_461
                              have hq := XQ_tr hq hn_461
                              refine lv_iload hex hbc dL_isLaid_464 (lv_at hl 0 rfl) ?_
                              refine lv_icmp_ne (tgt := 473) hex hbc dL_isLaid_466 (by decide) (fun h => absurd rfl h) (fun _ => ?_)
                              refine lv_iconst (v := iI 1) hex hbc dL_isLaid_469 rfl ?_
                              refine lv_goto (tgt := 474) hex hbc dL_isLaid_470 (by decide) ?_
                              refine lv_istore (lv' := [(17, .int (iI 1)), (16, .int (iI ((fr (σ 0) (σ 0 (91 + k1))) * (σ 0 1)))), (15, .int (iI j1)), (13, .int (iI (fad (σ 0) (bud (σ 0)) k1))), (11, .int (iI (ln (σ 0) (σ 0 (91 + k1))))), (10, .int (iI (bud (σ 0) (σ 0 (91 + k1))))), (8, .int (iI (σ 0 (91 + k1)))), (0, .ref (a 0)), (1, .int xv), (2, .int (iI (σ 0 74))), (3, .int (iI (σ 0 6))), (4, .int (iI (par_ (σ 0) k1))), (5, .int (iI (sumN (fad (σ 0) (bud (σ 0))) (k1 + 1).toNat))), (6, .int (iI (sumN (bey_o (σ 0)) (k1 + 1).toNat))), (7, .int (iI k1))]) hex hbc dL_isLaid_474 hl (by decide) rfl (fun ls hl => ?_)
                              refine lv_iload hex hbc dL_isLaid_476 (lv_at hl 0 rfl) ?_
                              refine zt_if_ne (a := 1) (tgt := 483) hex hbc (by decide) dL_isLaid_478 (by decide) (fun _ => ?_) (fun h => absurd h (by decide))
                              exact cut_483 _ hq _ _ _ hP hD hS (lv_sub hl [5, 7, 8, 9, 10, 11, 12, 13, 14] rfl)
                    refine lv_aload_n hex hbc dL_isLaid_319 rfl (lv_at hl 6 rfl) ?_
                    refine lv_iload hex hbc dL_isLaid_320 (lv_at hl 5 rfl) ?_
                    refine lv_iconst (v := iI 3) hex hbc dL_isLaid_322 rfl ?_
                    refine g_calli [.int (iI (σ 0 (91 + k1))), .int (iI 3)] ⟨hex, hbc, hml, hown, hts⟩ (mX4_slice l G cx a u_305 (σ 0 (91 + k1)) 3 (by omega) (by omega) (XQ_I hq hI)) (cwV 2 hts gL_isLaid_X4_slice rfl rfl rfl (by decide +kernel) ⟨Nat.le_of_ble_eq_true rfl, Nat.le_of_ble_eq_true rfl⟩) hK hP hD hS (fun _ h => h) 0 4 rfl rfl rfl rfl hl.1 (Nat.le_of_ble_eq_true rfl) dL_isLaid_323 ⟨Nat.zero_le _, Nat.zero_le _⟩ (fun r_323 u_323 H locs hw_323 hP hD hS hz_323 hk_323 => ?_)
                    obtain ⟨⟨v_323, hr_323, hv_323⟩, hn_323⟩ := hw_323
                    have hv_323 : SL_ (σ 0) (σ 0 (91 + k1)) (3 : Int) v_323 := Eq.mp (congrArg (fun w => SL_ w (σ 0 (91 + k1)) (3 : Int) v_323) hq.1) hv_323
                    subst hr_323
                    have hq := XQ_tr hq hn_323
                    have h33 := SL3c hI hv_323 hoP c17
                    refine lv_bipush (v := iI (-9)) hex hbc dL_isLaid_326 (by decide) ?_
                    refine zt_icmp_ne (a := v_323) (b := (-9)) (tgt := 335) hex hbc (by omega) dL_isLaid_328 (by decide) (fun c328 => ?_) (fun c328 => ?_)
                    · skip
                      refine lv_iconst (v := iI 0) hex hbc dL_isLaid_335 rfl ?_
                      refine lv_aload_n hex hbc dL_isLaid_336 rfl (lv_at hl 6 rfl) ?_
                      refine lv_bipush (v := iI 7) hex hbc dL_isLaid_337 (by decide) ?_
                      refine g_calli [.int (iI 7)] ⟨hex, hbc, hml, hown, hts⟩ (mX4_setting l G cx a u_323 7 (by omega) (XQ_I hq hI)) (cwV 1 hts gL_isLaid_X4_setting rfl rfl rfl (by decide +kernel) ⟨Nat.le_of_ble_eq_true rfl, Nat.le_of_ble_eq_true rfl⟩) hK hP hD hS (fun _ h => h) 0 4 rfl rfl rfl rfl hl.1 (Nat.le_of_ble_eq_true rfl) dL_isLaid_339 ⟨Nat.zero_le _, Nat.zero_le _⟩ (fun r_339 u_339 H locs hw_339 hP hD hS hz_339 hk_339 => ?_)
                      obtain ⟨hr_339, hs_339, hn_339⟩ := hw_339
                      have hr_339 : iI ((σ 0) (1 + (7 : Int))) = r_339 := Eq.mp (congrArg (fun w => (0 ≤ (7 : Int) ∧ (7 : Int) ≤ 8) → iI (w (1 + (7 : Int))) = r_339) hq.1) hr_339 (by omega)
                      subst hr_339
                      refine zt_nm (a := (σ 0) (1 + (7 : Int))) (b := (σ 0 8)) rfl ?_
                      have hq := XQ_tr hq hn_339
                      refine zt_if_ne (a := (σ 0 8)) (tgt := 349) hex hbc (by omega) dL_isLaid_342 (by decide) (fun c342 => ?_) (fun c342 => ?_)
                      · skip
                        refine lv_iconst (v := iI 0) hex hbc dL_isLaid_349 rfl ?_
                        refine zt_icmp_eq (a := 0) (b := 0) (tgt := 355) hex hbc (by decide) dL_isLaid_350 (by decide) (fun _ => ?_) (fun h => absurd h (by decide))
                        exact cut_355 _ hq _ _ _ hP hD hS (lv_sub hl [2, 3, 4, 5, 6, 7, 8, 9, 10, 0, 1, 11] rfl)
                      · skip
                        refine lv_iconst (v := iI 1) hex hbc dL_isLaid_345 rfl ?_
                        refine lv_goto (tgt := 350) hex hbc dL_isLaid_346 (by decide) ?_
                        refine zt_icmp_eq (a := 0) (b := 1) (tgt := 355) hex hbc (by decide) dL_isLaid_350 (by decide) (fun h => absurd h (by decide)) (fun _ => ?_)
                        exfalso; omega
                    · skip
                      refine lv_iconst (v := iI 1) hex hbc dL_isLaid_331 rfl ?_
                      refine lv_goto (tgt := 336) hex hbc dL_isLaid_332 (by decide) ?_
                      refine lv_aload_n hex hbc dL_isLaid_336 rfl (lv_at hl 6 rfl) ?_
                      refine lv_bipush (v := iI 7) hex hbc dL_isLaid_337 (by decide) ?_
                      refine g_calli [.int (iI 7)] ⟨hex, hbc, hml, hown, hts⟩ (mX4_setting l G cx a u_323 7 (by omega) (XQ_I hq hI)) (cwV 1 hts gL_isLaid_X4_setting rfl rfl rfl (by decide +kernel) ⟨Nat.le_of_ble_eq_true rfl, Nat.le_of_ble_eq_true rfl⟩) hK hP hD hS (fun _ h => h) 0 4 rfl rfl rfl rfl hl.1 (Nat.le_of_ble_eq_true rfl) dL_isLaid_339 ⟨Nat.zero_le _, Nat.zero_le _⟩ (fun r_339 u_339 H locs hw_339 hP hD hS hz_339 hk_339 => ?_)
                      obtain ⟨hr_339, hs_339, hn_339⟩ := hw_339
                      have hr_339 : iI ((σ 0) (1 + (7 : Int))) = r_339 := Eq.mp (congrArg (fun w => (0 ≤ (7 : Int) ∧ (7 : Int) ≤ 8) → iI (w (1 + (7 : Int))) = r_339) hq.1) hr_339 (by omega)
                      subst hr_339
                      refine zt_nm (a := (σ 0) (1 + (7 : Int))) (b := (σ 0 8)) rfl ?_
                      have hq := XQ_tr hq hn_339
                      refine zt_if_ne (a := (σ 0 8)) (tgt := 349) hex hbc (by omega) dL_isLaid_342 (by decide) (fun c342 => ?_) (fun c342 => ?_)
                      · skip
                        refine lv_iconst (v := iI 0) hex hbc dL_isLaid_349 rfl ?_
                        refine zt_icmp_eq (a := 1) (b := 0) (tgt := 355) hex hbc (by decide) dL_isLaid_350 (by decide) (fun h => absurd h (by decide)) (fun _ => ?_)
                        exfalso; omega
                      · skip
                        refine lv_iconst (v := iI 1) hex hbc dL_isLaid_345 rfl ?_
                        refine lv_goto (tgt := 350) hex hbc dL_isLaid_346 (by decide) ?_
                        refine zt_icmp_eq (a := 1) (b := 1) (tgt := 355) hex hbc (by decide) dL_isLaid_350 (by decide) (fun _ => ?_) (fun h => absurd h (by decide))
                        exact cut_355 _ hq _ _ _ hP hD hS (lv_sub hl [2, 3, 4, 5, 6, 7, 8, 9, 10, 0, 1, 11] rfl)
                refine lv_iload hex hbc dL_isLaid_249 (lv_at hl 0 rfl) ?_
                refine zt_if_eq (a := (1 - bey (σ 0) (bud (σ 0)) (σ 0 (91 + k1)))) (tgt := 259) hex hbc (by omega) dL_isLaid_251 (by decide) (fun c251 => ?_) (fun c251 => ?_)
                · skip
                  refine lv_iload hex hbc dL_isLaid_259 (lv_at hl 11 rfl) ?_
                  refine lv_iconst (v := iI 1) hex hbc dL_isLaid_261 rfl ?_
                  refine zt_iadd hex hbc dL_isLaid_262 ?_
                  refine zt_nm (a := ((sumN (bey_o (σ 0)) k1.toNat) + 1)) (b := (sumN (bey_o (σ 0)) (k1 + 1).toNat)) (by rw [sumN_at hk0]; show _ = _ + bey (σ 0) (bud (σ 0)) (σ 0 (91 + k1)); omega) ?_
                  exact cut_263 _ hq _ _ _ hP hD hS (lv_sub hl [1, 2, 3, 4, 5, 6, 7, 8, 9, 10, 12] rfl)
                · skip
                  refine lv_iload hex hbc dL_isLaid_254 (lv_at hl 11 rfl) ?_
                  refine lv_goto (tgt := 263) hex hbc dL_isLaid_256 (by decide) ?_
                  refine zt_nm (a := (sumN (bey_o (σ 0)) k1.toNat)) (b := (sumN (bey_o (σ 0)) (k1 + 1).toNat)) (by rw [sumN_at hk0]; show _ = _ + bey (σ 0) (bud (σ 0)) (σ 0 (91 + k1)); omega) ?_
                  exact cut_263 _ hq _ _ _ hP hD hS (lv_sub hl [1, 2, 3, 4, 5, 6, 7, 8, 9, 10, 12] rfl)
              refine lv_iload hex hbc dL_isLaid_205 (lv_at hl 2 rfl) ?_
              refine lv_iload hex hbc dL_isLaid_207 (lv_at hl 1 rfl) ?_
              refine lv_aload_n hex hbc dL_isLaid_209 rfl (lv_at hl 4 rfl) ?_
              refine lv_iconst (v := iI 3) hex hbc dL_isLaid_210 rfl ?_
              refine g_calli [.int (iI 3)] ⟨hex, hbc, hml, hown, hts⟩ (mX4_setting l G cx a ω203 3 (by omega) (XQ_I hq hI)) (cwV 1 hts gL_isLaid_X4_setting rfl rfl rfl (by decide +kernel) ⟨Nat.le_of_ble_eq_true rfl, Nat.le_of_ble_eq_true rfl⟩) hK hP hD hS (fun _ h => h) 0 4 rfl rfl rfl rfl hl.1 (Nat.le_of_ble_eq_true rfl) dL_isLaid_211 ⟨Nat.zero_le _, Nat.zero_le _⟩ (fun r_211 u_211 H locs hw_211 hP hD hS hz_211 hk_211 => ?_)
              obtain ⟨hr_211, hs_211, hn_211⟩ := hw_211
              have hr_211 : iI ((σ 0) (1 + (3 : Int))) = r_211 := Eq.mp (congrArg (fun w => (0 ≤ (3 : Int) ∧ (3 : Int) ≤ 8) → iI (w (1 + (3 : Int))) = r_211) hq.1) hr_211 (by omega)
              subst hr_211
              refine zt_nm (a := (σ 0) (1 + (3 : Int))) (b := (σ 0 4)) rfl ?_
              have hq := XQ_tr hq hn_211
              refine zt_imul hex hbc dL_isLaid_214 ?_
              refine lv_bipush (v := iI 100) hex hbc dL_isLaid_215 (by decide) ?_
              refine zt_idiv (a := ((ln (σ 0) (σ 0 (91 + k1))) * (σ 0 4))) (b := 100) hex hbc (by omega) dL_isLaid_217 ?_
              refine zt_icmp_lt (a := (bud (σ 0) (σ 0 (91 + k1)))) (b := (((ln (σ 0) (σ 0 (91 + k1))) * (σ 0 4)) / 100)) (tgt := 246) hex hbc (by omega) dL_isLaid_218 (by decide) (fun c218 => ?_) (fun c218 => ?_)
              · skip
                refine lv_iconst (v := iI 0) hex hbc dL_isLaid_246 rfl ?_
                refine zt_nm (a := 0) (b := (1 - bey (σ 0) (bud (σ 0)) (σ 0 (91 + k1)))) (by unfold bey; first | (rw [if_pos (by omega)]; rfl) | (rw [if_neg (by omega)]; rfl)) ?_
                exact cut_247 _ hq _ _ _ hP hD hS (lv_sub hl [0, 1, 2, 3, 4, 5, 6, 7, 8, 9, 10, 11] rfl)
              · skip
                refine lv_iload hex hbc dL_isLaid_221 (lv_at hl 2 rfl) ?_
                refine zt_i2l (a := (bud (σ 0) (σ 0 (91 + k1)))) hex hbc (by omega) dL_isLaid_223 ?_
                refine lv_iload hex hbc dL_isLaid_224 (lv_at hl 1 rfl) ?_
                refine zt_i2l (a := (ln (σ 0) (σ 0 (91 + k1)))) hex hbc (by omega) dL_isLaid_226 ?_
                refine lv_aload_n hex hbc dL_isLaid_227 rfl (lv_at hl 4 rfl) ?_
                refine lv_iconst (v := iI 4) hex hbc dL_isLaid_228 rfl ?_
                refine g_calli [.int (iI 4)] ⟨hex, hbc, hml, hown, hts⟩ (mX4_setting l G cx a u_211 4 (by omega) (XQ_I hq hI)) (cwV 1 hts gL_isLaid_X4_setting rfl rfl rfl (by decide +kernel) ⟨Nat.le_of_ble_eq_true rfl, Nat.le_of_ble_eq_true rfl⟩) hK hP hD hS (fun _ h => h) 0 4 rfl rfl rfl rfl hl.1 (Nat.le_of_ble_eq_true rfl) dL_isLaid_229 ⟨Nat.zero_le _, Nat.zero_le _⟩ (fun r_229 u_229 H locs hw_229 hP hD hS hz_229 hk_229 => ?_)
                obtain ⟨hr_229, hs_229, hn_229⟩ := hw_229
                have hr_229 : iI ((σ 0) (1 + (4 : Int))) = r_229 := Eq.mp (congrArg (fun w => (0 ≤ (4 : Int) ∧ (4 : Int) ≤ 8) → iI (w (1 + (4 : Int))) = r_229) hq.1) hr_229 (by omega)
                subst hr_229
                refine zt_nm (a := (σ 0) (1 + (4 : Int))) (b := (σ 0 5)) rfl ?_
                have hq := XQ_tr hq hn_229
                refine zt_i2l (a := (σ 0 5)) hex hbc (by omega) dL_isLaid_232 ?_
                refine zt_lmul hex hbc dL_isLaid_233 ?_
                refine lv_ldc2 (v := lI 100) hex hbc hown (hts _ (List.mem_of_getElem? (i := 2) rfl)) dL_isLaid_234 ?_
                refine zt_ldiv (a := ((ln (σ 0) (σ 0 (91 + k1))) * (σ 0 5))) (b := 100) hex hbc (by omega) dL_isLaid_237 ?_
                refine zt_lcmp (a := (bud (σ 0) (σ 0 (91 + k1)))) (b := (((ln (σ 0) (σ 0 (91 + k1))) * (σ 0 5)) / 100)) hex hbc (by omega) dL_isLaid_238 (fun dc238 hdc238 => ?_)
                refine zt_if_gt (a := dc238) (tgt := 246) hex hbc (by omega) dL_isLaid_239 (by decide) (fun c239 => ?_) (fun c239 => ?_)
                · skip
                  refine lv_iconst (v := iI 0) hex hbc dL_isLaid_246 rfl ?_
                  refine zt_nm (a := 0) (b := (1 - bey (σ 0) (bud (σ 0)) (σ 0 (91 + k1)))) (by unfold bey; first | (rw [if_pos (by omega)]; rfl) | (rw [if_neg (by omega)]; rfl)) ?_
                  exact cut_247 _ hq _ _ _ hP hD hS (lv_sub hl [0, 1, 2, 3, 4, 5, 6, 7, 8, 9, 10, 11] rfl)
                · skip
                  refine lv_iconst (v := iI 1) hex hbc dL_isLaid_242 rfl ?_
                  refine lv_goto (tgt := 247) hex hbc dL_isLaid_243 (by decide) ?_
                  refine zt_nm (a := 1) (b := (1 - bey (σ 0) (bud (σ 0)) (σ 0 (91 + k1)))) (by unfold bey; first | (rw [if_pos (by omega)]; rfl) | (rw [if_neg (by omega)]; rfl)) ?_
                  exact cut_247 _ hq _ _ _ hP hD hS (lv_sub hl [0, 1, 2, 3, 4, 5, 6, 7, 8, 9, 10, 11] rfl)
            refine lv_iload hex hbc dL_isLaid_181 (lv_at hl 0 rfl) ?_
            refine lv_aload_n hex hbc dL_isLaid_183 rfl (lv_at hl 4 rfl) ?_
            refine lv_bipush (v := iI 8) hex hbc dL_isLaid_184 (by decide) ?_
            refine g_calli [.int (iI 8)] ⟨hex, hbc, hml, hown, hts⟩ (mX4_setting l G cx a ω177 8 (by omega) (XQ_I hq hI)) (cwV 1 hts gL_isLaid_X4_setting rfl rfl rfl (by decide +kernel) ⟨Nat.le_of_ble_eq_true rfl, Nat.le_of_ble_eq_true rfl⟩) hK hP hD hS (fun _ h => h) 0 4 rfl rfl rfl rfl hl.1 (Nat.le_of_ble_eq_true rfl) dL_isLaid_186 ⟨Nat.zero_le _, Nat.zero_le _⟩ (fun r_186 u_186 H locs hw_186 hP hD hS hz_186 hk_186 => ?_)
            obtain ⟨hr_186, hs_186, hn_186⟩ := hw_186
            have hr_186 : iI ((σ 0) (1 + (8 : Int))) = r_186 := Eq.mp (congrArg (fun w => (0 ≤ (8 : Int) ∧ (8 : Int) ≤ 8) → iI (w (1 + (8 : Int))) = r_186) hq.1) hr_186 (by omega)
            subst hr_186
            refine zt_nm (a := (σ 0) (1 + (8 : Int))) (b := (σ 0 9)) rfl ?_
            have hq := XQ_tr hq hn_186
            refine zt_icmp_ge (a := ((min (bud (σ 0) (σ 0 (91 + k1))) (bud (σ 0) (σ 0 (91 + nxp (σ 0) k1)))) / 4)) (b := (σ 0 9)) (tgt := 197) hex hbc (by omega) dL_isLaid_189 (by decide) (fun c189 => ?_) (fun c189 => ?_)
            · skip
              refine lv_aload_n hex hbc dL_isLaid_197 rfl (lv_at hl 4 rfl) ?_
              refine lv_bipush (v := iI 8) hex hbc dL_isLaid_198 (by decide) ?_
              refine g_calli [.int (iI 8)] ⟨hex, hbc, hml, hown, hts⟩ (mX4_setting l G cx a u_186 8 (by omega) (XQ_I hq hI)) (cwV 1 hts gL_isLaid_X4_setting rfl rfl rfl (by decide +kernel) ⟨Nat.le_of_ble_eq_true rfl, Nat.le_of_ble_eq_true rfl⟩) hK hP hD hS (fun _ h => h) 0 4 rfl rfl rfl rfl hl.1 (Nat.le_of_ble_eq_true rfl) dL_isLaid_200 ⟨Nat.zero_le _, Nat.zero_le _⟩ (fun r_200 u_200 H locs hw_200 hP hD hS hz_200 hk_200 => ?_)
              obtain ⟨hr_200, hs_200, hn_200⟩ := hw_200
              have hr_200 : iI ((σ 0) (1 + (8 : Int))) = r_200 := Eq.mp (congrArg (fun w => (0 ≤ (8 : Int) ∧ (8 : Int) ≤ 8) → iI (w (1 + (8 : Int))) = r_200) hq.1) hr_200 (by omega)
              subst hr_200
              refine zt_nm (a := (σ 0) (1 + (8 : Int))) (b := (σ 0 9)) rfl ?_
              have hq := XQ_tr hq hn_200
              refine zt_nm (a := (σ 0 9)) (b := (fad (σ 0) (bud (σ 0)) k1)) (by rw [hfe]; omega) ?_
              exact cut_203 _ hq _ _ _ hP hD hS (lv_sub hl [1, 2, 3, 4, 5, 6, 7, 8, 9, 10, 11] rfl)
            · skip
              refine lv_iload hex hbc dL_isLaid_192 (lv_at hl 0 rfl) ?_
              refine lv_goto (tgt := 203) hex hbc dL_isLaid_194 (by decide) ?_
              refine zt_nm (a := ((min (bud (σ 0) (σ 0 (91 + k1))) (bud (σ 0) (σ 0 (91 + nxp (σ 0) k1)))) / 4)) (b := (fad (σ 0) (bud (σ 0)) k1)) (by rw [hfe]; omega) ?_
              exact cut_203 _ hq _ _ _ hP hD hS (lv_sub hl [1, 2, 3, 4, 5, 6, 7, 8, 9, 10, 11] rfl)
          refine lv_iload hex hbc dL_isLaid_163 (lv_at hl 2 rfl) ?_
          refine lv_iload hex hbc dL_isLaid_165 (lv_at hl 0 rfl) ?_
          refine zt_icmp_ge (a := (bud (σ 0) (σ 0 (91 + k1)))) (b := (bud (σ 0) (σ 0 (91 + nxp (σ 0) k1)))) (tgt := 175) hex hbc (by omega) dL_isLaid_167 (by decide) (fun c167 => ?_) (fun c167 => ?_)
          · skip
            refine lv_iload hex hbc dL_isLaid_175 (lv_at hl 0 rfl) ?_
            refine zt_nm (a := (bud (σ 0) (σ 0 (91 + nxp (σ 0) k1)))) (b := (min (bud (σ 0) (σ 0 (91 + k1))) (bud (σ 0) (σ 0 (91 + nxp (σ 0) k1))))) (by omega) ?_
            exact cut_177 _ hq _ _ _ hP hD hS (lv_sub hl [1, 2, 4, 5, 6, 7, 8, 9, 10, 11, 12] rfl)
          · skip
            refine lv_iload hex hbc dL_isLaid_170 (lv_at hl 2 rfl) ?_
            refine lv_goto (tgt := 177) hex hbc dL_isLaid_172 (by decide) ?_
            refine zt_nm (a := (bud (σ 0) (σ 0 (91 + k1)))) (b := (min (bud (σ 0) (σ 0 (91 + k1))) (bud (σ 0) (σ 0 (91 + nxp (σ 0) k1))))) (by omega) ?_
            exact cut_177 _ hq _ _ _ hP hD hS (lv_sub hl [1, 2, 4, 5, 6, 7, 8, 9, 10, 11, 12] rfl)
    exact loop_110 _ 0 u_14 ⟨by omega, by omega⟩ (mz_lt _) hq _ _ _ hP hD hS (lv_sub hl [6, 7, 5, 4, 3, 2, 1, 0] rfl)
  · skip
    have h8 : σ 0 8 = 1 := by have h9 : σ 0 8 ≠ 0 := fun q => c17 (Or.inl q); omega
    have hnc : ¬ can_ (σ 0) (σ 0 6) (σ 0 7) := fun q => c17 (Or.inr q)
    refine lv_aload_n hex hbc dL_isLaid_20 rfl (lv_at hl 2 rfl) ?_
    refine lv_bipush (v := iI 7) hex hbc dL_isLaid_21 (by decide) ?_
    refine g_calli [.int (iI 7)] ⟨hex, hbc, hml, hown, hts⟩ (mX4_setting l G cx a u_14 7 (by omega) (XQ_I hq hI)) (cwV 1 hts gL_isLaid_X4_setting rfl rfl rfl (by decide +kernel) ⟨Nat.le_of_ble_eq_true rfl, Nat.le_of_ble_eq_true rfl⟩) hK hP hD hS (fun _ h => h) 0 4 rfl rfl rfl rfl hl.1 (Nat.le_of_ble_eq_true rfl) dL_isLaid_23 ⟨Nat.zero_le _, Nat.zero_le _⟩ (fun r_23 u_23 H locs hw_23 hP hD hS hz_23 hk_23 => ?_)
    obtain ⟨hr_23, hs_23, hn_23⟩ := hw_23
    have hr_23 : iI ((σ 0) (1 + (7 : Int))) = r_23 := Eq.mp (congrArg (fun w => (0 ≤ (7 : Int) ∧ (7 : Int) ≤ 8) → iI (w (1 + (7 : Int))) = r_23) hq.1) hr_23 (by omega)
    subst hr_23
    refine zt_nm (a := (σ 0) (1 + (7 : Int))) (b := 1) h8 ?_
    have hq := XQ_tr hq hn_23
    refine lv_iconst (v := iI 1) hex hbc dL_isLaid_26 rfl ?_
    refine zt_icmp_ne (a := 1) (b := 1) (tgt := 96) hex hbc (by decide) dL_isLaid_27 (by decide) (fun h => absurd h (by decide)) (fun _ => ?_)
    refine lv_aload_n hex hbc dL_isLaid_30 rfl (lv_at hl 2 rfl) ?_
    refine lv_iconst (v := iI 4) hex hbc dL_isLaid_31 rfl ?_
    refine g_calli [.int (iI 4)] ⟨hex, hbc, hml, hown, hts⟩ (mX4_told l G cx a u_23 4 (by omega) (XQ_I hq hI)) (cwV 1 hts gL_isLaid_X4_told rfl rfl rfl (by decide +kernel) ⟨Nat.le_of_ble_eq_true rfl, Nat.le_of_ble_eq_true rfl⟩) hK hP hD hS (fun _ h => h) 0 4 rfl rfl rfl rfl hl.1 (Nat.le_of_ble_eq_true rfl) dL_isLaid_32 ⟨Nat.zero_le _, Nat.zero_le _⟩ (fun r_32 u_32 H locs hw_32 hP hD hS hz_32 hk_32 => ?_)
    obtain ⟨⟨v_32, hr_32, hv_32⟩, hn_32⟩ := hw_32
    have hv_32 : TD_ (σ 0) (u_23 12 1) (4 : Int) v_32 := Eq.mp (congrArg (fun w => TD_ w (u_23 12 1) (4 : Int) v_32) hq.1) hv_32
    have ev_32 : v_32 = (-9) := TD4n hv_32 c17
    rw [ev_32] at hr_32
    subst hr_32
    have hq := XQ_tr hq hn_32
    refine lv_bipush (v := iI (-9)) hex hbc dL_isLaid_35 (by decide) ?_
    refine zt_icmp_ne (a := (-9)) (b := (-9)) (tgt := 96) hex hbc (by decide) dL_isLaid_37 (by decide) (fun h => absurd h (by decide)) (fun _ => ?_)
    refine lv_aload_n hex hbc dL_isLaid_40 rfl (lv_at hl 2 rfl) ?_
    refine lv_iconst (v := iI 5) hex hbc dL_isLaid_41 rfl ?_
    refine g_calli [.int (iI 5)] ⟨hex, hbc, hml, hown, hts⟩ (mX4_told l G cx a u_32 5 (by omega) (XQ_I hq hI)) (cwV 1 hts gL_isLaid_X4_told rfl rfl rfl (by decide +kernel) ⟨Nat.le_of_ble_eq_true rfl, Nat.le_of_ble_eq_true rfl⟩) hK hP hD hS (fun _ h => h) 0 4 rfl rfl rfl rfl hl.1 (Nat.le_of_ble_eq_true rfl) dL_isLaid_42 ⟨Nat.zero_le _, Nat.zero_le _⟩ (fun r_42 u_42 H locs hw_42 hP hD hS hz_42 hk_42 => ?_)
    obtain ⟨⟨v_42, hr_42, hv_42⟩, hn_42⟩ := hw_42
    have hv_42 : TD_ (σ 0) (u_32 12 1) (5 : Int) v_42 := Eq.mp (congrArg (fun w => TD_ w (u_32 12 1) (5 : Int) v_42) hq.1) hv_42
    have ev_42 : v_42 = (-9) := TD5n hv_42 c17
    rw [ev_42] at hr_42
    subst hr_42
    have hq := XQ_tr hq hn_42
    refine lv_bipush (v := iI (-9)) hex hbc dL_isLaid_45 (by decide) ?_
    refine zt_icmp_ne (a := (-9)) (b := (-9)) (tgt := 96) hex hbc (by decide) dL_isLaid_47 (by decide) (fun h => absurd h (by decide)) (fun _ => ?_)
    refine lv_aload_n hex hbc dL_isLaid_50 rfl (lv_at hl 2 rfl) ?_
    refine lv_iconst (v := iI 0) hex hbc dL_isLaid_51 rfl ?_
    refine lv_iconst (v := iI 2) hex hbc dL_isLaid_52 rfl ?_
    refine g_calli [.int (iI 0), .int (iI 2)] ⟨hex, hbc, hml, hown, hts⟩ (mX4_slice l G cx a u_42 0 2 (by omega) (by omega) (XQ_I hq hI)) (cwV 2 hts gL_isLaid_X4_slice rfl rfl rfl (by decide +kernel) ⟨Nat.le_of_ble_eq_true rfl, Nat.le_of_ble_eq_true rfl⟩) hK hP hD hS (fun _ h => h) 0 4 rfl rfl rfl rfl hl.1 (Nat.le_of_ble_eq_true rfl) dL_isLaid_53 ⟨Nat.zero_le _, Nat.zero_le _⟩ (fun r_53 u_53 H locs hw_53 hP hD hS hz_53 hk_53 => ?_)
    obtain ⟨⟨v_53, hr_53, hv_53⟩, hn_53⟩ := hw_53
    have hv_53 : SL_ (σ 0) (0 : Int) (2 : Int) v_53 := Eq.mp (congrArg (fun w => SL_ w (0 : Int) (2 : Int) v_53) hq.1) hv_53
    have ev_53 : v_53 = (-9) := SL2n hv_53 (by omega) c17
    rw [ev_53] at hr_53
    subst hr_53
    have hq := XQ_tr hq hn_53
    refine lv_bipush (v := iI (-9)) hex hbc dL_isLaid_56 (by decide) ?_
    refine zt_icmp_ne (a := (-9)) (b := (-9)) (tgt := 96) hex hbc (by decide) dL_isLaid_58 (by decide) (fun h => absurd h (by decide)) (fun _ => ?_)
    refine lv_aload_n hex hbc dL_isLaid_61 rfl (lv_at hl 2 rfl) ?_
    refine lv_iconst (v := iI 0) hex hbc dL_isLaid_62 rfl ?_
    refine lv_iconst (v := iI 0) hex hbc dL_isLaid_63 rfl ?_
    refine g_calli [.int (iI 0), .int (iI 0)] ⟨hex, hbc, hml, hown, hts⟩ (mX4_source l G cx a u_53 0 0 (by omega) (by omega) (XQ_I hq hI)) (cwV 2 hts gL_isLaid_X4_source rfl rfl rfl (by decide +kernel) ⟨Nat.le_of_ble_eq_true rfl, Nat.le_of_ble_eq_true rfl⟩) hK hP hD hS (fun _ h => h) 0 4 rfl rfl rfl rfl hl.1 (Nat.le_of_ble_eq_true rfl) dL_isLaid_64 ⟨Nat.zero_le _, Nat.zero_le _⟩ (fun r_64 u_64 H locs hw_64 hP hD hS hz_64 hk_64 => ?_)
    obtain ⟨⟨v_64, hr_64, hv_64⟩, hn_64⟩ := hw_64
    have hv_64 : SR_ (σ 0) (0 : Int) (0 : Int) v_64 := Eq.mp (congrArg (fun w => SR_ w (0 : Int) (0 : Int) v_64) hq.1) hv_64
    have ev_64 : v_64 = (-9) := (hv_64.2 (by omega)).1 c17
    rw [ev_64] at hr_64
    subst hr_64
    have hq := XQ_tr hq hn_64
    refine lv_bipush (v := iI (-9)) hex hbc dL_isLaid_67 (by decide) ?_
    refine zt_icmp_ne (a := (-9)) (b := (-9)) (tgt := 96) hex hbc (by decide) dL_isLaid_69 (by decide) (fun h => absurd h (by decide)) (fun _ => ?_)
    refine lv_aload_n hex hbc dL_isLaid_72 rfl (lv_at hl 2 rfl) ?_
    refine lv_iconst (v := iI 0) hex hbc dL_isLaid_73 rfl ?_
    refine g_callf [.int (iI 0)] ⟨hex, hbc, hml, hown, hts⟩ (mX4_warp l G cx a u_64 0 (by omega) (XQ_I hq hI)) (cwV 1 hts gL_isLaid_X4_warp rfl rfl rfl (by decide +kernel) ⟨Nat.le_of_ble_eq_true rfl, Nat.le_of_ble_eq_true rfl⟩) hK hP hD hS (fun _ h => h) 0 4 rfl rfl rfl rfl hl.1 (Nat.le_of_ble_eq_true rfl) dL_isLaid_74 ⟨Nat.zero_le _, Nat.zero_le _⟩ (fun r_74 u_74 H locs hw_74 hP hD hS hz_74 hk_74 => ?_)
    obtain ⟨hv_74, hn_74⟩ := hw_74
    have hv_74 : WV_ (σ 0) (0 : Int) r_74 := Eq.mp (congrArg (fun w => WV_ w (0 : Int) r_74) hq.1) hv_74
    have hr_74 : r_74 = 3239051264 := (hv_74.2 (by omega)).2 c17
    subst hr_74
    have hq := XQ_tr hq hn_74
    refine lv_ldcf (v := 3239051264) hex hbc hown (hts _ (List.mem_of_getElem? (i := 1) rfl)) dL_isLaid_77 ?_
    refine lv_fcmp hex hbc dL_isLaid_79 ?_
    rw [fc_m9]
    refine zt_raw (b := 0) rfl ?_
    refine zt_if_ne (a := 0) (tgt := 96) hex hbc (by decide) dL_isLaid_80 (by decide) (fun h => absurd h (by decide)) (fun _ => ?_)
    refine lv_aload_n hex hbc dL_isLaid_83 rfl (lv_at hl 2 rfl) ?_
    refine g_calli [] ⟨hex, hbc, hml, hown, hts⟩ (mX4_shift l G cx a u_74  (XQ_I hq hI)) (cwV 0 hts gL_isLaid_X4_shift rfl rfl rfl (by decide +kernel) ⟨Nat.le_of_ble_eq_true rfl, Nat.le_of_ble_eq_true rfl⟩) hK hP hD hS (fun _ h => h) 0 4 rfl rfl rfl rfl hl.1 (Nat.le_of_ble_eq_true rfl) dL_isLaid_84 ⟨Nat.zero_le _, Nat.zero_le _⟩ (fun r_84 u_84 H locs hw_84 hP hD hS hz_84 hk_84 => ?_)
    obtain ⟨hr_84, hs_84, hn_84⟩ := hw_84
    have hs_84 : iI (-9) = r_84 := Eq.mp (congrArg (fun w => ¬ (can_ w (w 6) (w 7)) → iI (-9) = r_84) hq.1) hs_84 hnc
    subst hs_84
    have hq := XQ_tr hq hn_84
    refine lv_bipush (v := iI (-9)) hex hbc dL_isLaid_87 (by decide) ?_
    refine zt_icmp_ne (a := (-9)) (b := (-9)) (tgt := 96) hex hbc (by decide) dL_isLaid_89 (by decide) (fun h => absurd h (by decide)) (fun _ => ?_)
    refine lv_iconst (v := iI 1) hex hbc dL_isLaid_92 rfl ?_
    refine lv_goto (tgt := 97) hex hbc dL_isLaid_93 (by decide) ?_
    exact g_zret hex hbc hrt hlocks rfl hK hP hD hS ⟨rfl, hq⟩ dL_isLaid_97
