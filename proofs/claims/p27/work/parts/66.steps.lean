/-! the law: areSteps (rows laid by wip/gen27) -/
set_option maxHeartbeats 4000000 in
set_option maxRecDepth 100000 in
theorem mL_areSteps (l : Launch) (G : va_G) (cx a : Nat → Nat) (σ : Nat → Int → Int)   (hI : Inv (σ 0)) : Met l yL_areSteps wsL_areSteps ({ frames := 7, cells := 0, slots := 0, locals := 172 }) (va_Pc [.ref (a 0)] (gW G (tx cx) (XA a) (wx cx a) σ)) (va_Qi (fun r u => iI 1 = r ∧ XQ_ σ u) (gW G (tx cx) (XA a) (wx cx a)) (XA a)) 0 0 (XA a) := by
  refine Met.ofW (cc := cL_areSteps) (maxL := 12) (ret := some .boolean) (by decide) rfl ?_
  intro p e s m args below meth c s₁ B hml hv
  obtain ⟨rfl, hP, hK, hD⟩ := hv
  have hex := B.exec
  have hbc := B.bytes
  have hrt := B.returns
  have hts := atoms_spec (ws := wsL_areSteps) B.pre
  have hown : s.vm.findClass RL = some m.cls := findClass_of_methodNamed B.named
  have hlocks := B.notSynchronized
  have hq : XQ_ σ σ := XQ_rf
  have hS : va_S (XA a) s.heap s.heap [] := va_S.rf
  have hl := lv_entry ([.ref (a 0)]) (n := 12) (Nat.le_of_ble_eq_true rfl)
  rw [lg_entry_eq]
  generalize (lg_sl ([.ref (a 0)]) ++ List.replicate (12 - (lg_sl ([.ref (a 0)])).length) Slot.unset).toArray = ls at hl ⊢
  have hl : lv_has ls 12 [(0, .ref (a 0))] := hl
  obtain ⟨hB, hEn, hMk, hAs, hPm⟩ := id hI
  have h75 : σ 0 75 = 0 := hB.2.2.2.2.2.2.2.2.2.2.2
  have hf0 : fr (σ 0) 0 = 0 := (fr_lt (by omega)).trans h75
  have hT6 : 0 ≤ σ 0 6 ∧ σ 0 6 ≤ 200000 := by omega
  have hG7 : 1 ≤ σ 0 7 := by omega
  refine lv_aload_n hex hbc dL_areSteps_0 rfl (lv_at hl 0 rfl) ?_
  refine lv_bipush (v := iI 7) hex hbc dL_areSteps_1 (by decide) ?_
  refine g_calli [.int (iI 7)] ⟨hex, hbc, hml, hown, hts⟩ (mX4_setting l G cx a σ 7 (by omega) (XQ_I hq hI)) (cwV 1 hts gL_areSteps_X4_setting rfl rfl rfl (by decide +kernel) ⟨Nat.le_of_ble_eq_true rfl, Nat.le_of_ble_eq_true rfl⟩) hK hP hD hS (fun _ h => h) 0 4 rfl rfl rfl rfl hl.1 (Nat.le_of_ble_eq_true rfl) dL_areSteps_3 ⟨Nat.zero_le _, Nat.zero_le _⟩ (fun r_3 u_3 H locs hw_3 hP hD hS hz_3 hk_3 => ?_)
  obtain ⟨hr_3, hs_3, hn_3⟩ := hw_3
  have hr_3 : iI ((σ 0) (1 + (7 : Int))) = r_3 := Eq.mp (congrArg (fun w => (0 ≤ (7 : Int) ∧ (7 : Int) ≤ 8) → iI (w (1 + (7 : Int))) = r_3) hq.1) hr_3 (by omega)
  subst hr_3
  refine zt_nm (a := (σ 0) (1 + (7 : Int))) (b := (σ 0 8)) rfl ?_
  have hq := XQ_tr hq hn_3
  refine zt_if_eq (a := (σ 0 8)) (tgt := 17) hex hbc (by omega) dL_areSteps_6 (by decide) (fun c6 => ?_) (fun c6 => ?_)
  · skip
    refine lv_iconst (v := iI 1) hex hbc dL_areSteps_17 rfl ?_
    exact g_zret hex hbc hrt hlocks rfl hK hP hD hS ⟨rfl, hq⟩ dL_areSteps_18
  · skip
    refine lv_aload_n hex hbc dL_areSteps_9 rfl (lv_at hl 0 rfl) ?_
    refine lv_iconst (v := iI 3) hex hbc dL_areSteps_10 rfl ?_
    refine g_calli [.int (iI 3)] ⟨hex, hbc, hml, hown, hts⟩ (mX4_told l G cx a u_3 3 (by omega) (XQ_I hq hI)) (cwV 1 hts gL_areSteps_X4_told rfl rfl rfl (by decide +kernel) ⟨Nat.le_of_ble_eq_true rfl, Nat.le_of_ble_eq_true rfl⟩) hK hP hD hS (fun _ h => h) 0 4 rfl rfl rfl rfl hl.1 (Nat.le_of_ble_eq_true rfl) dL_areSteps_11 ⟨Nat.zero_le _, Nat.zero_le _⟩ (fun r_11 u_11 H locs hw_11 hP hD hS hz_11 hk_11 => ?_)
    obtain ⟨⟨v_11, hr_11, hv_11⟩, hn_11⟩ := hw_11
    have hv_11 : TD_ (σ 0) (u_3 12 1) (3 : Int) v_11 := Eq.mp (congrArg (fun w => TD_ w (u_3 12 1) (3 : Int) v_11) hq.1) hv_11
    have hp_11 : (lay_ (σ 0) ∧ v_11 = 1) ∨ (¬ lay_ (σ 0) ∧ v_11 = 0) := TD3 hv_11
    subst hr_11
    have hq := XQ_tr hq hn_11
    refine zt_ifb_ne (P := lay_ (σ 0)) (tgt := 19) hex hbc hp_11 dL_areSteps_14 (by decide) (fun c14 => ?_) (fun c14 => ?_)
    · skip
      have hcn := can_lay c14 c6
      have hbs := bst_can hI hT6 hG7
      have hbs2 := hbs.2 hcn
      have hqd := Int.ediv_nonneg hbs.1 (show 0 ≤ σ 0 0 by omega)
      have hqe := Int.ediv_le_self (σ 0 0) hbs.1
      refine lv_aload_n hex hbc dL_areSteps_19 rfl (lv_at hl 0 rfl) ?_
      refine lv_bipush (v := iI 6) hex hbc dL_areSteps_20 (by decide) ?_
      refine g_calli [.int (iI 6)] ⟨hex, hbc, hml, hown, hts⟩ (mX4_setting l G cx a u_11 6 (by omega) (XQ_I hq hI)) (cwV 1 hts gL_areSteps_X4_setting rfl rfl rfl (by decide +kernel) ⟨Nat.le_of_ble_eq_true rfl, Nat.le_of_ble_eq_true rfl⟩) hK hP hD hS (fun _ h => h) 0 4 rfl rfl rfl rfl hl.1 (Nat.le_of_ble_eq_true rfl) dL_areSteps_22 ⟨Nat.zero_le _, Nat.zero_le _⟩ (fun r_22 u_22 H locs hw_22 hP hD hS hz_22 hk_22 => ?_)
      obtain ⟨hr_22, hs_22, hn_22⟩ := hw_22
      have hr_22 : iI ((σ 0) (1 + (6 : Int))) = r_22 := Eq.mp (congrArg (fun w => (0 ≤ (6 : Int) ∧ (6 : Int) ≤ 8) → iI (w (1 + (6 : Int))) = r_22) hq.1) hr_22 (by omega)
      subst hr_22
      refine zt_nm (a := (σ 0) (1 + (6 : Int))) (b := (σ 0 7)) rfl ?_
      have hq := XQ_tr hq hn_22
      refine lv_istore_n (lv' := [(1, .int (iI (σ 0 7))), (0, .ref (a 0))]) hex hbc dL_areSteps_25 rfl hl (by decide) rfl (fun ls hl => ?_)
      refine lv_aload_n hex hbc dL_areSteps_26 rfl (lv_at hl 1 rfl) ?_
      refine lv_iconst (v := iI 5) hex hbc dL_areSteps_27 rfl ?_
      refine g_calli [.int (iI 5)] ⟨hex, hbc, hml, hown, hts⟩ (mX4_setting l G cx a u_22 5 (by omega) (XQ_I hq hI)) (cwV 1 hts gL_areSteps_X4_setting rfl rfl rfl (by decide +kernel) ⟨Nat.le_of_ble_eq_true rfl, Nat.le_of_ble_eq_true rfl⟩) hK hP hD hS (fun _ h => h) 0 4 rfl rfl rfl rfl hl.1 (Nat.le_of_ble_eq_true rfl) dL_areSteps_28 ⟨Nat.zero_le _, Nat.zero_le _⟩ (fun r_28 u_28 H locs hw_28 hP hD hS hz_28 hk_28 => ?_)
      obtain ⟨hr_28, hs_28, hn_28⟩ := hw_28
      have hr_28 : iI ((σ 0) (1 + (5 : Int))) = r_28 := Eq.mp (congrArg (fun w => (0 ≤ (5 : Int) ∧ (5 : Int) ≤ 8) → iI (w (1 + (5 : Int))) = r_28) hq.1) hr_28 (by omega)
      subst hr_28
      refine zt_nm (a := (σ 0) (1 + (5 : Int))) (b := (σ 0 6)) rfl ?_
      have hq := XQ_tr hq hn_28
      refine lv_istore_n (lv' := [(2, .int (iI (σ 0 6))), (1, .int (iI (σ 0 7))), (0, .ref (a 0))]) hex hbc dL_areSteps_31 rfl hl (by decide) rfl (fun ls hl => ?_)
      refine lv_iconst (v := iI (-1)) hex hbc dL_areSteps_32 rfl ?_
      refine zt_nm (a := -1) (b := (stb (σ 0) (σ 0 6) (σ 0 7) 0)) (if_pos rfl).symm ?_
      refine lv_istore_n (lv' := [(3, .int (iI (stb (σ 0) (σ 0 6) (σ 0 7) 0))), (2, .int (iI (σ 0 6))), (1, .int (iI (σ 0 7))), (0, .ref (a 0))]) hex hbc dL_areSteps_33 rfl hl (by decide) rfl (fun ls hl => ?_)
      refine lv_lconst (v := lI 0) hex hbc dL_areSteps_34 rfl ?_
      refine zt_nml (a := 0) (b := (sumN (ofs (σ 0) (σ 0 6) (σ 0 7)) (0 : Int).toNat)) rfl ?_
      refine lv_lstore (lv' := [(4, .long (lI (sumN (ofs (σ 0) (σ 0 6) (σ 0 7)) (0 : Int).toNat))), (3, .int (iI (stb (σ 0) (σ 0 6) (σ 0 7) 0))), (2, .int (iI (σ 0 6))), (1, .int (iI (σ 0 7))), (0, .ref (a 0))]) hex hbc dL_areSteps_35 hl (by decide) rfl (fun ls hl => ?_)
      refine lv_iconst (v := iI 0) hex hbc dL_areSteps_37 rfl ?_
      refine lv_istore (lv' := [(6, .int (iI 0)), (4, .long (lI (sumN (ofs (σ 0) (σ 0 6) (σ 0 7)) (0 : Int).toNat))), (3, .int (iI (stb (σ 0) (σ 0 6) (σ 0 7) 0))), (2, .int (iI (σ 0 6))), (1, .int (iI (σ 0 7))), (0, .ref (a 0))]) hex hbc dL_areSteps_38 hl (by decide) rfl (fun ls hl => ?_)
      have loop_40 : ∀ (N : Nat) (k1 : Int) (ω40 : Nat → Int → Int), (0 ≤ k1 ∧ k1 ≤ σ 0 74) → (16 - k1) < (N : Int) → XQ_ σ ω40 → ∀ (H : Heap) (locs : List Loc) (ls : Array Slot), va_P G vwCl (wx cx a ω40) H → va_D (XA a) (wx cx a ω40) → va_S (XA a) s.heap H locs → lv_has ls 12 [(6, .int (iI k1)), (0, .ref (a 0)), (1, .int (iI (σ 0 7))), (2, .int (iI (σ 0 6))), (3, .int (iI (stb (σ 0) (σ 0 6) (σ 0 7) k1))), (4, .long (lI (sumN (ofs (σ 0) (σ 0 6) (σ 0 7)) k1.toNat)))] → W p l e (headSpec wsL_areSteps ({ frames := 7, cells := 0, slots := 0, locals := 172 })).room s m ([.ref (a 0)] : List Value).toArray below meth c H locs 0 0 (MQ below (va_Qi (fun r u => iI 1 = r ∧ XQ_ σ u) (gW G (tx cx) (XA a) (wx cx a)) (XA a)) ([.ref (a 0)] : List Value).toArray s 0 0 (XA a)) (F0 m 40 ls []) := by
        intro N
        induction N with
        | zero => intro k1 ω40 hinv hlt; exfalso; omega
        | succ N ih_40 =>
          intro k1 ω40 ⟨hk0, hk1⟩ hlt_40 hq H locs ls hP hD hS hl
          refine lv_iload hex hbc dL_areSteps_40 (lv_at hl 0 rfl) ?_
          refine lv_aload_n hex hbc dL_areSteps_42 rfl (lv_at hl 1 rfl) ?_
          refine lv_iconst (v := iI 2) hex hbc dL_areSteps_43 rfl ?_
          refine g_calli [.int (iI 2)] ⟨hex, hbc, hml, hown, hts⟩ (mX4_told l G cx a ω40 2 (by omega) (XQ_I hq hI)) (cwV 1 hts gL_areSteps_X4_told rfl rfl rfl (by decide +kernel) ⟨Nat.le_of_ble_eq_true rfl, Nat.le_of_ble_eq_true rfl⟩) hK hP hD hS (fun _ h => h) 0 4 rfl rfl rfl rfl hl.1 (Nat.le_of_ble_eq_true rfl) dL_areSteps_44 ⟨Nat.zero_le _, Nat.zero_le _⟩ (fun r_44 u_44 H locs hw_44 hP hD hS hz_44 hk_44 => ?_)
          obtain ⟨⟨v_44, hr_44, hv_44⟩, hn_44⟩ := hw_44
          have hv_44 : TD_ (σ 0) (ω40 12 1) (2 : Int) v_44 := Eq.mp (congrArg (fun w => TD_ w (ω40 12 1) (2 : Int) v_44) hq.1) hv_44
          have ev_44 : v_44 = (σ 0 74) := TD2 hv_44
          rw [ev_44] at hr_44
          subst hr_44
          have hq := XQ_tr hq hn_44
          refine zt_icmp_ge (a := k1) (b := (σ 0 74)) (tgt := 146) hex hbc (by omega) dL_areSteps_47 (by decide) (fun c47 => ?_) (fun c47 => ?_)
          · skip
            refine lv_aload_n hex hbc dL_areSteps_146 rfl (lv_at hl 1 rfl) ?_
            refine g_calli [] ⟨hex, hbc, hml, hown, hts⟩ (mX4_leastGrid l G cx a u_44  (XQ_I hq hI)) (cwV 0 hts gL_areSteps_X4_leastGrid rfl rfl rfl (by decide +kernel) ⟨Nat.le_of_ble_eq_true rfl, Nat.le_of_ble_eq_true rfl⟩) hK hP hD hS (fun _ h => h) 0 4 rfl rfl rfl rfl hl.1 (Nat.le_of_ble_eq_true rfl) dL_areSteps_147 ⟨Nat.zero_le _, Nat.zero_le _⟩ (fun r_147 u_147 H locs hw_147 hP hD hS hz_147 hk_147 => ?_)
            obtain ⟨⟨v_147, hr_147, hv_147⟩, hn_147⟩ := hw_147
            have hv_147 : LG_ (σ 0) v_147 := Eq.mp (congrArg (fun w => LG_ w v_147) hq.1) hv_147
            subst hr_147
            have hq := XQ_tr hq hn_147
            have hlg := LG_at hv_147 (by omega) hcn
            refine lv_istore (lv' := [(6, .int (iI v_147)), (0, .ref (a 0)), (1, .int (iI (σ 0 7))), (2, .int (iI (σ 0 6))), (3, .int (iI (stb (σ 0) (σ 0 6) (σ 0 7) k1))), (4, .long (lI (sumN (ofs (σ 0) (σ 0 6) (σ 0 7)) k1.toNat)))]) hex hbc dL_areSteps_150 hl (by decide) rfl (fun ls hl => ?_)
            refine lv_aload_n hex hbc dL_areSteps_152 rfl (lv_at hl 1 rfl) ?_
            refine g_calli [] ⟨hex, hbc, hml, hown, hts⟩ (mX4_shift l G cx a u_147  (XQ_I hq hI)) (cwV 0 hts gL_areSteps_X4_shift rfl rfl rfl (by decide +kernel) ⟨Nat.le_of_ble_eq_true rfl, Nat.le_of_ble_eq_true rfl⟩) hK hP hD hS (fun _ h => h) 0 4 rfl rfl rfl rfl hl.1 (Nat.le_of_ble_eq_true rfl) dL_areSteps_153 ⟨Nat.zero_le _, Nat.zero_le _⟩ (fun r_153 u_153 H locs hw_153 hP hD hS hz_153 hk_153 => ?_)
            obtain ⟨hr_153, hs_153, hn_153⟩ := hw_153
            have hr_153 : iI (bst (σ 0) ((σ 0) 6) ((σ 0) 7) ((σ 0) 74 - 1).toNat 0 / (σ 0) 0) = r_153 := Eq.mp (congrArg (fun w => (can_ w (w 6) (w 7)) → iI (bst w (w 6) (w 7) (w 74 - 1).toNat 0 / w 0) = r_153) hq.1) hr_153 hcn
            subst hr_153
            have hq := XQ_tr hq hn_153
            refine lv_lload hex hbc dL_areSteps_156 (lv_at hl 5 rfl) ?_
            refine zt_nml (a := (sumN (ofs (σ 0) (σ 0 6) (σ 0 7)) k1.toNat)) (b := (bst (σ 0) (σ 0 6) (σ 0 7) (σ 0 74 - 1).toNat 0)) (by rw [show k1 = σ 0 74 by omega]; exact ofs_all hI hT6 hG7 hcn) ?_
            refine lv_aload_n hex hbc dL_areSteps_158 rfl (lv_at hl 1 rfl) ?_
            refine lv_iconst (v := iI 0) hex hbc dL_areSteps_159 rfl ?_
            refine g_calli [.int (iI 0)] ⟨hex, hbc, hml, hown, hts⟩ (mX4_told l G cx a u_153 0 (by omega) (XQ_I hq hI)) (cwV 1 hts gL_areSteps_X4_told rfl rfl rfl (by decide +kernel) ⟨Nat.le_of_ble_eq_true rfl, Nat.le_of_ble_eq_true rfl⟩) hK hP hD hS (fun _ h => h) 0 4 rfl rfl rfl rfl hl.1 (Nat.le_of_ble_eq_true rfl) dL_areSteps_160 ⟨Nat.zero_le _, Nat.zero_le _⟩ (fun r_160 u_160 H locs hw_160 hP hD hS hz_160 hk_160 => ?_)
            obtain ⟨⟨v_160, hr_160, hv_160⟩, hn_160⟩ := hw_160
            have hv_160 : TD_ (σ 0) (u_153 12 1) (0 : Int) v_160 := Eq.mp (congrArg (fun w => TD_ w (u_153 12 1) (0 : Int) v_160) hq.1) hv_160
            have ev_160 : v_160 = (σ 0 0) := TD0 hv_160
            rw [ev_160] at hr_160
            subst hr_160
            have hq := XQ_tr hq hn_160
            refine zt_i2l (a := (σ 0 0)) hex hbc (by omega) dL_areSteps_163 ?_
            refine zt_ldiv (a := (bst (σ 0) (σ 0 6) (σ 0 7) (σ 0 74 - 1).toNat 0)) (b := (σ 0 0)) hex hbc (by omega) dL_areSteps_164 ?_
            refine zt_l2i hex hbc dL_areSteps_165 ?_
            refine zt_icmp_ne (a := (bst (σ 0) ((σ 0) 6) ((σ 0) 7) ((σ 0) 74 - 1).toNat 0 / (σ 0) 0)) (b := ((bst (σ 0) (σ 0 6) (σ 0 7) (σ 0 74 - 1).toNat 0) / (σ 0 0))) (tgt := 193) hex hbc (by omega) dL_areSteps_166 (by decide) (fun c166 => ?_) (fun c166 => ?_)
            · skip
              exfalso; omega
            · skip
              refine lv_iload hex hbc dL_areSteps_169 (lv_at hl 0 rfl) ?_
              refine zt_if_le (a := v_147) (tgt := 193) hex hbc (by omega) dL_areSteps_171 (by decide) (fun c171 => ?_) (fun c171 => ?_)
              · skip
                exfalso; omega
              · skip
                refine lv_iload hex hbc dL_areSteps_174 (lv_at hl 0 rfl) ?_
                refine lv_iload_n hex hbc dL_areSteps_176 rfl (lv_at hl 2 rfl) ?_
                refine zt_icmp_gt (a := v_147) (b := (σ 0 7)) (tgt := 193) hex hbc (by omega) dL_areSteps_177 (by decide) (fun c177 => ?_) (fun c177 => ?_)
                · skip
                  exfalso; omega
                · skip
                  refine lv_aload_n hex hbc dL_areSteps_180 rfl (lv_at hl 1 rfl) ?_
                  refine lv_iconst (v := iI 0) hex hbc dL_areSteps_181 rfl ?_
                  refine g_calli [.int (iI 0)] ⟨hex, hbc, hml, hown, hts⟩ (mX4_nearTarget l G cx a u_160 0 (by omega) (XQ_I hq hI)) (cwV 1 hts gL_areSteps_X4_nearTarget rfl rfl rfl (by decide +kernel) ⟨Nat.le_of_ble_eq_true rfl, Nat.le_of_ble_eq_true rfl⟩) hK hP hD hS (fun _ h => h) 0 4 rfl rfl rfl rfl hl.1 (Nat.le_of_ble_eq_true rfl) dL_areSteps_182 ⟨Nat.zero_le _, Nat.zero_le _⟩ (fun r_182 u_182 H locs hw_182 hP hD hS hz_182 hk_182 => ?_)
                  obtain ⟨hs_182, hr_182, hn_182⟩ := hw_182
                  obtain ⟨v_182, hr_182, hv_182⟩ := hr_182 (by omega)
                  have hv_182 : NT_ (σ 0) (0 : Int) v_182 := Eq.mp (congrArg (fun w => NT_ w (0 : Int) v_182) hq.1) hv_182
                  have ev_182 : v_182 = (σ 0 6) := NT_at hv_182 (by omega) hcn
                  rw [ev_182] at hr_182
                  subst hr_182
                  have hq := XQ_tr hq hn_182
                  refine lv_iload_n hex hbc dL_areSteps_185 rfl (lv_at hl 3 rfl) ?_
                  refine lv_icmp_ne (tgt := 193) hex hbc dL_areSteps_186 (by decide) (fun h => absurd rfl h) (fun _ => ?_)
                  refine lv_iconst (v := iI 1) hex hbc dL_areSteps_189 rfl ?_
                  refine lv_goto (tgt := 194) hex hbc dL_areSteps_190 (by decide) ?_
                  exact g_zret hex hbc hrt hlocks rfl hK hP hD hS ⟨rfl, hq⟩ dL_areSteps_194
          · skip
            have hs1 := stp_lt hI hT6 hG7 hcn hk0 c47
            have hs2 := stp_in hI hT6 hG7 hcn hk0
            have hs3 := stp_in hI hT6 hG7 hcn (k := k1 + 1) (by omega)
            have hsb := stb_lt hI hT6 hG7 hcn hk0 c47
            have hpo := po_in (T := σ 0 6) (G := σ 0 7) (i := stp (σ 0) (σ 0 6) (σ 0 7) k1) hT6 hG7 hs2
            have hfr := hI.fr_in hk0
            have hm0 := mulb (a := stp (σ 0) (σ 0 6) (σ 0 7) k1) (b := σ 0 6) (A := 32) (B := 200000) (by omega) (by omega) (by omega) (by omega)
            have hm1 := mulb (a := po (σ 0 6) (σ 0 7) (stp (σ 0) (σ 0 6) (σ 0 7) k1)) (b := σ 0 0) (A := 200000) (B := 64) (by omega) (by omega) (by omega) (by omega)
            have hm2 := mulb (a := fr (σ 0) k1) (b := σ 0 6) (A := 64) (B := 200000) (by omega) (by omega) (by omega) (by omega)
            refine lv_aload_n hex hbc dL_areSteps_50 rfl (lv_at hl 1 rfl) ?_
            refine lv_iload hex hbc dL_areSteps_51 (lv_at hl 0 rfl) ?_
            refine lv_iconst (v := iI 3) hex hbc dL_areSteps_53 rfl ?_
            refine g_calli [.int (iI k1), .int (iI 3)] ⟨hex, hbc, hml, hown, hts⟩ (mX4_slice l G cx a u_44 k1 3 (by omega) (by omega) (XQ_I hq hI)) (cwV 2 hts gL_areSteps_X4_slice rfl rfl rfl (by decide +kernel) ⟨Nat.le_of_ble_eq_true rfl, Nat.le_of_ble_eq_true rfl⟩) hK hP hD hS (fun _ h => h) 0 4 rfl rfl rfl rfl hl.1 (Nat.le_of_ble_eq_true rfl) dL_areSteps_54 ⟨Nat.zero_le _, Nat.zero_le _⟩ (fun r_54 u_54 H locs hw_54 hP hD hS hz_54 hk_54 => ?_)
            obtain ⟨⟨v_54, hr_54, hv_54⟩, hn_54⟩ := hw_54
            have hv_54 : SL_ (σ 0) k1 (3 : Int) v_54 := Eq.mp (congrArg (fun w => SL_ w k1 (3 : Int) v_54) hq.1) hv_54
            have ev_54 : v_54 = (stp (σ 0) (σ 0 6) (σ 0 7) k1) := SL3 hv_54 ⟨hk0, c47⟩ ⟨c14, c6⟩
            rw [ev_54] at hr_54
            subst hr_54
            have hq := XQ_tr hq hn_54
            refine lv_istore (lv' := [(7, .int (iI (stp (σ 0) (σ 0 6) (σ 0 7) k1))), (6, .int (iI k1)), (0, .ref (a 0)), (1, .int (iI (σ 0 7))), (2, .int (iI (σ 0 6))), (3, .int (iI (stb (σ 0) (σ 0 6) (σ 0 7) k1))), (4, .long (lI (sumN (ofs (σ 0) (σ 0 6) (σ 0 7)) k1.toNat)))]) hex hbc dL_areSteps_57 hl (by decide) rfl (fun ls hl => ?_)
            refine lv_iload hex hbc dL_areSteps_59 (lv_at hl 0 rfl) ?_
            refine zt_i2l (a := (stp (σ 0) (σ 0 6) (σ 0 7) k1)) hex hbc (by omega) dL_areSteps_61 ?_
            refine lv_iload_n hex hbc dL_areSteps_62 rfl (lv_at hl 4 rfl) ?_
            refine zt_i2l (a := (σ 0 6)) hex hbc (by omega) dL_areSteps_63 ?_
            refine zt_lmul hex hbc dL_areSteps_64 ?_
            refine lv_iload_n hex hbc dL_areSteps_65 rfl (lv_at hl 3 rfl) ?_
            refine zt_i2l (a := (σ 0 7)) hex hbc (by omega) dL_areSteps_66 ?_
            refine zt_ldiv (a := ((stp (σ 0) (σ 0 6) (σ 0 7) k1) * (σ 0 6))) (b := (σ 0 7)) hex hbc (by omega) dL_areSteps_67 ?_
            refine zt_nml (a := (((stp (σ 0) (σ 0 6) (σ 0 7) k1) * (σ 0 6)) / (σ 0 7))) (b := (po (σ 0 6) (σ 0 7) (stp (σ 0) (σ 0 6) (σ 0 7) k1))) rfl ?_
            refine lv_lstore (lv' := [(8, .long (lI (po (σ 0 6) (σ 0 7) (stp (σ 0) (σ 0 6) (σ 0 7) k1)))), (7, .int (iI (stp (σ 0) (σ 0 6) (σ 0 7) k1))), (6, .int (iI k1)), (0, .ref (a 0)), (1, .int (iI (σ 0 7))), (2, .int (iI (σ 0 6))), (3, .int (iI (stb (σ 0) (σ 0 6) (σ 0 7) k1))), (4, .long (lI (sumN (ofs (σ 0) (σ 0 6) (σ 0 7)) k1.toNat)))]) hex hbc dL_areSteps_68 hl (by decide) rfl (fun ls hl => ?_)
            refine lv_lload hex hbc dL_areSteps_70 (lv_at hl 0 rfl) ?_
            refine lv_aload_n hex hbc dL_areSteps_72 rfl (lv_at hl 3 rfl) ?_
            refine lv_iconst (v := iI 0) hex hbc dL_areSteps_73 rfl ?_
            refine g_calli [.int (iI 0)] ⟨hex, hbc, hml, hown, hts⟩ (mX4_told l G cx a u_54 0 (by omega) (XQ_I hq hI)) (cwV 1 hts gL_areSteps_X4_told rfl rfl rfl (by decide +kernel) ⟨Nat.le_of_ble_eq_true rfl, Nat.le_of_ble_eq_true rfl⟩) hK hP hD hS (fun _ h => h) 0 4 rfl rfl rfl rfl hl.1 (Nat.le_of_ble_eq_true rfl) dL_areSteps_74 ⟨Nat.zero_le _, Nat.zero_le _⟩ (fun r_74 u_74 H locs hw_74 hP hD hS hz_74 hk_74 => ?_)
            obtain ⟨⟨v_74, hr_74, hv_74⟩, hn_74⟩ := hw_74
            have hv_74 : TD_ (σ 0) (u_54 12 1) (0 : Int) v_74 := Eq.mp (congrArg (fun w => TD_ w (u_54 12 1) (0 : Int) v_74) hq.1) hv_74
            have ev_74 : v_74 = (σ 0 0) := TD0 hv_74
            rw [ev_74] at hr_74
            subst hr_74
            have hq := XQ_tr hq hn_74
            refine zt_i2l (a := (σ 0 0)) hex hbc (by omega) dL_areSteps_77 ?_
            refine zt_lmul hex hbc dL_areSteps_78 ?_
            refine lv_aload_n hex hbc dL_areSteps_79 rfl (lv_at hl 3 rfl) ?_
            refine lv_iload hex hbc dL_areSteps_80 (lv_at hl 2 rfl) ?_
            refine lv_iconst (v := iI 0) hex hbc dL_areSteps_82 rfl ?_
            refine g_calli [.int (iI k1), .int (iI 0)] ⟨hex, hbc, hml, hown, hts⟩ (mX4_slice l G cx a u_74 k1 0 (by omega) (by omega) (XQ_I hq hI)) (cwV 2 hts gL_areSteps_X4_slice rfl rfl rfl (by decide +kernel) ⟨Nat.le_of_ble_eq_true rfl, Nat.le_of_ble_eq_true rfl⟩) hK hP hD hS (fun _ h => h) 0 4 rfl rfl rfl rfl hl.1 (Nat.le_of_ble_eq_true rfl) dL_areSteps_83 ⟨Nat.zero_le _, Nat.zero_le _⟩ (fun r_83 u_83 H locs hw_83 hP hD hS hz_83 hk_83 => ?_)
            obtain ⟨⟨v_83, hr_83, hv_83⟩, hn_83⟩ := hw_83
            have hv_83 : SL_ (σ 0) k1 (0 : Int) v_83 := Eq.mp (congrArg (fun w => SL_ w k1 (0 : Int) v_83) hq.1) hv_83
            have ev_83 : v_83 = (fr (σ 0) k1) := SL0 hv_83 ⟨hk0, c47⟩
            rw [ev_83] at hr_83
            subst hr_83
            have hq := XQ_tr hq hn_83
            refine zt_i2l (a := (fr (σ 0) k1)) hex hbc (by omega) dL_areSteps_86 ?_
            refine lv_iload_n hex hbc dL_areSteps_87 rfl (lv_at hl 5 rfl) ?_
            refine zt_i2l (a := (σ 0 6)) hex hbc (by omega) dL_areSteps_88 ?_
            refine zt_lmul hex hbc dL_areSteps_89 ?_
            refine zt_lsub hex hbc dL_areSteps_90 ?_
            refine lv_lstore (lv' := [(10, .long (lI (((po (σ 0 6) (σ 0 7) (stp (σ 0) (σ 0 6) (σ 0 7) k1)) * (σ 0 0)) - ((fr (σ 0) k1) * (σ 0 6))))), (8, .long (lI (po (σ 0 6) (σ 0 7) (stp (σ 0) (σ 0 6) (σ 0 7) k1)))), (7, .int (iI (stp (σ 0) (σ 0 6) (σ 0 7) k1))), (6, .int (iI k1)), (0, .ref (a 0)), (1, .int (iI (σ 0 7))), (2, .int (iI (σ 0 6))), (3, .int (iI (stb (σ 0) (σ 0 6) (σ 0 7) k1))), (4, .long (lI (sumN (ofs (σ 0) (σ 0 6) (σ 0 7)) k1.toNat)))]) hex hbc dL_areSteps_91 hl (by decide) rfl (fun ls hl => ?_)
            have cut_110 : ∀ (ω110 : Nat → Int → Int), XQ_ σ ω110 → ∀ (H : Heap) (locs : List Loc) (ls : Array Slot), va_P G vwCl (wx cx a ω110) H → va_D (XA a) (wx cx a ω110) → va_S (XA a) s.heap H locs → lv_has ls 12 [(7, .int (iI (stp (σ 0) (σ 0 6) (σ 0 7) k1))), (6, .int (iI k1)), (0, .ref (a 0)), (1, .int (iI (σ 0 7))), (2, .int (iI (σ 0 6))), (3, .int (iI (stb (σ 0) (σ 0 6) (σ 0 7) k1)))] → W p l e (headSpec wsL_areSteps ({ frames := 7, cells := 0, slots := 0, locals := 172 })).room s m ([.ref (a 0)] : List Value).toArray below meth c H locs 0 0 (MQ below (va_Qi (fun r u => iI 1 = r ∧ XQ_ σ u) (gW G (tx cx) (XA a) (wx cx a)) (XA a)) ([.ref (a 0)] : List Value).toArray s 0 0 (XA a)) (F0 m 110 ls [.long (lI (ofs (σ 0) (σ 0 6) (σ 0 7) k1)), .long (lI (sumN (ofs (σ 0) (σ 0 6) (σ 0 7)) k1.toNat))]) := by
              intro ω110 hq H locs ls hP hD hS hl
              refine zt_ladd hex hbc dL_areSteps_110 ?_
              refine zt_nml (a := ((sumN (ofs (σ 0) (σ 0 6) (σ 0 7)) k1.toNat) + (ofs (σ 0) (σ 0 6) (σ 0 7) k1))) (b := (sumN (ofs (σ 0) (σ 0 6) (σ 0 7)) (k1 + 1).toNat)) (sumN_at hk0).symm ?_
              refine lv_lstore (lv' := [(4, .long (lI (sumN (ofs (σ 0) (σ 0 6) (σ 0 7)) (k1 + 1).toNat))), (7, .int (iI (stp (σ 0) (σ 0 6) (σ 0 7) k1))), (6, .int (iI k1)), (0, .ref (a 0)), (1, .int (iI (σ 0 7))), (2, .int (iI (σ 0 6))), (3, .int (iI (stb (σ 0) (σ 0 6) (σ 0 7) k1)))]) hex hbc dL_areSteps_111 hl (by decide) rfl (fun ls hl => ?_)
              refine lv_iload hex hbc dL_areSteps_113 (lv_at hl 1 rfl) ?_
              refine lv_iload_n hex hbc dL_areSteps_115 rfl (lv_at hl 6 rfl) ?_
              refine zt_icmp_le (a := (stp (σ 0) (σ 0 6) (σ 0 7) k1)) (b := (stb (σ 0) (σ 0 6) (σ 0 7) k1)) (tgt := 135) hex hbc (by omega) dL_areSteps_116 (by decide) (fun c116 => ?_) (fun c116 => ?_)
              · skip
                exfalso; omega
              · skip
                refine lv_iload hex hbc dL_areSteps_119 (lv_at hl 1 rfl) ?_
                refine lv_iload_n hex hbc dL_areSteps_121 rfl (lv_at hl 4 rfl) ?_
                refine zt_icmp_ge (a := (stp (σ 0) (σ 0 6) (σ 0 7) k1)) (b := (σ 0 7)) (tgt := 135) hex hbc (by omega) dL_areSteps_122 (by decide) (fun c122 => ?_) (fun c122 => ?_)
                · skip
                  exfalso; omega
                · skip
                  refine lv_iload hex hbc dL_areSteps_125 (lv_at hl 2 rfl) ?_
                  refine zt_if_ne (a := k1) (tgt := 137) hex hbc (by omega) dL_areSteps_127 (by decide) (fun c127 => ?_) (fun c127 => ?_)
                  · skip
                    refine lv_iload hex hbc dL_areSteps_137 (lv_at hl 1 rfl) ?_
                    refine zt_nm (a := (stp (σ 0) (σ 0 6) (σ 0 7) k1)) (b := (stb (σ 0) (σ 0 6) (σ 0 7) (k1 + 1))) (stb_1 hk0).symm ?_
                    refine lv_istore_n (lv' := [(3, .int (iI (stb (σ 0) (σ 0 6) (σ 0 7) (k1 + 1)))), (4, .long (lI (sumN (ofs (σ 0) (σ 0 6) (σ 0 7)) (k1 + 1).toNat))), (7, .int (iI (stp (σ 0) (σ 0 6) (σ 0 7) k1))), (6, .int (iI k1)), (0, .ref (a 0)), (1, .int (iI (σ 0 7))), (2, .int (iI (σ 0 6)))]) hex hbc dL_areSteps_139 rfl hl (by decide) rfl (fun ls hl => ?_)
                    refine lv_iinc (v := iI (k1 + 1)) (lv' := [(6, .int (iI (k1 + 1))), (3, .int (iI (stb (σ 0) (σ 0 6) (σ 0 7) (k1 + 1)))), (4, .long (lI (sumN (ofs (σ 0) (σ 0 6) (σ 0 7)) (k1 + 1).toNat))), (7, .int (iI (stp (σ 0) (σ 0 6) (σ 0 7) k1))), (0, .ref (a 0)), (1, .int (iI (σ 0 7))), (2, .int (iI (σ 0 6)))]) hex hbc dL_areSteps_140 hl (k := 3) rfl (iI_add _ _) (by decide) rfl (fun ls hl => ?_)
                    refine lv_goto (tgt := 40) hex hbc dL_areSteps_143 (by decide) ?_
                    exact ih_40 (k1 + 1) ω110 ⟨by omega, by omega⟩ (by omega) hq _ _ _ hP hD hS (lv_sub hl [0, 4, 5, 6, 1, 2] rfl)
                  · skip
                    refine lv_iload hex hbc dL_areSteps_130 (lv_at hl 1 rfl) ?_
                    refine zt_if_eq (a := (stp (σ 0) (σ 0 6) (σ 0 7) k1)) (tgt := 137) hex hbc (by omega) dL_areSteps_132 (by decide) (fun c132 => ?_) (fun c132 => ?_)
                    · skip
                      refine lv_iload hex hbc dL_areSteps_137 (lv_at hl 1 rfl) ?_
                      refine zt_nm (a := (stp (σ 0) (σ 0 6) (σ 0 7) k1)) (b := (stb (σ 0) (σ 0 6) (σ 0 7) (k1 + 1))) (stb_1 hk0).symm ?_
                      refine lv_istore_n (lv' := [(3, .int (iI (stb (σ 0) (σ 0 6) (σ 0 7) (k1 + 1)))), (4, .long (lI (sumN (ofs (σ 0) (σ 0 6) (σ 0 7)) (k1 + 1).toNat))), (7, .int (iI (stp (σ 0) (σ 0 6) (σ 0 7) k1))), (6, .int (iI k1)), (0, .ref (a 0)), (1, .int (iI (σ 0 7))), (2, .int (iI (σ 0 6)))]) hex hbc dL_areSteps_139 rfl hl (by decide) rfl (fun ls hl => ?_)
                      refine lv_iinc (v := iI (k1 + 1)) (lv' := [(6, .int (iI (k1 + 1))), (3, .int (iI (stb (σ 0) (σ 0 6) (σ 0 7) (k1 + 1)))), (4, .long (lI (sumN (ofs (σ 0) (σ 0 6) (σ 0 7)) (k1 + 1).toNat))), (7, .int (iI (stp (σ 0) (σ 0 6) (σ 0 7) k1))), (0, .ref (a 0)), (1, .int (iI (σ 0 7))), (2, .int (iI (σ 0 6)))]) hex hbc dL_areSteps_140 hl (k := 3) rfl (iI_add _ _) (by decide) rfl (fun ls hl => ?_)
                      refine lv_goto (tgt := 40) hex hbc dL_areSteps_143 (by decide) ?_
                      exact ih_40 (k1 + 1) ω110 ⟨by omega, by omega⟩ (by omega) hq _ _ _ hP hD hS (lv_sub hl [0, 4, 5, 6, 1, 2] rfl)
                    · skip
                      exact absurd (by rw [c127]; exact stp_0 _ _ (by omega)) c132
            refine lv_lload hex hbc dL_areSteps_93 (lv_at hl 8 rfl) ?_
            refine lv_lload hex hbc dL_areSteps_95 (lv_at hl 0 rfl) ?_
            refine lv_lconst (v := lI 0) hex hbc dL_areSteps_97 rfl ?_
            refine zt_lcmp (a := (((po (σ 0 6) (σ 0 7) (stp (σ 0) (σ 0 6) (σ 0 7) k1)) * (σ 0 0)) - ((fr (σ 0) k1) * (σ 0 6)))) (b := 0) hex hbc (by omega) dL_areSteps_98 (fun dc98 hdc98 => ?_)
            refine zt_if_ge (a := dc98) (tgt := 108) hex hbc (by omega) dL_areSteps_99 (by decide) (fun c99 => ?_) (fun c99 => ?_)
            · skip
              refine lv_lload hex hbc dL_areSteps_108 (lv_at hl 0 rfl) ?_
              refine zt_nml (a := (((po (σ 0 6) (σ 0 7) (stp (σ 0) (σ 0 6) (σ 0 7) k1)) * (σ 0 0)) - ((fr (σ 0) k1) * (σ 0 6)))) (b := (ofs (σ 0) (σ 0 6) (σ 0 7) k1)) (by show _ = of_ (σ 0) (σ 0 6) (σ 0 7) k1 (stp (σ 0) (σ 0 6) (σ 0 7) k1); unfold of_ abI; split <;> omega) ?_
              exact cut_110 _ hq _ _ _ hP hD hS (lv_sub hl [2, 3, 4, 5, 6, 7] rfl)
            · skip
              refine lv_lload hex hbc dL_areSteps_102 (lv_at hl 0 rfl) ?_
              refine zt_lneg hex hbc dL_areSteps_104 ?_
              refine lv_goto (tgt := 110) hex hbc dL_areSteps_105 (by decide) ?_
              refine zt_nml (a := (-(((po (σ 0 6) (σ 0 7) (stp (σ 0) (σ 0 6) (σ 0 7) k1)) * (σ 0 0)) - ((fr (σ 0) k1) * (σ 0 6))))) (b := (ofs (σ 0) (σ 0 6) (σ 0 7) k1)) (by show _ = of_ (σ 0) (σ 0 6) (σ 0 7) k1 (stp (σ 0) (σ 0 6) (σ 0 7) k1); unfold of_ abI; split <;> omega) ?_
              exact cut_110 _ hq _ _ _ hP hD hS (lv_sub hl [2, 3, 4, 5, 6, 7] rfl)
      exact loop_40 _ 0 u_28 ⟨by omega, by omega⟩ (mz_lt _) hq _ _ _ hP hD hS (lv_sub hl [0, 5, 4, 3, 2, 1] rfl)
    · skip
      refine lv_iconst (v := iI 1) hex hbc dL_areSteps_17 rfl ?_
      exact g_zret hex hbc hrt hlocks rfl hK hP hD hS ⟨rfl, hq⟩ dL_areSteps_18
