/-! the law: areSlices (rows laid by wip/gen27) -/
set_option maxHeartbeats 4000000 in
set_option maxRecDepth 100000 in
theorem mL_areSlices (l : Launch) (G : va_G) (cx a : Nat → Nat) (σ : Nat → Int → Int)   (hI : Inv (σ 0)) : Met l yL_areSlices wsL_areSlices ({ frames := 7, cells := 0, slots := 0, locals := 172 }) (va_Pc [.ref (a 0)] (gW G (tx cx) (XA a) (wx cx a) σ)) (va_Qi (fun r u => iI 1 = r ∧ XQ_ σ u) (gW G (tx cx) (XA a) (wx cx a)) (XA a)) 0 0 (XA a) := by
  refine Met.ofW (cc := cL_areSlices) (maxL := 10) (ret := some .boolean) (by decide) rfl ?_
  intro p e s m args below meth c s₁ B hml hv
  obtain ⟨rfl, hP, hK, hD⟩ := hv
  have hex := B.exec
  have hbc := B.bytes
  have hrt := B.returns
  have hts := atoms_spec (ws := wsL_areSlices) B.pre
  have hown : s.vm.findClass RL = some m.cls := findClass_of_methodNamed B.named
  have hlocks := B.notSynchronized
  have hq : XQ_ σ σ := XQ_rf
  have hS : va_S (XA a) s.heap s.heap [] := va_S.rf
  have hl := lv_entry ([.ref (a 0)]) (n := 10) (Nat.le_of_ble_eq_true rfl)
  rw [lg_entry_eq]
  generalize (lg_sl ([.ref (a 0)]) ++ List.replicate (10 - (lg_sl ([.ref (a 0)])).length) Slot.unset).toArray = ls at hl ⊢
  have hl : lv_has ls 10 [(0, .ref (a 0))] := hl
  obtain ⟨hB, hEn, hMk, hAs, hPm⟩ := id hI
  have h75 : σ 0 75 = 0 := hB.2.2.2.2.2.2.2.2.2.2.2
  have hf0 : fr (σ 0) 0 = 0 := (fr_lt (by omega)).trans h75
  have hp2 := p2I_in (k := σ 0 74) (by omega)
  have hwh := hI.wh_in
  refine lv_aload_n hex hbc dL_areSlices_0 rfl (lv_at hl 0 rfl) ?_
  refine lv_iconst (v := iI 2) hex hbc dL_areSlices_1 rfl ?_
  refine g_calli [.int (iI 2)] ⟨hex, hbc, hml, hown, hts⟩ (mX4_told l G cx a σ 2 (by omega) (XQ_I hq hI)) (cwV 1 hts gL_areSlices_X4_told rfl rfl rfl (by decide +kernel) ⟨Nat.le_of_ble_eq_true rfl, Nat.le_of_ble_eq_true rfl⟩) hK hP hD hS (fun _ h => h) 0 4 rfl rfl rfl rfl hl.1 (Nat.le_of_ble_eq_true rfl) dL_areSlices_2 ⟨Nat.zero_le _, Nat.zero_le _⟩ (fun r_2 u_2 H locs hw_2 hP hD hS hz_2 hk_2 => ?_)
  obtain ⟨⟨v_2, hr_2, hv_2⟩, hn_2⟩ := hw_2
  have hv_2 : TD_ (σ 0) (σ 12 1) (2 : Int) v_2 := Eq.mp (congrArg (fun w => TD_ w (σ 12 1) (2 : Int) v_2) hq.1) hv_2
  have ev_2 : v_2 = (σ 0 74) := TD2 hv_2
  rw [ev_2] at hr_2
  subst hr_2
  have hq := XQ_tr hq hn_2
  refine lv_istore_n (lv' := [(1, .int (iI (σ 0 74))), (0, .ref (a 0))]) hex hbc dL_areSlices_5 rfl hl (by decide) rfl (fun ls hl => ?_)
  refine lv_iconst (v := iI 0) hex hbc dL_areSlices_6 rfl ?_
  refine lv_istore_n (lv' := [(2, .int (iI 0)), (1, .int (iI (σ 0 74))), (0, .ref (a 0))]) hex hbc dL_areSlices_7 rfl hl (by decide) rfl (fun ls hl => ?_)
  refine lv_iconst (v := iI 0) hex hbc dL_areSlices_8 rfl ?_
  refine lv_istore_n (lv' := [(3, .int (iI 0)), (2, .int (iI 0)), (1, .int (iI (σ 0 74))), (0, .ref (a 0))]) hex hbc dL_areSlices_9 rfl hl (by decide) rfl (fun ls hl => ?_)
  refine lv_iconst (v := iI 0) hex hbc dL_areSlices_10 rfl ?_
  refine lv_istore (lv' := [(4, .int (iI 0)), (3, .int (iI 0)), (2, .int (iI 0)), (1, .int (iI (σ 0 74))), (0, .ref (a 0))]) hex hbc dL_areSlices_11 hl (by decide) rfl (fun ls hl => ?_)
  have loop_13 : ∀ (N : Nat) (k1 : Int) (ω13 : Nat → Int → Int), (0 ≤ k1 ∧ k1 ≤ σ 0 74) → (16 - k1) < (N : Int) → XQ_ σ ω13 → ∀ (H : Heap) (locs : List Loc) (ls : Array Slot), va_P G vwCl (wx cx a ω13) H → va_D (XA a) (wx cx a ω13) → va_S (XA a) s.heap H locs → lv_has ls 10 [(4, .int (iI k1)), (0, .ref (a 0)), (1, .int (iI (σ 0 74))), (2, .int (iI (sumN (ln (σ 0)) k1.toNat))), (3, .int (iI (bsI (σ 0) k1)))] → W p l e (headSpec wsL_areSlices ({ frames := 7, cells := 0, slots := 0, locals := 172 })).room s m ([.ref (a 0)] : List Value).toArray below meth c H locs 0 0 (MQ below (va_Qi (fun r u => iI 1 = r ∧ XQ_ σ u) (gW G (tx cx) (XA a) (wx cx a)) (XA a)) ([.ref (a 0)] : List Value).toArray s 0 0 (XA a)) (F0 m 13 ls []) := by
    intro N
    induction N with
    | zero => intro k1 ω13 hinv hlt; exfalso; omega
    | succ N ih_13 =>
      intro k1 ω13 ⟨hk0, hk1⟩ hlt_13 hq H locs ls hP hD hS hl
      refine lv_iload hex hbc dL_areSlices_13 (lv_at hl 0 rfl) ?_
      refine lv_iload_n hex hbc dL_areSlices_15 rfl (lv_at hl 2 rfl) ?_
      refine zt_icmp_ge (a := k1) (b := (σ 0 74)) (tgt := 233) hex hbc (by omega) dL_areSlices_16 (by decide) (fun c16 => ?_) (fun c16 => ?_)
      · skip
        refine lv_aload_n hex hbc dL_areSlices_233 rfl (lv_at hl 1 rfl) ?_
        refine lv_iconst (v := iI 0) hex hbc dL_areSlices_234 rfl ?_
        refine lv_iconst (v := iI 0) hex hbc dL_areSlices_235 rfl ?_
        refine g_calli [.int (iI 0), .int (iI 0)] ⟨hex, hbc, hml, hown, hts⟩ (mX4_slice l G cx a ω13 0 0 (by omega) (by omega) (XQ_I hq hI)) (cwV 2 hts gL_areSlices_X4_slice rfl rfl rfl (by decide +kernel) ⟨Nat.le_of_ble_eq_true rfl, Nat.le_of_ble_eq_true rfl⟩) hK hP hD hS (fun _ h => h) 0 4 rfl rfl rfl rfl hl.1 (Nat.le_of_ble_eq_true rfl) dL_areSlices_236 ⟨Nat.zero_le _, Nat.zero_le _⟩ (fun r_236 u_236 H locs hw_236 hP hD hS hz_236 hk_236 => ?_)
        obtain ⟨⟨v_236, hr_236, hv_236⟩, hn_236⟩ := hw_236
        have hv_236 : SL_ (σ 0) (0 : Int) (0 : Int) v_236 := Eq.mp (congrArg (fun w => SL_ w (0 : Int) (0 : Int) v_236) hq.1) hv_236
        have ev_236 : v_236 = 0 := (SL0 hv_236 (by omega)).trans hf0
        rw [ev_236] at hr_236
        subst hr_236
        have hq := XQ_tr hq hn_236
        refine zt_if_ne (a := 0) (tgt := 289) hex hbc (by decide) dL_areSlices_239 (by decide) (fun h => absurd h (by decide)) (fun _ => ?_)
        refine lv_iload_n hex hbc dL_areSlices_242 rfl (lv_at hl 3 rfl) ?_
        refine zt_nm (a := (sumN (ln (σ 0)) k1.toNat)) (b := ((σ 0 0) * (σ 0 1))) (by rw [show k1 = σ 0 74 by omega]; exact sum_ln hI) ?_
        refine lv_aload_n hex hbc dL_areSlices_243 rfl (lv_at hl 1 rfl) ?_
        refine lv_iconst (v := iI 1) hex hbc dL_areSlices_244 rfl ?_
        refine g_calli [.int (iI 1)] ⟨hex, hbc, hml, hown, hts⟩ (mX4_told l G cx a u_236 1 (by omega) (XQ_I hq hI)) (cwV 1 hts gL_areSlices_X4_told rfl rfl rfl (by decide +kernel) ⟨Nat.le_of_ble_eq_true rfl, Nat.le_of_ble_eq_true rfl⟩) hK hP hD hS (fun _ h => h) 0 4 rfl rfl rfl rfl hl.1 (Nat.le_of_ble_eq_true rfl) dL_areSlices_245 ⟨Nat.zero_le _, Nat.zero_le _⟩ (fun r_245 u_245 H locs hw_245 hP hD hS hz_245 hk_245 => ?_)
        obtain ⟨⟨v_245, hr_245, hv_245⟩, hn_245⟩ := hw_245
        have hv_245 : TD_ (σ 0) (u_236 12 1) (1 : Int) v_245 := Eq.mp (congrArg (fun w => TD_ w (u_236 12 1) (1 : Int) v_245) hq.1) hv_245
        have ev_245 : v_245 = ((σ 0 0) * (σ 0 1)) := TD1 hv_245
        rw [ev_245] at hr_245
        subst hr_245
        have hq := XQ_tr hq hn_245
        refine lv_icmp_ne (tgt := 289) hex hbc dL_areSlices_248 (by decide) (fun h => absurd rfl h) (fun _ => ?_)
        refine lv_iload_n hex hbc dL_areSlices_251 rfl (lv_at hl 4 rfl) ?_
        refine zt_nm (a := (bsI (σ 0) k1)) (b := (p2I (σ 0 74) - 1)) (by rw [show k1 = σ 0 74 by omega]; exact bs_all hI) ?_
        refine lv_iconst (v := iI 1) hex hbc dL_areSlices_252 rfl ?_
        refine lv_iload_n hex hbc dL_areSlices_253 rfl (lv_at hl 2 rfl) ?_
        refine lv_ishl hex hbc dL_areSlices_254 ?_
        refine zt_raw (b := (p2I (σ 0 74))) (shl_iI (by omega)) ?_
        refine lv_iconst (v := iI 1) hex hbc dL_areSlices_255 rfl ?_
        refine zt_isub hex hbc dL_areSlices_256 ?_
        refine zt_icmp_ne (a := (p2I (σ 0 74) - 1)) (b := ((p2I (σ 0 74)) - 1)) (tgt := 289) hex hbc (by omega) dL_areSlices_257 (by decide) (fun c257 => ?_) (fun c257 => ?_)
        · skip
          exfalso; omega
        · skip
          refine lv_iload_n hex hbc dL_areSlices_260 rfl (lv_at hl 2 rfl) ?_
          refine lv_bipush (v := iI 16) hex hbc dL_areSlices_261 (by decide) ?_
          refine zt_icmp_gt (a := (σ 0 74)) (b := 16) (tgt := 289) hex hbc (by omega) dL_areSlices_263 (by decide) (fun c263 => ?_) (fun c263 => ?_)
          · skip
            exfalso; omega
          · skip
            refine lv_aload_n hex hbc dL_areSlices_266 rfl (lv_at hl 1 rfl) ?_
            refine lv_iload_n hex hbc dL_areSlices_267 rfl (lv_at hl 2 rfl) ?_
            refine lv_iconst (v := iI 0) hex hbc dL_areSlices_268 rfl ?_
            refine g_calli [.int (iI (σ 0 74)), .int (iI 0)] ⟨hex, hbc, hml, hown, hts⟩ (mX4_slice l G cx a u_245 (σ 0 74) 0 (by omega) (by omega) (XQ_I hq hI)) (cwV 2 hts gL_areSlices_X4_slice rfl rfl rfl (by decide +kernel) ⟨Nat.le_of_ble_eq_true rfl, Nat.le_of_ble_eq_true rfl⟩) hK hP hD hS (fun _ h => h) 0 4 rfl rfl rfl rfl hl.1 (Nat.le_of_ble_eq_true rfl) dL_areSlices_269 ⟨Nat.zero_le _, Nat.zero_le _⟩ (fun r_269 u_269 H locs hw_269 hP hD hS hz_269 hk_269 => ?_)
            obtain ⟨⟨v_269, hr_269, hv_269⟩, hn_269⟩ := hw_269
            have hv_269 : SL_ (σ 0) (σ 0 74) (0 : Int) v_269 := Eq.mp (congrArg (fun w => SL_ w (σ 0 74) (0 : Int) v_269) hq.1) hv_269
            have ev_269 : v_269 = (-1) := SLb hv_269 (by omega)
            rw [ev_269] at hr_269
            subst hr_269
            have hq := XQ_tr hq hn_269
            refine lv_iconst (v := iI (-1)) hex hbc dL_areSlices_272 rfl ?_
            refine zt_icmp_ne (a := (-1)) (b := (-1)) (tgt := 289) hex hbc (by decide) dL_areSlices_273 (by decide) (fun h => absurd h (by decide)) (fun _ => ?_)
            refine lv_aload_n hex hbc dL_areSlices_276 rfl (lv_at hl 1 rfl) ?_
            refine lv_iload_n hex hbc dL_areSlices_277 rfl (lv_at hl 2 rfl) ?_
            refine g_calli [.int (iI (σ 0 74))] ⟨hex, hbc, hml, hown, hts⟩ (mX4_order l G cx a u_269 (σ 0 74) (by omega) (XQ_I hq hI)) (cwV 1 hts gL_areSlices_X4_order rfl rfl rfl (by decide +kernel) ⟨Nat.le_of_ble_eq_true rfl, Nat.le_of_ble_eq_true rfl⟩) hK hP hD hS (fun _ h => h) 0 4 rfl rfl rfl rfl hl.1 (Nat.le_of_ble_eq_true rfl) dL_areSlices_278 ⟨Nat.zero_le _, Nat.zero_le _⟩ (fun r_278 u_278 H locs hw_278 hP hD hS hz_278 hk_278 => ?_)
            obtain ⟨hr_278, hs_278, hn_278⟩ := hw_278
            have hs_278 : iI (-1) = r_278 := Eq.mp (congrArg (fun w => ¬ (0 ≤ (σ 0 74) ∧ (σ 0 74) < w 74) → iI (-1) = r_278) hq.1) hs_278 (by omega)
            subst hs_278
            have hq := XQ_tr hq hn_278
            refine lv_iconst (v := iI (-1)) hex hbc dL_areSlices_281 rfl ?_
            refine zt_icmp_ne (a := (-1)) (b := (-1)) (tgt := 289) hex hbc (by decide) dL_areSlices_282 (by decide) (fun h => absurd h (by decide)) (fun _ => ?_)
            refine lv_iconst (v := iI 1) hex hbc dL_areSlices_285 rfl ?_
            refine lv_goto (tgt := 290) hex hbc dL_areSlices_286 (by decide) ?_
            exact g_zret hex hbc hrt hlocks rfl hK hP hD hS ⟨rfl, hq⟩ dL_areSlices_290
      · skip
        have hln := hI.ln_in hk0 c16
        have hup := hI.fr_up hk0 c16
        have hfa := hI.fr_in hk0
        have hfb := hI.fr_in (k := k1 + 1) (by omega)
        have hod := hI.at_ord ⟨hk0, c16⟩
        have hpl := hI.ord_plc ⟨hk0, c16⟩
        have hld := ldn_in (σ 0) (fr (σ 0) k1) (fr (σ 0) (k1 + 1) - fr (σ 0) k1 - 1).toNat
        have hmx := ldn_max (σ 0) (fr (σ 0) k1) (fr (σ 0) (k1 + 1) - fr (σ 0) k1 - 1).toNat
        obtain ⟨ld, eld⟩ : ∃ z, z = (ldn (σ 0) (fr (σ 0) k1) (fr (σ 0) (k1 + 1) - fr (σ 0) k1 - 1).toNat) := ⟨_, rfl⟩
        rw [← eld] at hld hmx
        refine lv_aload_n hex hbc dL_areSlices_19 rfl (lv_at hl 1 rfl) ?_
        refine lv_iload hex hbc dL_areSlices_20 (lv_at hl 0 rfl) ?_
        refine lv_iconst (v := iI 0) hex hbc dL_areSlices_22 rfl ?_
        refine g_calli [.int (iI k1), .int (iI 0)] ⟨hex, hbc, hml, hown, hts⟩ (mX4_slice l G cx a ω13 k1 0 (by omega) (by omega) (XQ_I hq hI)) (cwV 2 hts gL_areSlices_X4_slice rfl rfl rfl (by decide +kernel) ⟨Nat.le_of_ble_eq_true rfl, Nat.le_of_ble_eq_true rfl⟩) hK hP hD hS (fun _ h => h) 0 4 rfl rfl rfl rfl hl.1 (Nat.le_of_ble_eq_true rfl) dL_areSlices_23 ⟨Nat.zero_le _, Nat.zero_le _⟩ (fun r_23 u_23 H locs hw_23 hP hD hS hz_23 hk_23 => ?_)
        obtain ⟨⟨v_23, hr_23, hv_23⟩, hn_23⟩ := hw_23
        have hv_23 : SL_ (σ 0) k1 (0 : Int) v_23 := Eq.mp (congrArg (fun w => SL_ w k1 (0 : Int) v_23) hq.1) hv_23
        have ev_23 : v_23 = (fr (σ 0) k1) := SL0 hv_23 ⟨hk0, c16⟩
        rw [ev_23] at hr_23
        subst hr_23
        have hq := XQ_tr hq hn_23
        refine lv_istore (lv' := [(5, .int (iI (fr (σ 0) k1))), (4, .int (iI k1)), (0, .ref (a 0)), (1, .int (iI (σ 0 74))), (2, .int (iI (sumN (ln (σ 0)) k1.toNat))), (3, .int (iI (bsI (σ 0) k1)))]) hex hbc dL_areSlices_26 hl (by decide) rfl (fun ls hl => ?_)
        have cut_53 : ∀ (ω53 : Nat → Int → Int), XQ_ σ ω53 → ∀ (H : Heap) (locs : List Loc) (ls : Array Slot), va_P G vwCl (wx cx a ω53) H → va_D (XA a) (wx cx a ω53) → va_S (XA a) s.heap H locs → lv_has ls 10 [(5, .int (iI (fr (σ 0) k1))), (4, .int (iI k1)), (0, .ref (a 0)), (1, .int (iI (σ 0 74))), (2, .int (iI (sumN (ln (σ 0)) k1.toNat))), (3, .int (iI (bsI (σ 0) k1)))] → W p l e (headSpec wsL_areSlices ({ frames := 7, cells := 0, slots := 0, locals := 172 })).room s m ([.ref (a 0)] : List Value).toArray below meth c H locs 0 0 (MQ below (va_Qi (fun r u => iI 1 = r ∧ XQ_ σ u) (gW G (tx cx) (XA a) (wx cx a)) (XA a)) ([.ref (a 0)] : List Value).toArray s 0 0 (XA a)) (F0 m 53 ls [.int (iI (fr (σ 0) (k1 + 1)))]) := by
          intro ω53 hq H locs ls hP hD hS hl
          refine lv_istore (lv' := [(6, .int (iI (fr (σ 0) (k1 + 1)))), (5, .int (iI (fr (σ 0) k1))), (4, .int (iI k1)), (0, .ref (a 0)), (1, .int (iI (σ 0 74))), (2, .int (iI (sumN (ln (σ 0)) k1.toNat))), (3, .int (iI (bsI (σ 0) k1)))]) hex hbc dL_areSlices_53 hl (by decide) rfl (fun ls hl => ?_)
          refine lv_iload_n hex hbc dL_areSlices_55 rfl (lv_at hl 5 rfl) ?_
          refine lv_aload_n hex hbc dL_areSlices_56 rfl (lv_at hl 3 rfl) ?_
          refine lv_iload hex hbc dL_areSlices_57 (lv_at hl 2 rfl) ?_
          refine lv_iconst (v := iI 1) hex hbc dL_areSlices_59 rfl ?_
          refine g_calli [.int (iI k1), .int (iI 1)] ⟨hex, hbc, hml, hown, hts⟩ (mX4_slice l G cx a ω53 k1 1 (by omega) (by omega) (XQ_I hq hI)) (cwV 2 hts gL_areSlices_X4_slice rfl rfl rfl (by decide +kernel) ⟨Nat.le_of_ble_eq_true rfl, Nat.le_of_ble_eq_true rfl⟩) hK hP hD hS (fun _ h => h) 0 4 rfl rfl rfl rfl hl.1 (Nat.le_of_ble_eq_true rfl) dL_areSlices_60 ⟨Nat.zero_le _, Nat.zero_le _⟩ (fun r_60 u_60 H locs hw_60 hP hD hS hz_60 hk_60 => ?_)
          obtain ⟨⟨v_60, hr_60, hv_60⟩, hn_60⟩ := hw_60
          have hv_60 : SL_ (σ 0) k1 (1 : Int) v_60 := Eq.mp (congrArg (fun w => SL_ w k1 (1 : Int) v_60) hq.1) hv_60
          have ev_60 : v_60 = (ln (σ 0) k1) := SL1 hv_60 ⟨hk0, c16⟩
          rw [ev_60] at hr_60
          subst hr_60
          have hq := XQ_tr hq hn_60
          refine zt_iadd hex hbc dL_areSlices_63 ?_
          refine zt_nm (a := ((sumN (ln (σ 0)) k1.toNat) + (ln (σ 0) k1))) (b := (sumN (ln (σ 0)) (k1 + 1).toNat)) (sumN_at hk0).symm ?_
          refine lv_istore_n (lv' := [(2, .int (iI (sumN (ln (σ 0)) (k1 + 1).toNat))), (6, .int (iI (fr (σ 0) (k1 + 1)))), (5, .int (iI (fr (σ 0) k1))), (4, .int (iI k1)), (0, .ref (a 0)), (1, .int (iI (σ 0 74))), (3, .int (iI (bsI (σ 0) k1)))]) hex hbc dL_areSlices_64 rfl hl (by decide) rfl (fun ls hl => ?_)
          refine lv_iload_n hex hbc dL_areSlices_65 rfl (lv_at hl 6 rfl) ?_
          refine lv_iconst (v := iI 1) hex hbc dL_areSlices_66 rfl ?_
          refine lv_aload_n hex hbc dL_areSlices_67 rfl (lv_at hl 4 rfl) ?_
          refine lv_iload hex hbc dL_areSlices_68 (lv_at hl 3 rfl) ?_
          refine g_calli [.int (iI k1)] ⟨hex, hbc, hml, hown, hts⟩ (mX4_order l G cx a u_60 k1 (by omega) (XQ_I hq hI)) (cwV 1 hts gL_areSlices_X4_order rfl rfl rfl (by decide +kernel) ⟨Nat.le_of_ble_eq_true rfl, Nat.le_of_ble_eq_true rfl⟩) hK hP hD hS (fun _ h => h) 0 4 rfl rfl rfl rfl hl.1 (Nat.le_of_ble_eq_true rfl) dL_areSlices_70 ⟨Nat.zero_le _, Nat.zero_le _⟩ (fun r_70 u_70 H locs hw_70 hP hD hS hz_70 hk_70 => ?_)
          obtain ⟨hr_70, hs_70, hn_70⟩ := hw_70
          have hr_70 : iI ((σ 0) (91 + k1)) = r_70 := Eq.mp (congrArg (fun w => (0 ≤ k1 ∧ k1 < w 74) → iI (w (91 + k1)) = r_70) hq.1) hr_70 ⟨hk0, c16⟩
          subst hr_70
          refine zt_nm (a := (σ 0) (91 + k1)) (b := (σ 0 (91 + k1))) rfl ?_
          have hq := XQ_tr hq hn_70
          refine lv_ishl hex hbc dL_areSlices_73 ?_
          refine lv_ior hex hbc dL_areSlices_74 ?_
          refine zt_raw (b := (bsI (σ 0) (k1 + 1))) (bs_step hI ⟨hk0, c16⟩) ?_
          refine lv_istore_n (lv' := [(3, .int (iI (bsI (σ 0) (k1 + 1)))), (2, .int (iI (sumN (ln (σ 0)) (k1 + 1).toNat))), (6, .int (iI (fr (σ 0) (k1 + 1)))), (5, .int (iI (fr (σ 0) k1))), (4, .int (iI k1)), (0, .ref (a 0)), (1, .int (iI (σ 0 74)))]) hex hbc dL_areSlices_75 rfl hl (by decide) rfl (fun ls hl => ?_)
          refine lv_aload_n hex hbc dL_areSlices_76 rfl (lv_at hl 5 rfl) ?_
          refine lv_iload hex hbc dL_areSlices_77 (lv_at hl 4 rfl) ?_
          refine lv_bipush (v := iI 7) hex hbc dL_areSlices_79 (by decide) ?_
          refine g_calli [.int (iI k1), .int (iI 7)] ⟨hex, hbc, hml, hown, hts⟩ (mX4_slice l G cx a u_70 k1 7 (by omega) (by omega) (XQ_I hq hI)) (cwV 2 hts gL_areSlices_X4_slice rfl rfl rfl (by decide +kernel) ⟨Nat.le_of_ble_eq_true rfl, Nat.le_of_ble_eq_true rfl⟩) hK hP hD hS (fun _ h => h) 0 4 rfl rfl rfl rfl hl.1 (Nat.le_of_ble_eq_true rfl) dL_areSlices_81 ⟨Nat.zero_le _, Nat.zero_le _⟩ (fun r_81 u_81 H locs hw_81 hP hD hS hz_81 hk_81 => ?_)
          obtain ⟨⟨v_81, hr_81, hv_81⟩, hn_81⟩ := hw_81
          have hv_81 : SL_ (σ 0) k1 (7 : Int) v_81 := Eq.mp (congrArg (fun w => SL_ w k1 (7 : Int) v_81) hq.1) hv_81
          have ev_81 : v_81 = ld := (SL7 hv_81 ⟨hk0, c16⟩).trans eld.symm
          rw [ev_81] at hr_81
          subst hr_81
          have hq := XQ_tr hq hn_81
          refine lv_istore (lv' := [(7, .int (iI ld)), (3, .int (iI (bsI (σ 0) (k1 + 1)))), (2, .int (iI (sumN (ln (σ 0)) (k1 + 1).toNat))), (6, .int (iI (fr (σ 0) (k1 + 1)))), (5, .int (iI (fr (σ 0) k1))), (4, .int (iI k1)), (0, .ref (a 0)), (1, .int (iI (σ 0 74)))]) hex hbc dL_areSlices_84 hl (by decide) rfl (fun ls hl => ?_)
          refine lv_iload hex hbc dL_areSlices_86 (lv_at hl 3 rfl) ?_
          refine lv_iload hex hbc dL_areSlices_88 (lv_at hl 4 rfl) ?_
          refine zt_icmp_le (a := (fr (σ 0) (k1 + 1))) (b := (fr (σ 0) k1)) (tgt := 148) hex hbc (by omega) dL_areSlices_90 (by decide) (fun c90 => ?_) (fun c90 => ?_)
          · skip
            exfalso; omega
          · skip
            refine lv_aload_n hex hbc dL_areSlices_93 rfl (lv_at hl 6 rfl) ?_
            refine lv_iload hex hbc dL_areSlices_94 (lv_at hl 5 rfl) ?_
            refine lv_iconst (v := iI 1) hex hbc dL_areSlices_96 rfl ?_
            refine g_calli [.int (iI k1), .int (iI 1)] ⟨hex, hbc, hml, hown, hts⟩ (mX4_slice l G cx a u_81 k1 1 (by omega) (by omega) (XQ_I hq hI)) (cwV 2 hts gL_areSlices_X4_slice rfl rfl rfl (by decide +kernel) ⟨Nat.le_of_ble_eq_true rfl, Nat.le_of_ble_eq_true rfl⟩) hK hP hD hS (fun _ h => h) 0 4 rfl rfl rfl rfl hl.1 (Nat.le_of_ble_eq_true rfl) dL_areSlices_97 ⟨Nat.zero_le _, Nat.zero_le _⟩ (fun r_97 u_97 H locs hw_97 hP hD hS hz_97 hk_97 => ?_)
            obtain ⟨⟨v_97, hr_97, hv_97⟩, hn_97⟩ := hw_97
            have hv_97 : SL_ (σ 0) k1 (1 : Int) v_97 := Eq.mp (congrArg (fun w => SL_ w k1 (1 : Int) v_97) hq.1) hv_97
            have ev_97 : v_97 = (ln (σ 0) k1) := SL1 hv_97 ⟨hk0, c16⟩
            rw [ev_97] at hr_97
            subst hr_97
            have hq := XQ_tr hq hn_97
            refine lv_iload hex hbc dL_areSlices_100 (lv_at hl 3 rfl) ?_
            refine lv_iload hex hbc dL_areSlices_102 (lv_at hl 4 rfl) ?_
            refine zt_isub hex hbc dL_areSlices_104 ?_
            refine lv_aload_n hex hbc dL_areSlices_105 rfl (lv_at hl 6 rfl) ?_
            refine lv_iconst (v := iI 0) hex hbc dL_areSlices_106 rfl ?_
            refine g_calli [.int (iI 0)] ⟨hex, hbc, hml, hown, hts⟩ (mX4_setting l G cx a u_97 0 (by omega) (XQ_I hq hI)) (cwV 1 hts gL_areSlices_X4_setting rfl rfl rfl (by decide +kernel) ⟨Nat.le_of_ble_eq_true rfl, Nat.le_of_ble_eq_true rfl⟩) hK hP hD hS (fun _ h => h) 0 4 rfl rfl rfl rfl hl.1 (Nat.le_of_ble_eq_true rfl) dL_areSlices_107 ⟨Nat.zero_le _, Nat.zero_le _⟩ (fun r_107 u_107 H locs hw_107 hP hD hS hz_107 hk_107 => ?_)
            obtain ⟨hr_107, hs_107, hn_107⟩ := hw_107
            have hr_107 : iI ((σ 0) (1 + (0 : Int))) = r_107 := Eq.mp (congrArg (fun w => (0 ≤ (0 : Int) ∧ (0 : Int) ≤ 8) → iI (w (1 + (0 : Int))) = r_107) hq.1) hr_107 (by omega)
            subst hr_107
            refine zt_nm (a := (σ 0) (1 + (0 : Int))) (b := (σ 0 1)) rfl ?_
            have hq := XQ_tr hq hn_107
            refine zt_imul hex hbc dL_areSlices_110 ?_
            refine zt_nm (a := (((fr (σ 0) (k1 + 1)) - (fr (σ 0) k1)) * (σ 0 1))) (b := (ln (σ 0) k1)) rfl ?_
            refine lv_icmp_ne (tgt := 148) hex hbc dL_areSlices_111 (by decide) (fun h => absurd rfl h) (fun _ => ?_)
            refine lv_aload_n hex hbc dL_areSlices_114 rfl (lv_at hl 6 rfl) ?_
            refine lv_aload_n hex hbc dL_areSlices_115 rfl (lv_at hl 6 rfl) ?_
            refine lv_iload hex hbc dL_areSlices_116 (lv_at hl 5 rfl) ?_
            refine lv_iconst (v := iI 5) hex hbc dL_areSlices_118 rfl ?_
            refine g_calli [.int (iI k1), .int (iI 5)] ⟨hex, hbc, hml, hown, hts⟩ (mX4_slice l G cx a u_107 k1 5 (by omega) (by omega) (XQ_I hq hI)) (cwV 2 hts gL_areSlices_X4_slice rfl rfl rfl (by decide +kernel) ⟨Nat.le_of_ble_eq_true rfl, Nat.le_of_ble_eq_true rfl⟩) hK hP hD hS (fun _ h => h) 0 4 rfl rfl rfl rfl hl.1 (Nat.le_of_ble_eq_true rfl) dL_areSlices_119 ⟨Nat.zero_le _, Nat.zero_le _⟩ (fun r_119 u_119 H locs hw_119 hP hD hS hz_119 hk_119 => ?_)
            obtain ⟨⟨v_119, hr_119, hv_119⟩, hn_119⟩ := hw_119
            have hv_119 : SL_ (σ 0) k1 (5 : Int) v_119 := Eq.mp (congrArg (fun w => SL_ w k1 (5 : Int) v_119) hq.1) hv_119
            have ev_119 : v_119 = (plcf (σ 0) k1) := SL5 hv_119 ⟨hk0, c16⟩
            rw [ev_119] at hr_119
            subst hr_119
            have hq := XQ_tr hq hn_119
            refine g_calli [.int (iI (plcf (σ 0) k1))] ⟨hex, hbc, hml, hown, hts⟩ (mX4_order l G cx a u_119 (plcf (σ 0) k1) (by omega) (XQ_I hq hI)) (cwV 1 hts gL_areSlices_X4_order rfl rfl rfl (by decide +kernel) ⟨Nat.le_of_ble_eq_true rfl, Nat.le_of_ble_eq_true rfl⟩) hK hP hD hS (fun _ h => h) 0 4 rfl rfl rfl rfl hl.1 (Nat.le_of_ble_eq_true rfl) dL_areSlices_122 ⟨Nat.zero_le _, Nat.zero_le _⟩ (fun r_122 u_122 H locs hw_122 hP hD hS hz_122 hk_122 => ?_)
            obtain ⟨hr_122, hs_122, hn_122⟩ := hw_122
            have hr_122 : iI ((σ 0) (91 + (plcf (σ 0) k1))) = r_122 := Eq.mp (congrArg (fun w => (0 ≤ (plcf (σ 0) k1) ∧ (plcf (σ 0) k1) < w 74) → iI (w (91 + (plcf (σ 0) k1))) = r_122) hq.1) hr_122 hpl.1
            subst hr_122
            refine zt_nm (a := (σ 0) (91 + (plcf (σ 0) k1))) (b := k1) hpl.2 ?_
            have hq := XQ_tr hq hn_122
            refine lv_iload hex hbc dL_areSlices_125 (lv_at hl 5 rfl) ?_
            refine lv_icmp_ne (tgt := 148) hex hbc dL_areSlices_127 (by decide) (fun h => absurd rfl h) (fun _ => ?_)
            refine lv_iload hex hbc dL_areSlices_130 (lv_at hl 0 rfl) ?_
            refine lv_iload hex hbc dL_areSlices_132 (lv_at hl 4 rfl) ?_
            refine zt_icmp_lt (a := ld) (b := (fr (σ 0) k1)) (tgt := 148) hex hbc (by omega) dL_areSlices_134 (by decide) (fun c134 => ?_) (fun c134 => ?_)
            · skip
              exfalso; omega
            · skip
              refine lv_iload hex hbc dL_areSlices_137 (lv_at hl 0 rfl) ?_
              refine lv_iload hex hbc dL_areSlices_139 (lv_at hl 3 rfl) ?_
              refine zt_icmp_ge (a := ld) (b := (fr (σ 0) (k1 + 1))) (tgt := 148) hex hbc (by omega) dL_areSlices_141 (by decide) (fun c141 => ?_) (fun c141 => ?_)
              · skip
                exfalso; omega
              · skip
                refine lv_iconst (v := iI 1) hex hbc dL_areSlices_144 rfl ?_
                refine lv_goto (tgt := 149) hex hbc dL_areSlices_145 (by decide) ?_
                refine lv_istore (lv' := [(8, .int (iI 1)), (7, .int (iI ld)), (3, .int (iI (bsI (σ 0) (k1 + 1)))), (2, .int (iI (sumN (ln (σ 0)) (k1 + 1).toNat))), (6, .int (iI (fr (σ 0) (k1 + 1)))), (5, .int (iI (fr (σ 0) k1))), (4, .int (iI k1)), (0, .ref (a 0)), (1, .int (iI (σ 0 74)))]) hex hbc dL_areSlices_149 hl (by decide) rfl (fun ls hl => ?_)
                refine lv_iload hex hbc dL_areSlices_151 (lv_at hl 5 rfl) ?_
                refine lv_istore (lv' := [(9, .int (iI (fr (σ 0) k1))), (8, .int (iI 1)), (7, .int (iI ld)), (3, .int (iI (bsI (σ 0) (k1 + 1)))), (2, .int (iI (sumN (ln (σ 0)) (k1 + 1).toNat))), (6, .int (iI (fr (σ 0) (k1 + 1)))), (5, .int (iI (fr (σ 0) k1))), (4, .int (iI k1)), (0, .ref (a 0)), (1, .int (iI (σ 0 74)))]) hex hbc dL_areSlices_153 hl (by decide) rfl (fun ls hl => ?_)
                have loop_155 : ∀ (N : Nat) (f1 : Int) (ω155 : Nat → Int → Int), (fr (σ 0) k1 ≤ f1 ∧ f1 ≤ fr (σ 0) (k1 + 1)) → (64 - f1) < (N : Int) → XQ_ σ ω155 → ∀ (H : Heap) (locs : List Loc) (ls : Array Slot), va_P G vwCl (wx cx a ω155) H → va_D (XA a) (wx cx a ω155) → va_S (XA a) s.heap H locs → lv_has ls 10 [(9, .int (iI f1)), (0, .ref (a 0)), (1, .int (iI (σ 0 74))), (2, .int (iI (sumN (ln (σ 0)) (k1 + 1).toNat))), (3, .int (iI (bsI (σ 0) (k1 + 1)))), (4, .int (iI k1)), (5, .int (iI (fr (σ 0) k1))), (6, .int (iI (fr (σ 0) (k1 + 1)))), (7, .int (iI ld)), (8, .int (iI 1))] → W p l e (headSpec wsL_areSlices ({ frames := 7, cells := 0, slots := 0, locals := 172 })).room s m ([.ref (a 0)] : List Value).toArray below meth c H locs 0 0 (MQ below (va_Qi (fun r u => iI 1 = r ∧ XQ_ σ u) (gW G (tx cx) (XA a) (wx cx a)) (XA a)) ([.ref (a 0)] : List Value).toArray s 0 0 (XA a)) (F0 m 155 ls []) := by
                  intro N
                  induction N with
                  | zero => intro f1 ω155 hinv hlt; exfalso; omega
                  | succ N ih_155 =>
                    intro f1 ω155 ⟨hf1, hf2⟩ hlt_155 hq H locs ls hP hD hS hl
                    refine lv_iload hex hbc dL_areSlices_155 (lv_at hl 0 rfl) ?_
                    refine lv_iload hex hbc dL_areSlices_157 (lv_at hl 7 rfl) ?_
                    refine zt_icmp_ge (a := f1) (b := (fr (σ 0) (k1 + 1))) (tgt := 220) hex hbc (by omega) dL_areSlices_159 (by decide) (fun c159 => ?_) (fun c159 => ?_)
                    · skip
                      refine lv_iload hex hbc dL_areSlices_220 (lv_at hl 9 rfl) ?_
                      refine zt_if_ne (a := 1) (tgt := 227) hex hbc (by decide) dL_areSlices_222 (by decide) (fun _ => ?_) (fun h => absurd h (by decide))
                      refine lv_iinc (v := iI (k1 + 1)) (lv' := [(4, .int (iI (k1 + 1))), (9, .int (iI f1)), (0, .ref (a 0)), (1, .int (iI (σ 0 74))), (2, .int (iI (sumN (ln (σ 0)) (k1 + 1).toNat))), (3, .int (iI (bsI (σ 0) (k1 + 1)))), (5, .int (iI (fr (σ 0) k1))), (6, .int (iI (fr (σ 0) (k1 + 1)))), (7, .int (iI ld)), (8, .int (iI 1))]) hex hbc dL_areSlices_227 hl (k := 5) rfl (iI_add _ _) (by decide) rfl (fun ls hl => ?_)
                      refine lv_goto (tgt := 13) hex hbc dL_areSlices_230 (by decide) ?_
                      exact ih_13 (k1 + 1) ω155 ⟨by omega, by omega⟩ (by omega) hq _ _ _ hP hD hS (lv_sub hl [0, 2, 3, 4, 5] rfl)
                    · skip
                      have hme := hmx f1 (by omega) (by omega)
                      have he1 := hEn f1 (by omega) (by omega)
                      have he2 := hEn ld (by omega) (by omega)
                      refine lv_iload hex hbc dL_areSlices_162 (lv_at hl 9 rfl) ?_
                      refine zt_if_eq (a := 1) (tgt := 211) hex hbc (by decide) dL_areSlices_164 (by decide) (fun h => absurd h (by decide)) (fun _ => ?_)
                      refine lv_iload hex hbc dL_areSlices_167 (lv_at hl 0 rfl) ?_
                      refine lv_iload hex hbc dL_areSlices_169 (lv_at hl 8 rfl) ?_
                      refine zt_icmp_ge (a := f1) (b := ld) (tgt := 192) hex hbc (by omega) dL_areSlices_171 (by decide) (fun c171 => ?_) (fun c171 => ?_)
                      · skip
                        refine lv_aload_n hex hbc dL_areSlices_192 rfl (lv_at hl 1 rfl) ?_
                        refine lv_iload hex hbc dL_areSlices_193 (lv_at hl 0 rfl) ?_
                        refine g_calli [.int (iI f1)] ⟨hex, hbc, hml, hown, hts⟩ (mX4_energy l G cx a ω155 f1 (by omega) (XQ_I hq hI)) (cwV 1 hts gL_areSlices_X4_energy rfl rfl rfl (by decide +kernel) ⟨Nat.le_of_ble_eq_true rfl, Nat.le_of_ble_eq_true rfl⟩) hK hP hD hS (fun _ h => h) 0 4 rfl rfl rfl rfl hl.1 (Nat.le_of_ble_eq_true rfl) dL_areSlices_195 ⟨Nat.zero_le _, Nat.zero_le _⟩ (fun r_195 u_195 H locs hw_195 hP hD hS hz_195 hk_195 => ?_)
                        obtain ⟨hr_195, hs_195, hn_195⟩ := hw_195
                        have hr_195 : iI ((σ 0) (10 + f1)) = r_195 := Eq.mp (congrArg (fun w => (0 ≤ f1 ∧ f1 < w 0) → iI (w (10 + f1)) = r_195) hq.1) hr_195 (by omega)
                        subst hr_195
                        have hq := XQ_tr hq hn_195
                        refine lv_aload_n hex hbc dL_areSlices_198 rfl (lv_at hl 1 rfl) ?_
                        refine lv_iload hex hbc dL_areSlices_199 (lv_at hl 8 rfl) ?_
                        refine g_calli [.int (iI ld)] ⟨hex, hbc, hml, hown, hts⟩ (mX4_energy l G cx a u_195 ld (by omega) (XQ_I hq hI)) (cwV 1 hts gL_areSlices_X4_energy rfl rfl rfl (by decide +kernel) ⟨Nat.le_of_ble_eq_true rfl, Nat.le_of_ble_eq_true rfl⟩) hK hP hD hS (fun _ h => h) 0 4 rfl rfl rfl rfl hl.1 (Nat.le_of_ble_eq_true rfl) dL_areSlices_201 ⟨Nat.zero_le _, Nat.zero_le _⟩ (fun r_201 u_201 H locs hw_201 hP hD hS hz_201 hk_201 => ?_)
                        obtain ⟨hr_201, hs_201, hn_201⟩ := hw_201
                        have hr_201 : iI ((σ 0) (10 + ld)) = r_201 := Eq.mp (congrArg (fun w => (0 ≤ ld ∧ ld < w 0) → iI (w (10 + ld)) = r_201) hq.1) hr_201 (by omega)
                        subst hr_201
                        have hq := XQ_tr hq hn_201
                        refine zt_icmp_gt (a := ((σ 0) (10 + f1))) (b := ((σ 0) (10 + ld))) (tgt := 211) hex hbc (by omega) dL_areSlices_204 (by decide) (fun c204 => ?_) (fun c204 => ?_)
                        · skip
                          exfalso; omega
                        · skip
                          refine lv_iconst (v := iI 1) hex hbc dL_areSlices_207 rfl ?_
                          refine lv_goto (tgt := 212) hex hbc dL_areSlices_208 (by decide) ?_
                          refine lv_istore (lv' := [(8, .int (iI 1)), (9, .int (iI f1)), (0, .ref (a 0)), (1, .int (iI (σ 0 74))), (2, .int (iI (sumN (ln (σ 0)) (k1 + 1).toNat))), (3, .int (iI (bsI (σ 0) (k1 + 1)))), (4, .int (iI k1)), (5, .int (iI (fr (σ 0) k1))), (6, .int (iI (fr (σ 0) (k1 + 1)))), (7, .int (iI ld))]) hex hbc dL_areSlices_212 hl (by decide) rfl (fun ls hl => ?_)
                          refine lv_iinc (v := iI (f1 + 1)) (lv' := [(9, .int (iI (f1 + 1))), (8, .int (iI 1)), (0, .ref (a 0)), (1, .int (iI (σ 0 74))), (2, .int (iI (sumN (ln (σ 0)) (k1 + 1).toNat))), (3, .int (iI (bsI (σ 0) (k1 + 1)))), (4, .int (iI k1)), (5, .int (iI (fr (σ 0) k1))), (6, .int (iI (fr (σ 0) (k1 + 1)))), (7, .int (iI ld))]) hex hbc dL_areSlices_214 hl (k := 1) rfl (iI_add _ _) (by decide) rfl (fun ls hl => ?_)
                          refine lv_goto (tgt := 155) hex hbc dL_areSlices_217 (by decide) ?_
                          exact ih_155 (f1 + 1) u_201 ⟨by omega, by omega⟩ (by omega) hq _ _ _ hP hD hS (lv_sub hl [0, 2, 3, 4, 5, 6, 7, 8, 9, 1] rfl)
                      · skip
                        have hm3 := hme.1 c171
                        refine lv_aload_n hex hbc dL_areSlices_174 rfl (lv_at hl 1 rfl) ?_
                        refine lv_iload hex hbc dL_areSlices_175 (lv_at hl 0 rfl) ?_
                        refine g_calli [.int (iI f1)] ⟨hex, hbc, hml, hown, hts⟩ (mX4_energy l G cx a ω155 f1 (by omega) (XQ_I hq hI)) (cwV 1 hts gL_areSlices_X4_energy rfl rfl rfl (by decide +kernel) ⟨Nat.le_of_ble_eq_true rfl, Nat.le_of_ble_eq_true rfl⟩) hK hP hD hS (fun _ h => h) 0 4 rfl rfl rfl rfl hl.1 (Nat.le_of_ble_eq_true rfl) dL_areSlices_177 ⟨Nat.zero_le _, Nat.zero_le _⟩ (fun r_177 u_177 H locs hw_177 hP hD hS hz_177 hk_177 => ?_)
                        obtain ⟨hr_177, hs_177, hn_177⟩ := hw_177
                        have hr_177 : iI ((σ 0) (10 + f1)) = r_177 := Eq.mp (congrArg (fun w => (0 ≤ f1 ∧ f1 < w 0) → iI (w (10 + f1)) = r_177) hq.1) hr_177 (by omega)
                        subst hr_177
                        have hq := XQ_tr hq hn_177
                        refine lv_aload_n hex hbc dL_areSlices_180 rfl (lv_at hl 1 rfl) ?_
                        refine lv_iload hex hbc dL_areSlices_181 (lv_at hl 8 rfl) ?_
                        refine g_calli [.int (iI ld)] ⟨hex, hbc, hml, hown, hts⟩ (mX4_energy l G cx a u_177 ld (by omega) (XQ_I hq hI)) (cwV 1 hts gL_areSlices_X4_energy rfl rfl rfl (by decide +kernel) ⟨Nat.le_of_ble_eq_true rfl, Nat.le_of_ble_eq_true rfl⟩) hK hP hD hS (fun _ h => h) 0 4 rfl rfl rfl rfl hl.1 (Nat.le_of_ble_eq_true rfl) dL_areSlices_183 ⟨Nat.zero_le _, Nat.zero_le _⟩ (fun r_183 u_183 H locs hw_183 hP hD hS hz_183 hk_183 => ?_)
                        obtain ⟨hr_183, hs_183, hn_183⟩ := hw_183
                        have hr_183 : iI ((σ 0) (10 + ld)) = r_183 := Eq.mp (congrArg (fun w => (0 ≤ ld ∧ ld < w 0) → iI (w (10 + ld)) = r_183) hq.1) hr_183 (by omega)
                        subst hr_183
                        have hq := XQ_tr hq hn_183
                        refine zt_icmp_ge (a := ((σ 0) (10 + f1))) (b := ((σ 0) (10 + ld))) (tgt := 211) hex hbc (by omega) dL_areSlices_186 (by decide) (fun c186 => ?_) (fun c186 => ?_)
                        · skip
                          exfalso; omega
                        · skip
                          refine lv_goto (tgt := 207) hex hbc dL_areSlices_189 (by decide) ?_
                          refine lv_iconst (v := iI 1) hex hbc dL_areSlices_207 rfl ?_
                          refine lv_goto (tgt := 212) hex hbc dL_areSlices_208 (by decide) ?_
                          refine lv_istore (lv' := [(8, .int (iI 1)), (9, .int (iI f1)), (0, .ref (a 0)), (1, .int (iI (σ 0 74))), (2, .int (iI (sumN (ln (σ 0)) (k1 + 1).toNat))), (3, .int (iI (bsI (σ 0) (k1 + 1)))), (4, .int (iI k1)), (5, .int (iI (fr (σ 0) k1))), (6, .int (iI (fr (σ 0) (k1 + 1)))), (7, .int (iI ld))]) hex hbc dL_areSlices_212 hl (by decide) rfl (fun ls hl => ?_)
                          refine lv_iinc (v := iI (f1 + 1)) (lv' := [(9, .int (iI (f1 + 1))), (8, .int (iI 1)), (0, .ref (a 0)), (1, .int (iI (σ 0 74))), (2, .int (iI (sumN (ln (σ 0)) (k1 + 1).toNat))), (3, .int (iI (bsI (σ 0) (k1 + 1)))), (4, .int (iI k1)), (5, .int (iI (fr (σ 0) k1))), (6, .int (iI (fr (σ 0) (k1 + 1)))), (7, .int (iI ld))]) hex hbc dL_areSlices_214 hl (k := 1) rfl (iI_add _ _) (by decide) rfl (fun ls hl => ?_)
                          refine lv_goto (tgt := 155) hex hbc dL_areSlices_217 (by decide) ?_
                          exact ih_155 (f1 + 1) u_183 ⟨by omega, by omega⟩ (by omega) hq _ _ _ hP hD hS (lv_sub hl [0, 2, 3, 4, 5, 6, 7, 8, 9, 1] rfl)
                exact loop_155 _ (fr (σ 0) k1) u_122 ⟨by omega, by omega⟩ (mz_lt _) hq _ _ _ hP hD hS (lv_sub hl [0, 8, 9, 4, 3, 7, 6, 5, 2, 1] rfl)
        refine lv_iload hex hbc dL_areSlices_28 (lv_at hl 1 rfl) ?_
        refine lv_iconst (v := iI 1) hex hbc dL_areSlices_30 rfl ?_
        refine zt_iadd hex hbc dL_areSlices_31 ?_
        refine lv_iload_n hex hbc dL_areSlices_32 rfl (lv_at hl 3 rfl) ?_
        refine zt_icmp_ge (a := (k1 + 1)) (b := (σ 0 74)) (tgt := 48) hex hbc (by omega) dL_areSlices_33 (by decide) (fun c33 => ?_) (fun c33 => ?_)
        · skip
          refine lv_aload_n hex hbc dL_areSlices_48 rfl (lv_at hl 2 rfl) ?_
          refine lv_iconst (v := iI 0) hex hbc dL_areSlices_49 rfl ?_
          refine g_calli [.int (iI 0)] ⟨hex, hbc, hml, hown, hts⟩ (mX4_told l G cx a u_23 0 (by omega) (XQ_I hq hI)) (cwV 1 hts gL_areSlices_X4_told rfl rfl rfl (by decide +kernel) ⟨Nat.le_of_ble_eq_true rfl, Nat.le_of_ble_eq_true rfl⟩) hK hP hD hS (fun _ h => h) 0 4 rfl rfl rfl rfl hl.1 (Nat.le_of_ble_eq_true rfl) dL_areSlices_50 ⟨Nat.zero_le _, Nat.zero_le _⟩ (fun r_50 u_50 H locs hw_50 hP hD hS hz_50 hk_50 => ?_)
          obtain ⟨⟨v_50, hr_50, hv_50⟩, hn_50⟩ := hw_50
          have hv_50 : TD_ (σ 0) (u_23 12 1) (0 : Int) v_50 := Eq.mp (congrArg (fun w => TD_ w (u_23 12 1) (0 : Int) v_50) hq.1) hv_50
          have ev_50 : v_50 = (fr (σ 0) (k1 + 1)) := (TD0 hv_50).trans (fr_ge (by omega)).symm
          rw [ev_50] at hr_50
          subst hr_50
          have hq := XQ_tr hq hn_50
          exact cut_53 _ hq _ _ _ hP hD hS (lv_sub hl [0, 1, 2, 3, 4, 5] rfl)
        · skip
          refine lv_aload_n hex hbc dL_areSlices_36 rfl (lv_at hl 2 rfl) ?_
          refine lv_iload hex hbc dL_areSlices_37 (lv_at hl 1 rfl) ?_
          refine lv_iconst (v := iI 1) hex hbc dL_areSlices_39 rfl ?_
          refine zt_iadd hex hbc dL_areSlices_40 ?_
          refine lv_iconst (v := iI 0) hex hbc dL_areSlices_41 rfl ?_
          refine g_calli [.int (iI (k1 + 1)), .int (iI 0)] ⟨hex, hbc, hml, hown, hts⟩ (mX4_slice l G cx a u_23 (k1 + 1) 0 (by omega) (by omega) (XQ_I hq hI)) (cwV 2 hts gL_areSlices_X4_slice rfl rfl rfl (by decide +kernel) ⟨Nat.le_of_ble_eq_true rfl, Nat.le_of_ble_eq_true rfl⟩) hK hP hD hS (fun _ h => h) 0 4 rfl rfl rfl rfl hl.1 (Nat.le_of_ble_eq_true rfl) dL_areSlices_42 ⟨Nat.zero_le _, Nat.zero_le _⟩ (fun r_42 u_42 H locs hw_42 hP hD hS hz_42 hk_42 => ?_)
          obtain ⟨⟨v_42, hr_42, hv_42⟩, hn_42⟩ := hw_42
          have hv_42 : SL_ (σ 0) (k1 + 1) (0 : Int) v_42 := Eq.mp (congrArg (fun w => SL_ w (k1 + 1) (0 : Int) v_42) hq.1) hv_42
          have ev_42 : v_42 = (fr (σ 0) (k1 + 1)) := SL0 hv_42 (by omega)
          rw [ev_42] at hr_42
          subst hr_42
          have hq := XQ_tr hq hn_42
          refine lv_goto (tgt := 53) hex hbc dL_areSlices_45 (by decide) ?_
          exact cut_53 _ hq _ _ _ hP hD hS (lv_sub hl [0, 1, 2, 3, 4, 5] rfl)
  exact loop_13 _ 0 u_2 ⟨by omega, by omega⟩ (mz_lt _) hq _ _ _ hP hD hS (lv_sub hl [0, 4, 3, 2, 1] rfl)
