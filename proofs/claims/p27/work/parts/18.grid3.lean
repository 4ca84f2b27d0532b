/-! the program: the least sum, the steps that are drawn (rows laid by wip/gen) -/
theorem iX0_leastSum_X0 : ∀ w ∈ wsX00, w ∈ wsX0_leastSum := fun _ h => List.mem_cons_of_mem _ (List.mem_append_left _ (List.mem_append_right _ h))
theorem iX0_leastSum_X2 : ∀ w ∈ wsX20, w ∈ wsX0_leastSum := fun _ h => List.mem_cons_of_mem _ (List.mem_append_right _ h)
set_option maxHeartbeats 4000000 in
set_option maxRecDepth 100000 in
theorem mX0_leastSum (l : Launch) (G : va_G) (cx a : Nat → Nat) (σ : Nat → Int → Int)  (x1 : Int) (x2 : Int) (h1 : 1 ≤ x1 ∧ x1 ≤ 200000) (h2 : 1 ≤ x2 ∧ x2 ≤ 32) (hI : Inv (σ 0)) : Met l yX0_leastSum wsX0_leastSum ({ frames := 3, cells := 0, slots := 0, locals := 84 }) (va_Pc [.ref (a 8), .int (iI x1), .int (iI x2)] (gW G (tx cx) (XA a) (wx cx a) σ)) (va_Qi (fun r u => ∃ f14 f15 f16 f17 f21, iI (cv_ (bst (σ 0) x1 x2 (σ 0 74 - 1).toNat 0)) = r ∧ (can_ (σ 0) x1 x2 → Ready u x1 x2) ∧ sc (sc (sc (sc (sc σ 14 f14) 15 f15) 16 f16) 17 f17) 21 f21 = u) (gW G (tx cx) (XA a) (wx cx a)) (XA a)) 0 0 (XA a) := by
  refine Met.ofW (cc := cX0_leastSum) (maxL := 4) (ret := some .int) (by decide) rfl ?_
  intro p e s m args below meth c s₁ B hml hv
  obtain ⟨rfl, hP, hK, hD⟩ := hv
  have hex := B.exec
  have hbc := B.bytes
  have hrt := B.returns
  have hts := atoms_spec (ws := wsX0_leastSum) B.pre
  have hown : s.vm.findClass RX0 = some m.cls := findClass_of_methodNamed B.named
  have hlocks := B.notSynchronized
  have hS : va_S (XA a) s.heap s.heap [] := va_S.rf
  have hin0 := iX0_leastSum_X0
  have hin2 := iX0_leastSum_X2
  have hl := lv_entry ([.ref (a 8), .int (iI x1), .int (iI x2)]) (n := 4) (Nat.le_of_ble_eq_true rfl)
  rw [lg_entry_eq]
  generalize (lg_sl ([.ref (a 8), .int (iI x1), .int (iI x2)]) ++ List.replicate (4 - (lg_sl ([.ref (a 8), .int (iI x1), .int (iI x2)])).length) Slot.unset).toArray = ls at hl ⊢
  have hl : lv_has ls 4 [(0, .ref (a 8)), (1, .int (iI x1)), (2, .int (iI x2))] := hl
  obtain ⟨hB, hEn, hMk, hAs, hPm⟩ := id hI
  refine lv_iload_n hex hbc dX0_leastSum_0 rfl (lv_at hl 2 rfl) ?_
  refine lv_aload_n hex hbc dX0_leastSum_1 rfl (lv_at hl 0 rfl) ?_
  refine va_get (v := .ref (a 3)) hex hbc hts hin0 hown hK hP 8 rfl rfl 0 (by decide) (hts _ (List.mem_of_getElem? (i := 1) rfl)) (fun _ h => h) rfl dX0_leastSum_2 ?_
  refine va_get (v := .int (iI (σ 0 74))) hex hbc hts hin2 hown hK hP 3 rfl rfl 1 (by decide) (hts _ (List.mem_of_getElem? (i := 2) rfl)) (fun _ h => h) rfl dX0_leastSum_5 ?_
  refine zt_icmp_lt (a := x2) (b := (σ 0 74)) (tgt := 17) hex hbc (by omega) dX0_leastSum_8 (by decide) (fun c8 => ?_) (fun c8 => ?_)
  · skip
    have hno : bst (σ 0) x1 x2 (σ 0 74 - 1).toNat 0 = FAR := bst_small hI (by omega) c8
    refine lv_iconst (v := iI (-1)) hex hbc dX0_leastSum_17 rfl ?_
    exact g_iret hex hbc hrt hlocks hK hP hD hS ⟨σ 14, σ 15, σ 16, σ 17, σ 21, congrArg iI (by first | (rw [hno]; rfl) | (exfalso; omega)), fun hc => by first | exact absurd hno hc | (exfalso; omega), by rw [sc_self, sc_self, sc_self, sc_self, sc_self]⟩ dX0_leastSum_18
  · skip
    refine lv_iload_n hex hbc dX0_leastSum_11 rfl (lv_at hl 2 rfl) ?_
    refine lv_bipush (v := iI 32) hex hbc dX0_leastSum_12 (by decide) ?_
    refine zt_icmp_le (a := x2) (b := 32) (tgt := 19) hex hbc (by omega) dX0_leastSum_14 (by decide) (fun c14 => ?_) (fun c14 => ?_)
    · skip
      refine lv_aload_n hex hbc dX0_leastSum_19 rfl (lv_at hl 0 rfl) ?_
      refine lv_iload_n hex hbc dX0_leastSum_20 rfl (lv_at hl 1 rfl) ?_
      refine va_put hex hbc hts hin0 tyX0 tyX0_ok nmX0 hown hK hP hD hS 8 rfl rfl 1 (by decide) (hts _ (List.mem_of_getElem? (i := 3) rfl)) (fun _ h => h) rfl (tyX0_ok 1 (by decide)) rfl rfl (Nat.le_of_ble_eq_true rfl) dX0_leastSum_21 (fun H locs hP hD hS => ?_)
      have hP := leW_P (wx_pf_8_1 (G := G) (cx := cx) (a := a) (σ := σ)) hP
      have hD := leW_D (wx_pf_8_1 (G := G) (cx := cx) (a := a) (σ := σ)) hD
      obtain ⟨f21_21, ef21_21⟩ : ∃ z : Int → Int, z = ups (σ 21) 0 x1 := ⟨_, rfl⟩
      have hP : va_P G vwCl (wx cx a (sc σ 21 f21_21)) H := by rw [ef21_21]; exact hP
      have hD : va_D (XA a) (wx cx a (sc σ 21 f21_21)) := by rw [ef21_21]; exact hD
      refine lv_aload_n hex hbc dX0_leastSum_24 rfl (lv_at hl 0 rfl) ?_
      refine lv_iload_n hex hbc dX0_leastSum_25 rfl (lv_at hl 2 rfl) ?_
      refine va_put hex hbc hts hin0 tyX0 tyX0_ok nmX0 hown hK hP hD hS 8 rfl rfl 2 (by decide) (hts _ (List.mem_of_getElem? (i := 4) rfl)) (fun _ h => h) rfl (tyX0_ok 2 (by decide)) rfl rfl (Nat.le_of_ble_eq_true rfl) dX0_leastSum_26 (fun H locs hP hD hS => ?_)
      have hP := leW_P (wx_pf_8_2 (G := G) (cx := cx) (a := a) (σ := (sc σ 21 f21_21))) hP
      have hD := leW_D (wx_pf_8_2 (G := G) (cx := cx) (a := a) (σ := (sc σ 21 f21_21))) hD
      obtain ⟨f21_26, ef21_26⟩ : ∃ z : Int → Int, z = ups f21_21 1 x2 := ⟨_, rfl⟩
      have hP : va_P G vwCl (wx cx a (sc σ 21 f21_26)) H := by rw [ef21_26]; exact hP
      have hD : va_D (XA a) (wx cx a (sc σ 21 f21_26)) := by rw [ef21_26]; exact hD
      have hTG : (1 ≤ x1 ∧ x1 ≤ 200000) ∧ (1 ≤ x2 ∧ x2 ≤ 32) ∧ σ 0 74 ≤ x2 := ⟨h1, h2, by omega⟩
      have hT_ : f21_21 0 = x1 := by rw [ef21_21, ups_s]
      have hT2_ : f21_26 0 = x1 := by rw [ef21_26, ups_n _ _ (by omega), hT_]
      have hT_ := hT2_
      have hG_ : f21_26 1 = x2 := by rw [ef21_26, ups_s]
      refine lv_aload_n hex hbc dX0_leastSum_29 rfl (lv_at hl 0 rfl) ?_
      refine g_callv [] ⟨hex, hbc, hml, hown, hts⟩ (mX0_measure l G cx a (sc σ 21 f21_26) x1 x2  hTG hT_ hG_ hI) (cwV 0 hts gX0_leastSum_X0_measure rfl rfl rfl (by decide +kernel) ⟨Nat.le_of_ble_eq_true rfl, Nat.le_of_ble_eq_true rfl⟩) hK hP hD hS (fun _ h => h) 8 0 rfl rfl rfl rfl hl.1 (Nat.le_of_ble_eq_true rfl) dX0_leastSum_30 ⟨Nat.zero_le _, Nat.zero_le _⟩ (fun u_30 H locs hw_30 hP hD hS hz_30 hk_30 => ?_)
      obtain ⟨f14_30, f15_30, f16_30, hf14_30, hf15_30, hf16_30, rfl⟩ := hw_30
      have hP : va_P G vwCl (wx cx a (sc (sc (sc (sc σ 14 f14_30) 15 f15_30) 16 f16_30) 21 f21_26)) H := hP
      have hD : va_D (XA a) (wx cx a (sc (sc (sc (sc σ 14 f14_30) 15 f15_30) 16 f16_30) 21 f21_26)) := hD
      refine lv_aload_n hex hbc dX0_leastSum_33 rfl (lv_at hl 0 rfl) ?_
      refine va_get (v := .ref (a 12)) hex hbc hts hin0 hown hK hP 8 rfl rfl 6 (by decide) (hts _ (List.mem_of_getElem? (i := 5) rfl)) (fun _ h => h) rfl dX0_leastSum_34 ?_
      refine lv_aload_n hex hbc dX0_leastSum_37 rfl (lv_at hl 0 rfl) ?_
      refine va_get (v := .ref (a 3)) hex hbc hts hin0 hown hK hP 8 rfl rfl 0 (by decide) (hts _ (List.mem_of_getElem? (i := 1) rfl)) (fun _ h => h) rfl dX0_leastSum_38 ?_
      refine va_get (v := .int (iI (σ 0 74))) hex hbc hts hin2 hown hK hP 3 rfl rfl 1 (by decide) (hts _ (List.mem_of_getElem? (i := 2) rfl)) (fun _ h => h) rfl dX0_leastSum_41 ?_
      refine lv_bipush (v := iI 33) hex hbc dX0_leastSum_44 (by decide) ?_
      refine zt_imul hex hbc dX0_leastSum_46 ?_
      refine lv_aload_n hex hbc dX0_leastSum_47 rfl (lv_at hl 0 rfl) ?_
      refine va_get (v := .int (iI (f21_26 1))) hex hbc hts hin0 hown hK hP 8 rfl rfl 2 (by decide) (hts _ (List.mem_of_getElem? (i := 4) rfl)) (fun _ h => h) rfl dX0_leastSum_48 ?_
      refine zt_nm (a := (f21_26 1)) (b := x2) hG_ ?_
      refine zt_iadd hex hbc dX0_leastSum_51 ?_
      refine lv_iconst (v := iI 0) hex hbc dX0_leastSum_52 rfl ?_
      have hi_53 : (0 : Int) ≤ (((σ 0 74) * 33) + x2) ∧ (((σ 0 74) * 33) + x2) < (561 : Int) := (by omega)
      refine g_iast (σ := (sc (sc (sc (sc σ 14 f14_30) 15 f15_30) 16 f16_30) 21 f21_26)) (f := (σ 17)) (i := (((σ 0 74) * 33) + x2)) (v := 0) (τ := st (sc (sc (sc (sc σ 14 f14_30) 15 f15_30) 16 f16_30) 21 f21_26) 17 (((σ 0 74) * 33) + x2) 0) hex hbc hK hP hD hS 12 0 rfl rfl (by decide) hi_53 dX0_leastSum_53 (wx_up_12 hi_53) (fun H locs hP hD hS => ?_)
      obtain ⟨f17_53, ef17_53⟩ : ∃ z : Int → Int, z = ups (σ 17) (((σ 0 74) * 33) + x2) 0 := ⟨_, rfl⟩
      have hP : va_P G vwCl (wx cx a (sc (sc (sc (sc (sc σ 14 f14_30) 15 f15_30) 16 f16_30) 17 f17_53) 21 f21_26)) H := by rw [ef17_53]; exact hP
      have hD : va_D (XA a) (wx cx a (sc (sc (sc (sc (sc σ 14 f14_30) 15 f15_30) 16 f16_30) 17 f17_53) 21 f21_26)) := by rw [ef17_53]; exact hD
      refine lv_aload_n hex hbc dX0_leastSum_54 rfl (lv_at hl 0 rfl) ?_
      refine va_get (v := .ref (a 3)) hex hbc hts hin0 hown hK hP 8 rfl rfl 0 (by decide) (hts _ (List.mem_of_getElem? (i := 1) rfl)) (fun _ h => h) rfl dX0_leastSum_55 ?_
      refine va_get (v := .int (iI (σ 0 74))) hex hbc hts hin2 hown hK hP 3 rfl rfl 1 (by decide) (hts _ (List.mem_of_getElem? (i := 2) rfl)) (fun _ h => h) rfl dX0_leastSum_58 ?_
      refine lv_iconst (v := iI 1) hex hbc dX0_leastSum_61 rfl ?_
      refine zt_isub hex hbc dX0_leastSum_62 ?_
      refine lv_istore_n (lv' := [(3, .int (iI ((σ 0 74) - 1))), (0, .ref (a 8)), (1, .int (iI x1)), (2, .int (iI x2))]) hex hbc dX0_leastSum_63 rfl hl (by decide) rfl (fun ls hl => ?_)
      have loop_64 : ∀ (N : Nat) (i1 : Int) (w1 : Int → Int), (-1 ≤ i1 ∧ i1 ≤ σ 0 74 - 1 ∧ ∀ m, i1 < m → m ≤ σ 0 74 → Rw (σ 0) x1 x2 w1 m) → (i1 + 2) < (N : Int) → ∀ (H : Heap) (locs : List Loc) (ls : Array Slot), va_P G vwCl (wx cx a (sc (sc (sc (sc (sc σ 14 f14_30) 15 f15_30) 16 f16_30) 17 w1) 21 f21_26)) H → va_D (XA a) (wx cx a (sc (sc (sc (sc (sc σ 14 f14_30) 15 f15_30) 16 f16_30) 17 w1) 21 f21_26)) → va_S (XA a) s.heap H locs → lv_has ls 4 [(3, .int (iI i1)), (0, .ref (a 8))] → W p l e (headSpec wsX0_leastSum ({ frames := 3, cells := 0, slots := 0, locals := 84 })).room s m ([.ref (a 8), .int (iI x1), .int (iI x2)] : List Value).toArray below meth c H locs 0 0 (MQ below (va_Qi (fun r u => ∃ f14 f15 f16 f17 f21, iI (cv_ (bst (σ 0) x1 x2 (σ 0 74 - 1).toNat 0)) = r ∧ (can_ (σ 0) x1 x2 → Ready u x1 x2) ∧ sc (sc (sc (sc (sc σ 14 f14) 15 f15) 16 f16) 17 f17) 21 f21 = u) (gW G (tx cx) (XA a) (wx cx a)) (XA a)) ([.ref (a 8), .int (iI x1), .int (iI x2)] : List Value).toArray s 0 0 (XA a)) (F0 m 64 ls []) := by
        intro N
        induction N with
        | zero => intro i1 w1 hinv hlt; exfalso; omega
        | succ N ih_64 =>
          intro i1 w1 ⟨hi0, hi1, hrow⟩ hlt_64 H locs ls hP hD hS hl
          refine lv_iload_n hex hbc dX0_leastSum_64 rfl (lv_at hl 0 rfl) ?_
          refine zt_if_lt (a := i1) (tgt := 84) hex hbc (by omega) dX0_leastSum_65 (by decide) (fun c65 => ?_) (fun c65 => ?_)
          · skip
            have hr0 := hrow 0 (by omega) (by omega)
            unfold Rw at hr0
            rw [if_neg (by omega)] at hr0
            have hr1 := hr0 0 (by omega) (by unfold lst_; rw [if_pos rfl]; omega)
            have hr2 : w1 0 = cv_ (bst (σ 0) x1 x2 (σ 0 74 - 1).toNat 0) := by rw [show (0 : Int) * 33 + 0 = 0 from rfl, show σ 0 74 - 1 - 0 = σ 0 74 - 1 by omega] at hr1; exact hr1
            refine lv_aload_n hex hbc dX0_leastSum_84 rfl (lv_at hl 1 rfl) ?_
            refine va_get (v := .ref (a 12)) hex hbc hts hin0 hown hK hP 8 rfl rfl 6 (by decide) (hts _ (List.mem_of_getElem? (i := 5) rfl)) (fun _ h => h) rfl dX0_leastSum_85 ?_
            refine lv_iconst (v := iI 0) hex hbc dX0_leastSum_88 rfl ?_
            refine g_iald (f := w1) (v := (w1 0)) (i := 0) hex hbc hK hP 12 0 rfl rfl (by decide) (by omega) rfl dX0_leastSum_89 ?_
            exact g_iret hex hbc hrt hlocks hK hP hD hS ⟨f14_30, f15_30, f16_30, w1, f21_26, congrArg iI hr2.symm, fun _ => ⟨⟨hT_, hG_, hf14_30, hf15_30, hf16_30⟩, fun m m0 m1 => hrow m (by omega) m1⟩, rfl⟩ dX0_leastSum_90
          · skip
            have hM : Ms (sc (sc (sc (sc (sc σ 14 f14_30) 15 f15_30) 16 f16_30) 17 w1) 21 f21_26) x1 x2 := ⟨hT_, hG_, hf14_30, hf15_30, hf16_30⟩
            have hR_ : Rw (σ 0) x1 x2 w1 (i1 + 1) := hrow (i1 + 1) (by omega) (by omega)
            refine lv_aload_n hex hbc dX0_leastSum_68 rfl (lv_at hl 1 rfl) ?_
            refine lv_iload_n hex hbc dX0_leastSum_69 rfl (lv_at hl 0 rfl) ?_
            refine g_calli [.int (iI i1)] ⟨hex, hbc, hml, hown, hts⟩ (mX0_fillSums l G cx a (sc (sc (sc (sc (sc σ 14 f14_30) 15 f15_30) 16 f16_30) 17 w1) 21 f21_26) x1 x2 i1 (show 0 ≤ i1 ∧ i1 < σ 0 74 from by omega) hTG hM (by assumption) hI) (cwV 1 hts gX0_leastSum_X0_fillSums rfl rfl rfl (by decide +kernel) ⟨Nat.le_of_ble_eq_true rfl, Nat.le_of_ble_eq_true rfl⟩) hK hP hD hS (fun _ h => h) 8 0 rfl rfl rfl rfl hl.1 (Nat.le_of_ble_eq_true rfl) dX0_leastSum_70 ⟨Nat.zero_le _, Nat.zero_le _⟩ (fun r_70 u_70 H locs hw_70 hP hD hS hz_70 hk_70 => ?_)
            obtain ⟨⟨vb70, rfl, hv70⟩, f17_70, hfo_70, hfr_70, rfl⟩ := hw_70
            have hP : va_P G vwCl (wx cx a (sc (sc (sc (sc (sc σ 14 f14_30) 15 f15_30) 16 f16_30) 17 f17_70) 21 f21_26)) H := hP
            have hD : va_D (XA a) (wx cx a (sc (sc (sc (sc (sc σ 14 f14_30) 15 f15_30) 16 f16_30) 17 f17_70) 21 f21_26)) := hD
            have hv70 : ((∃ j, i1 ≤ j ∧ j ≤ lst_ (σ 0) x2 i1 ∧ bst (σ 0) x1 x2 (σ 0 74 - 1 - i1).toNat j ≠ FAR) ∧ vb70 = 1) ∨ (¬ (∃ j, i1 ≤ j ∧ j ≤ lst_ (σ 0) x2 i1 ∧ bst (σ 0) x1 x2 (σ 0 74 - 1 - i1).toNat j ≠ FAR) ∧ vb70 = 0) := hv70
            refine zt_ifb_ne (P := (∃ j, i1 ≤ j ∧ j ≤ lst_ (σ 0) x2 i1 ∧ bst (σ 0) x1 x2 (σ 0 74 - 1 - i1).toNat j ≠ FAR)) (tgt := 78) hex hbc hv70 dX0_leastSum_73 (by decide) (fun c73 => ?_) (fun c73 => ?_)
            · skip
              refine lv_iinc (v := iI (i1 + (-1))) (lv' := [(3, .int (iI (i1 + (-1)))), (0, .ref (a 8))]) hex hbc dX0_leastSum_78 hl (k := 0) rfl (iI_add _ _) (by decide) rfl (fun ls hl => ?_)
              refine lv_goto (tgt := 64) hex hbc dX0_leastSum_81 (by decide) ?_
              exact ih_64 (i1 + (-1)) f17_70 ⟨by omega, by omega, fun m m0 m1 => if hq : m = i1 then (by rw [hq]; exact hfr_70) else Rw_congr h2 (by omega) (fun i j0 j1 => (hfo_70 i (Or.inr (by omega))).symm) (hrow m (by omega) m1)⟩ (by omega) _ _ _ hP hD hS (lv_sub hl [0, 1] rfl)
            · skip
              have hno : bst (σ 0) x1 x2 (σ 0 74 - 1).toNat 0 = FAR := none_row hI (by omega) (by omega) c73
              refine lv_iconst (v := iI (-1)) hex hbc dX0_leastSum_76 rfl ?_
              exact g_iret hex hbc hrt hlocks hK hP hD hS ⟨f14_30, f15_30, f16_30, f17_70, f21_26, congrArg iI (by rw [hno]; rfl), fun hc => absurd hno hc, rfl⟩ dX0_leastSum_77
      exact loop_64 _ (σ 0 74 - 1) f17_53 ⟨by omega, by omega, fun m m0 m1 => by rw [show m = σ 0 74 by omega]; unfold Rw; rw [if_pos rfl, ef17_53, ups_s]⟩ (mz_lt _) _ _ _ hP hD hS (lv_sub hl [0, 1] rfl)
    · skip
      refine lv_iconst (v := iI (-1)) hex hbc dX0_leastSum_17 rfl ?_
      exact g_iret hex hbc hrt hlocks hK hP hD hS ⟨σ 14, σ 15, σ 16, σ 17, σ 21, congrArg iI (by first | (rw [hno]; rfl) | (exfalso; omega)), fun hc => by first | exact absurd hno hc | (exfalso; omega), by rw [sc_self, sc_self, sc_self, sc_self, sc_self]⟩ dX0_leastSum_18
theorem iX0_draw_X0 : ∀ w ∈ wsX00, w ∈ wsX0_draw := fun _ h => List.mem_cons_of_mem _ (List.mem_append_left _ (List.mem_append_right _ h))
theorem iX0_draw_X2 : ∀ w ∈ wsX20, w ∈ wsX0_draw := fun _ h => List.mem_cons_of_mem _ (List.mem_append_right _ h)
set_option maxHeartbeats 4000000 in
set_option maxRecDepth 100000 in
theorem mX0_draw (l : Launch) (G : va_G) (cx a : Nat → Nat) (σ : Nat → Int → Int)   (hI : Inv (σ 0)) : Met l yX0_draw wsX0_draw ({ frames := 4, cells := 0, slots := 0, locals := 107 }) (va_Pc [.ref (a 8)] (gW G (tx cx) (XA a) (wx cx a) σ)) (va_Qi (fun r u => (∃ v, iI v = r ∧ ((can_ (σ 0) (σ 0 6) (σ 0 7) ∧ v = 1) ∨ (¬ can_ (σ 0) (σ 0 6) (σ 0 7) ∧ v = 0))) ∧ ∃ f14 f15 f16 f17 f18 f21, (can_ (σ 0) (σ 0 6) (σ 0 7) → (∀ i, 0 ≤ i → i ≤ σ 0 7 → f14 i = po (σ 0 6) (σ 0 7) i) ∧ ∀ k, 0 ≤ k → k ≤ σ 0 74 → f18 k = stp (σ 0) (σ 0 6) (σ 0 7) k) ∧ sc (sc (sc (sc (sc (sc σ 14 f14) 15 f15) 16 f16) 17 f17) 18 f18) 21 f21 = u) (gW G (tx cx) (XA a) (wx cx a)) (XA a)) 0 0 (XA a) := by
  refine Met.ofW (cc := cX0_draw) (maxL := 3) (ret := some .boolean) (by decide) rfl ?_
  intro p e s m args below meth c s₁ B hml hv
  obtain ⟨rfl, hP, hK, hD⟩ := hv
  have hex := B.exec
  have hbc := B.bytes
  have hrt := B.returns
  have hts := atoms_spec (ws := wsX0_draw) B.pre
  have hown : s.vm.findClass RX0 = some m.cls := findClass_of_methodNamed B.named
  have hlocks := B.notSynchronized
  have hS : va_S (XA a) s.heap s.heap [] := va_S.rf
  have hin0 := iX0_draw_X0
  have hin2 := iX0_draw_X2
  have hl := lv_entry ([.ref (a 8)]) (n := 3) (Nat.le_of_ble_eq_true rfl)
  rw [lg_entry_eq]
  generalize (lg_sl ([.ref (a 8)]) ++ List.replicate (3 - (lg_sl ([.ref (a 8)])).length) Slot.unset).toArray = ls at hl ⊢
  have hl : lv_has ls 3 [(0, .ref (a 8))] := hl
  obtain ⟨hB, hEn, hMk, hAs, hPm⟩ := id hI
  have hcv := cv_in hI (T := σ 0 6) (G := σ 0 7) (d := (σ 0 74 - 1).toNat) (s := 0) (by omega) (by omega) (by omega) (by omega) (by omega)
  refine lv_aload_n hex hbc dX0_draw_0 rfl (lv_at hl 0 rfl) ?_
  refine lv_aload_n hex hbc dX0_draw_1 rfl (lv_at hl 0 rfl) ?_
  refine va_get (v := .ref (a 3)) hex hbc hts hin0 hown hK hP 8 rfl rfl 0 (by decide) (hts _ (List.mem_of_getElem? (i := 1) rfl)) (fun _ h => h) rfl dX0_draw_2 ?_
  refine va_get (v := .ref (a 5)) hex hbc hts hin2 hown hK hP 3 rfl rfl 3 (by decide) (hts _ (List.mem_of_getElem? (i := 2) rfl)) (fun _ h => h) rfl dX0_draw_5 ?_
  refine lv_iconst (v := iI 5) hex hbc dX0_draw_8 rfl ?_
  refine g_iald (f := (fun k => (σ 0 (1 + k)))) (v := (σ 0 6)) (i := 5) hex hbc hK hP 5 0 rfl rfl (by decide) (by omega) rfl dX0_draw_9 ?_
  refine lv_aload_n hex hbc dX0_draw_10 rfl (lv_at hl 0 rfl) ?_
  refine va_get (v := .ref (a 3)) hex hbc hts hin0 hown hK hP 8 rfl rfl 0 (by decide) (hts _ (List.mem_of_getElem? (i := 1) rfl)) (fun _ h => h) rfl dX0_draw_11 ?_
  refine va_get (v := .ref (a 5)) hex hbc hts hin2 hown hK hP 3 rfl rfl 3 (by decide) (hts _ (List.mem_of_getElem? (i := 2) rfl)) (fun _ h => h) rfl dX0_draw_14 ?_
  refine lv_bipush (v := iI 6) hex hbc dX0_draw_17 (by decide) ?_
  refine g_iald (f := (fun k => (σ 0 (1 + k)))) (v := (σ 0 7)) (i := 6) hex hbc hK hP 5 0 rfl rfl (by decide) (by omega) rfl dX0_draw_19 ?_
  refine g_calli [.int (iI (σ 0 6)), .int (iI (σ 0 7))] ⟨hex, hbc, hml, hown, hts⟩ (mX0_leastSum l G cx a σ (σ 0 6) (σ 0 7) (by omega) (by omega) hI) (cwV 2 hts gX0_draw_X0_leastSum rfl rfl rfl (by decide +kernel) ⟨Nat.le_of_ble_eq_true rfl, Nat.le_of_ble_eq_true rfl⟩) hK hP hD hS (fun _ h => h) 8 0 rfl rfl rfl rfl hl.1 (Nat.le_of_ble_eq_true rfl) dX0_draw_20 ⟨Nat.zero_le _, Nat.zero_le _⟩ (fun r_20 u_20 H locs hw_20 hP hD hS hz_20 hk_20 => ?_)
  obtain ⟨f14_20, f15_20, f16_20, f17_20, f21_20, rfl, hrd_20, rfl⟩ := hw_20
  have hP : va_P G vwCl (wx cx a (sc (sc (sc (sc (sc σ 14 f14_20) 15 f15_20) 16 f16_20) 17 f17_20) 21 f21_20)) H := hP
  have hD : va_D (XA a) (wx cx a (sc (sc (sc (sc (sc σ 14 f14_20) 15 f15_20) 16 f16_20) 17 f17_20) 21 f21_20)) := hD
  refine lv_iconst (v := iI (-1)) hex hbc dX0_draw_23 rfl ?_
  refine zt_icmp_ne (a := (cv_ (bst (σ 0) (σ 0 6) (σ 0 7) (σ 0 74 - 1).toNat 0))) (b := (-1)) (tgt := 29) hex hbc (by omega) dX0_draw_24 (by decide) (fun c24 => ?_) (fun c24 => ?_)
  · skip
    have hcan : can_ (σ 0) (σ 0 6) (σ 0 7) := fun q => c24 (by rw [q]; rfl)
    obtain ⟨hMr, hRr⟩ := hrd_20 hcan
    have hKG := can_le hI (by omega) hcan
    have hTG : (1 ≤ σ 0 6 ∧ σ 0 6 ≤ 200000) ∧ (1 ≤ σ 0 7 ∧ σ 0 7 ≤ 32) ∧ σ 0 74 ≤ σ 0 7 := ⟨by omega, by omega, hKG⟩
    refine lv_aload_n hex hbc dX0_draw_29 rfl (lv_at hl 0 rfl) ?_
    refine va_get (v := .ref (a 13)) hex hbc hts hin0 hown hK hP 8 rfl rfl 7 (by decide) (hts _ (List.mem_of_getElem? (i := 3) rfl)) (fun _ h => h) rfl dX0_draw_30 ?_
    refine lv_iconst (v := iI 0) hex hbc dX0_draw_33 rfl ?_
    refine lv_iconst (v := iI 0) hex hbc dX0_draw_34 rfl ?_
    have hi_35 : (0 : Int) ≤ 0 ∧ 0 < (17 : Int) := (by omega)
    refine g_iast (σ := (sc (sc (sc (sc (sc σ 14 f14_20) 15 f15_20) 16 f16_20) 17 f17_20) 21 f21_20)) (f := (σ 18)) (i := 0) (v := 0) (τ := st (sc (sc (sc (sc (sc σ 14 f14_20) 15 f15_20) 16 f16_20) 17 f17_20) 21 f21_20) 18 0 0) hex hbc hK hP hD hS 13 0 rfl rfl (by decide) hi_35 dX0_draw_35 (wx_up_13 hi_35) (fun H locs hP hD hS => ?_)
    obtain ⟨f18_35, ef18_35⟩ : ∃ z : Int → Int, z = ups (σ 18) 0 0 := ⟨_, rfl⟩
    have hP : va_P G vwCl (wx cx a (sc (sc (sc (sc (sc (sc σ 14 f14_20) 15 f15_20) 16 f16_20) 17 f17_20) 18 f18_35) 21 f21_20)) H := by rw [ef18_35]; exact hP
    have hD : va_D (XA a) (wx cx a (sc (sc (sc (sc (sc (sc σ 14 f14_20) 15 f15_20) 16 f16_20) 17 f17_20) 18 f18_35) 21 f21_20)) := by rw [ef18_35]; exact hD
    refine lv_iconst (v := iI 0) hex hbc dX0_draw_36 rfl ?_
    refine lv_istore_n (lv' := [(1, .int (iI 0)), (0, .ref (a 8))]) hex hbc dX0_draw_37 rfl hl (by decide) rfl (fun ls hl => ?_)
    have loop_38 : ∀ (N : Nat) (i1 : Int) (w1 : Int → Int), (0 ≤ i1 ∧ i1 ≤ σ 0 74 ∧ ∀ k, 0 ≤ k → k ≤ i1 → w1 k = stp (σ 0) (σ 0 6) (σ 0 7) k) → (σ 0 74 - i1) < (N : Int) → ∀ (H : Heap) (locs : List Loc) (ls : Array Slot), va_P G vwCl (wx cx a (sc (sc (sc (sc (sc (sc σ 14 f14_20) 15 f15_20) 16 f16_20) 17 f17_20) 18 w1) 21 f21_20)) H → va_D (XA a) (wx cx a (sc (sc (sc (sc (sc (sc σ 14 f14_20) 15 f15_20) 16 f16_20) 17 f17_20) 18 w1) 21 f21_20)) → va_S (XA a) s.heap H locs → lv_has ls 3 [(1, .int (iI i1)), (0, .ref (a 8))] → W p l e (headSpec wsX0_draw ({ frames := 4, cells := 0, slots := 0, locals := 107 })).room s m ([.ref (a 8)] : List Value).toArray below meth c H locs 0 0 (MQ below (va_Qi (fun r u => (∃ v, iI v = r ∧ ((can_ (σ 0) (σ 0 6) (σ 0 7) ∧ v = 1) ∨ (¬ can_ (σ 0) (σ 0 6) (σ 0 7) ∧ v = 0))) ∧ ∃ f14 f15 f16 f17 f18 f21, (can_ (σ 0) (σ 0 6) (σ 0 7) → (∀ i, 0 ≤ i → i ≤ σ 0 7 → f14 i = po (σ 0 6) (σ 0 7) i) ∧ ∀ k, 0 ≤ k → k ≤ σ 0 74 → f18 k = stp (σ 0) (σ 0 6) (σ 0 7) k) ∧ sc (sc (sc (sc (sc (sc σ 14 f14) 15 f15) 16 f16) 17 f17) 18 f18) 21 f21 = u) (gW G (tx cx) (XA a) (wx cx a)) (XA a)) ([.ref (a 8)] : List Value).toArray s 0 0 (XA a)) (F0 m 38 ls []) := by
      intro N
      induction N with
      | zero => intro i1 w1 hinv hlt; exfalso; omega
      | succ N ih_38 =>
        intro i1 w1 ⟨hi0, hi1, hw⟩ hlt_38 H locs ls hP hD hS hl
        refine lv_iload_n hex hbc dX0_draw_38 rfl (lv_at hl 0 rfl) ?_
        refine lv_aload_n hex hbc dX0_draw_39 rfl (lv_at hl 1 rfl) ?_
        refine va_get (v := .ref (a 3)) hex hbc hts hin0 hown hK hP 8 rfl rfl 0 (by decide) (hts _ (List.mem_of_getElem? (i := 1) rfl)) (fun _ h => h) rfl dX0_draw_40 ?_
        refine va_get (v := .int (iI (σ 0 74))) hex hbc hts hin2 hown hK hP 3 rfl rfl 1 (by decide) (hts _ (List.mem_of_getElem? (i := 4) rfl)) (fun _ h => h) rfl dX0_draw_43 ?_
        refine zt_icmp_ge (a := i1) (b := (σ 0 74)) (tgt := 83) hex hbc (by omega) dX0_draw_46 (by decide) (fun c46 => ?_) (fun c46 => ?_)
        · skip
          refine lv_iconst (v := iI 1) hex hbc dX0_draw_83 rfl ?_
          exact g_zret hex hbc hrt hlocks rfl hK hP hD hS ⟨⟨1, rfl, Or.inl ⟨hcan, rfl⟩⟩, f14_20, f15_20, f16_20, f17_20, w1, f21_20, fun _ => ⟨hMr.2.2.1, fun k k0 k1 => hw k k0 (by omega)⟩, rfl⟩ dX0_draw_84
        · skip
          have hsr := stp_rng hI (T := σ 0 6) (G := σ 0 7) (by omega) (by omega) hcan hi0 c46
          have hM : Ms (sc (sc (sc (sc (sc (sc σ 14 f14_20) 15 f15_20) 16 f16_20) 17 f17_20) 18 w1) 21 f21_20) (σ 0 6) (σ 0 7) := hMr
          have hRi : Rw (σ 0) (σ 0 6) (σ 0 7) f17_20 (i1 + 1) := hRr (i1 + 1) (by omega) (by show i1 + 1 ≤ σ 0 74; omega)
          have hSr : ∀ j, max (stp (σ 0) (σ 0 6) (σ 0 7) i1 + 1) (fst_ (σ 0) (σ 0 7) (i1 + 1)) ≤ j → j ≤ lst_ (σ 0) (σ 0 7) (i1 + 1) → -1 ≤ f17_20 ((i1 + 1) * 33 + j) ∧ f17_20 ((i1 + 1) * 33 + j) ≤ 204800000 := fun j j0 j1 => Rw_rng hI (by omega) hTG.2.1 (by omega) hRi (lo := stp (σ 0) (σ 0 6) (σ 0 7) i1 + 1) j0 j1
          refine lv_aload_n hex hbc dX0_draw_49 rfl (lv_at hl 1 rfl) ?_
          refine lv_iload_n hex hbc dX0_draw_50 rfl (lv_at hl 0 rfl) ?_
          refine lv_aload_n hex hbc dX0_draw_51 rfl (lv_at hl 1 rfl) ?_
          refine va_get (v := .ref (a 13)) hex hbc hts hin0 hown hK hP 8 rfl rfl 7 (by decide) (hts _ (List.mem_of_getElem? (i := 3) rfl)) (fun _ h => h) rfl dX0_draw_52 ?_
          refine lv_iload_n hex hbc dX0_draw_55 rfl (lv_at hl 0 rfl) ?_
          refine g_iald (f := w1) (v := (w1 i1)) (i := i1) hex hbc hK hP 13 0 rfl rfl (by decide) (by omega) rfl dX0_draw_56 ?_
          refine zt_nm (a := (w1 i1)) (b := (stp (σ 0) (σ 0 6) (σ 0 7) i1)) (hw i1 hi0 (Int.le_refl _)) ?_
          refine g_calli [.int (iI i1), .int (iI (stp (σ 0) (σ 0 6) (σ 0 7) i1))] ⟨hex, hbc, hml, hown, hts⟩ (mX0_bestNext l G cx a (sc (sc (sc (sc (sc (sc σ 14 f14_20) 15 f15_20) 16 f16_20) 17 f17_20) 18 w1) 21 f21_20) (σ 0 6) (σ 0 7) i1 (stp (σ 0) (σ 0 6) (σ 0 7) i1) (show 0 ≤ i1 ∧ i1 < σ 0 74 from by omega) (show i1 ≤ (stp (σ 0) (σ 0 6) (σ 0 7) i1) ∧ (stp (σ 0) (σ 0 6) (σ 0 7) i1) < (σ 0 7) from by omega) hTG hM (by assumption) hI) (cwV 2 hts gX0_draw_X0_bestNext rfl rfl rfl (by decide +kernel) ⟨Nat.le_of_ble_eq_true rfl, Nat.le_of_ble_eq_true rfl⟩) hK hP hD hS (fun _ h => h) 8 0 rfl rfl rfl rfl hl.1 (Nat.le_of_ble_eq_true rfl) dX0_draw_57 ⟨Nat.zero_le _, Nat.zero_le _⟩ (fun r_57 u_57 H locs hw_57 hP hD hS hz_57 hk_57 => ?_)
          obtain ⟨rfl, b57, rfl, hbn57⟩ := hw_57
          have hbs : b57 = stp (σ 0) (σ 0 6) (σ 0 7) (i1 + 1) := draw_next hI (by omega) hTG.2.1 hcan (by omega) hRi hbn57
          have hb0 := stp_in hI (T := σ 0 6) (G := σ 0 7) (by omega) (by omega) hcan (k := i1 + 1) (by omega)
          refine lv_istore_n (lv' := [(2, .int (iI b57)), (1, .int (iI i1)), (0, .ref (a 8))]) hex hbc dX0_draw_60 rfl hl (by decide) rfl (fun ls hl => ?_)
          refine lv_iload_n hex hbc dX0_draw_61 rfl (lv_at hl 0 rfl) ?_
          refine lv_iconst (v := iI (-1)) hex hbc dX0_draw_62 rfl ?_
          refine zt_icmp_ne (a := b57) (b := (-1)) (tgt := 68) hex hbc (by omega) dX0_draw_63 (by decide) (fun c63 => ?_) (fun c63 => ?_)
          · skip
            refine lv_aload_n hex hbc dX0_draw_68 rfl (lv_at hl 2 rfl) ?_
            refine va_get (v := .ref (a 13)) hex hbc hts hin0 hown hK hP 8 rfl rfl 7 (by decide) (hts _ (List.mem_of_getElem? (i := 3) rfl)) (fun _ h => h) rfl dX0_draw_69 ?_
            refine lv_iload_n hex hbc dX0_draw_72 rfl (lv_at hl 1 rfl) ?_
            refine lv_iconst (v := iI 1) hex hbc dX0_draw_73 rfl ?_
            refine zt_iadd hex hbc dX0_draw_74 ?_
            refine lv_iload_n hex hbc dX0_draw_75 rfl (lv_at hl 0 rfl) ?_
            have hi_76 : (0 : Int) ≤ (i1 + 1) ∧ (i1 + 1) < (17 : Int) := (by omega)
            refine g_iast (σ := (sc (sc (sc (sc (sc (sc σ 14 f14_20) 15 f15_20) 16 f16_20) 17 f17_20) 18 w1) 21 f21_20)) (f := w1) (i := (i1 + 1)) (v := b57) (τ := st (sc (sc (sc (sc (sc (sc σ 14 f14_20) 15 f15_20) 16 f16_20) 17 f17_20) 18 w1) 21 f21_20) 18 (i1 + 1) b57) hex hbc hK hP hD hS 13 0 rfl rfl (by decide) hi_76 dX0_draw_76 (wx_up_13 hi_76) (fun H locs hP hD hS => ?_)
            obtain ⟨f18_76, ef18_76⟩ : ∃ z : Int → Int, z = ups w1 (i1 + 1) b57 := ⟨_, rfl⟩
            have hP : va_P G vwCl (wx cx a (sc (sc (sc (sc (sc (sc σ 14 f14_20) 15 f15_20) 16 f16_20) 17 f17_20) 18 f18_76) 21 f21_20)) H := by rw [ef18_76]; exact hP
            have hD : va_D (XA a) (wx cx a (sc (sc (sc (sc (sc (sc σ 14 f14_20) 15 f15_20) 16 f16_20) 17 f17_20) 18 f18_76) 21 f21_20)) := by rw [ef18_76]; exact hD
            refine lv_iinc (v := iI (i1 + 1)) (lv' := [(1, .int (iI (i1 + 1))), (2, .int (iI b57)), (0, .ref (a 8))]) hex hbc dX0_draw_77 hl (k := 1) rfl (iI_add _ _) (by decide) rfl (fun ls hl => ?_)
            refine lv_goto (tgt := 38) hex hbc dX0_draw_80 (by decide) ?_
            exact ih_38 (i1 + 1) f18_76 ⟨by omega, by omega, fun k k0 k1 => if hq : k = i1 + 1 then (by rw [ef18_76, hq, ups_s]; exact hbs) else (by rw [ef18_76, ups_n _ _ hq]; exact hw k k0 (by omega))⟩ (by omega) _ _ _ hP hD hS (lv_sub hl [0, 2] rfl)
          · skip
            exfalso; omega
    exact loop_38 _ 0 f18_35 ⟨by omega, by omega, fun k k0 k1 => by rw [show k = 0 by omega, ef18_35, ups_s]; exact (stp_0 _ _ (by omega)).symm⟩ (mz_lt _) _ _ _ hP hD hS (lv_sub hl [0, 1] rfl)
  · skip
    have hcan : ¬ can_ (σ 0) (σ 0 6) (σ 0 7) := fun q => q (hcv.2.2.1.mp c24)
    refine lv_iconst (v := iI 0) hex hbc dX0_draw_27 rfl ?_
    exact g_zret hex hbc hrt hlocks rfl hK hP hD hS ⟨⟨0, rfl, Or.inr ⟨hcan, rfl⟩⟩, f14_20, f15_20, f16_20, f17_20, σ 18, f21_20, fun q => absurd q hcan, by rw [sc_self5]⟩ dX0_draw_28
theorem iX0_budgetOf_X0 : ∀ w ∈ wsX00, w ∈ wsX0_budgetOf := fun _ h => List.mem_cons_of_mem _ (List.mem_append_right _ h)
set_option maxHeartbeats 4000000 in
set_option maxRecDepth 100000 in
theorem mX0_budgetOf (l : Launch) (G : va_G) (cx a : Nat → Nat) (σ : Nat → Int → Int) (T0 : Int) (G0 : Int) (x : Int) (hx : 0 ≤ x ∧ x < σ 0 74) (hT : 1 ≤ T0 ∧ T0 ≤ 200000) (hG : 1 ≤ G0 ∧ G0 ≤ 32) (hc : can_ (σ 0) T0 G0) (hp : ∀ i, 0 ≤ i → i ≤ G0 → σ 14 i = po T0 G0 i) (hs : ∀ k, 0 ≤ k → k ≤ σ 0 74 → σ 18 k = stp (σ 0) T0 G0 k) (hI : Inv (σ 0)) : Met l yX0_budgetOf wsX0_budgetOf ({ frames := 0, cells := 0, slots := 0, locals := 0 }) (va_Pc [.ref (a 8), .int (iI x)] (gW G (tx cx) (XA a) (wx cx a) σ)) (va_Qi (fun r u => σ = u ∧ iI (gbu (σ 0) T0 G0 x) = r) (gW G (tx cx) (XA a) (wx cx a)) (XA a)) 0 0 (XA a) := by
  refine Met.ofW (cc := cX0_budgetOf) (maxL := 2) (ret := some .int) (by decide) rfl ?_
  intro p e s m args below meth c s₁ B hml hv
  obtain ⟨rfl, hP, hK, hD⟩ := hv
  have hex := B.exec
  have hbc := B.bytes
  have hrt := B.returns
  have hts := atoms_spec (ws := wsX0_budgetOf) B.pre
  have hown : s.vm.findClass RX0 = some m.cls := findClass_of_methodNamed B.named
  have hlocks := B.notSynchronized
  have hS : va_S (XA a) s.heap s.heap [] := va_S.rf
  have hin0 := iX0_budgetOf_X0
  have hl := lv_entry ([.ref (a 8), .int (iI x)]) (n := 2) (Nat.le_of_ble_eq_true rfl)
  rw [lg_entry_eq]
  generalize (lg_sl ([.ref (a 8), .int (iI x)]) ++ List.replicate (2 - (lg_sl ([.ref (a 8), .int (iI x)])).length) Slot.unset).toArray = ls at hl ⊢
  have hl : lv_has ls 2 [(0, .ref (a 8)), (1, .int (iI x))] := hl
  obtain ⟨hB, hEn, hMk, hAs, hPm⟩ := id hI
  have ha := stp_in hI (by omega) hG.1 hc hx.1
  have hb := stp_in hI (by omega) hG.1 hc (k := x + 1) (by omega)
  refine lv_aload_n hex hbc dX0_budgetOf_0 rfl (lv_at hl 0 rfl) ?_
  refine va_get (v := .ref (a 9)) hex hbc hts hin0 hown hK hP 8 rfl rfl 3 (by decide) (hts _ (List.mem_of_getElem? (i := 1) rfl)) (fun _ h => h) rfl dX0_budgetOf_1 ?_
  refine lv_aload_n hex hbc dX0_budgetOf_4 rfl (lv_at hl 0 rfl) ?_
  refine va_get (v := .ref (a 13)) hex hbc hts hin0 hown hK hP 8 rfl rfl 7 (by decide) (hts _ (List.mem_of_getElem? (i := 2) rfl)) (fun _ h => h) rfl dX0_budgetOf_5 ?_
  refine lv_iload_n hex hbc dX0_budgetOf_8 rfl (lv_at hl 1 rfl) ?_
  refine lv_iconst (v := iI 1) hex hbc dX0_budgetOf_9 rfl ?_
  refine zt_iadd hex hbc dX0_budgetOf_10 ?_
  refine g_iald (f := (σ 18)) (v := (σ 18 (x + 1))) (i := (x + 1)) hex hbc hK hP 13 0 rfl rfl (by decide) (by omega) rfl dX0_budgetOf_11 ?_
  refine zt_nm (a := (σ 18 (x + 1))) (b := (stp (σ 0) T0 G0 (x + 1))) (hs (x + 1) (by omega) (by omega)) ?_
  refine g_iald (f := (σ 14)) (v := (σ 14 (stp (σ 0) T0 G0 (x + 1)))) (i := (stp (σ 0) T0 G0 (x + 1))) hex hbc hK hP 9 0 rfl rfl (by decide) (by omega) rfl dX0_budgetOf_12 ?_
  refine zt_nm (a := (σ 14 (stp (σ 0) T0 G0 (x + 1)))) (b := (po T0 G0 (stp (σ 0) T0 G0 (x + 1)))) (hp _ hb.1 hb.2) ?_
  refine lv_aload_n hex hbc dX0_budgetOf_13 rfl (lv_at hl 0 rfl) ?_
  refine va_get (v := .ref (a 9)) hex hbc hts hin0 hown hK hP 8 rfl rfl 3 (by decide) (hts _ (List.mem_of_getElem? (i := 1) rfl)) (fun _ h => h) rfl dX0_budgetOf_14 ?_
  refine lv_aload_n hex hbc dX0_budgetOf_17 rfl (lv_at hl 0 rfl) ?_
  refine va_get (v := .ref (a 13)) hex hbc hts hin0 hown hK hP 8 rfl rfl 7 (by decide) (hts _ (List.mem_of_getElem? (i := 2) rfl)) (fun _ h => h) rfl dX0_budgetOf_18 ?_
  refine lv_iload_n hex hbc dX0_budgetOf_21 rfl (lv_at hl 1 rfl) ?_
  refine g_iald (f := (σ 18)) (v := (σ 18 x)) (i := x) hex hbc hK hP 13 0 rfl rfl (by decide) (by omega) rfl dX0_budgetOf_22 ?_
  refine zt_nm (a := (σ 18 x)) (b := (stp (σ 0) T0 G0 x)) (hs x hx.1 (by omega)) ?_
  refine g_iald (f := (σ 14)) (v := (σ 14 (stp (σ 0) T0 G0 x))) (i := (stp (σ 0) T0 G0 x)) hex hbc hK hP 9 0 rfl rfl (by decide) (by omega) rfl dX0_budgetOf_23 ?_
  refine zt_nm (a := (σ 14 (stp (σ 0) T0 G0 x))) (b := (po T0 G0 (stp (σ 0) T0 G0 x))) (hp _ ha.1 ha.2) ?_
  refine zt_isub hex hbc dX0_budgetOf_24 ?_
  exact g_iret hex hbc hrt hlocks hK hP hD hS ⟨rfl, rfl⟩ dX0_budgetOf_25
set_option maxHeartbeats 4000000 in
set_option maxRecDepth 100000 in
theorem mX0_canLay (l : Launch) (G : va_G) (cx a : Nat → Nat) (σ : Nat → Int → Int)  (x1 : Int) (x2 : Int) (h1 : 1 ≤ x1 ∧ x1 ≤ 200000) (h2 : 1 ≤ x2 ∧ x2 ≤ 32) (hI : Inv (σ 0)) : Met l yX0_canLay wsX0_canLay ({ frames := 4, cells := 0, slots := 0, locals := 107 }) (va_Pc [.ref (a 8), .int (iI x1), .int (iI x2)] (gW G (tx cx) (XA a) (wx cx a) σ)) (va_Qi (fun r u => (∃ v, iI v = r ∧ ((can_ (σ 0) x1 x2 ∧ v = 1) ∨ (¬ can_ (σ 0) x1 x2 ∧ v = 0))) ∧ ∃ f14 f15 f16 f17 f21, sc (sc (sc (sc (sc σ 14 f14) 15 f15) 16 f16) 17 f17) 21 f21 = u) (gW G (tx cx) (XA a) (wx cx a)) (XA a)) 0 0 (XA a) := by
  refine Met.ofW (cc := cX0_canLay) (maxL := 3) (ret := some .boolean) (by decide) rfl ?_
  intro p e s m args below meth c s₁ B hml hv
  obtain ⟨rfl, hP, hK, hD⟩ := hv
  have hex := B.exec
  have hbc := B.bytes
  have hrt := B.returns
  have hts := atoms_spec (ws := wsX0_canLay) B.pre
  have hown : s.vm.findClass RX0 = some m.cls := findClass_of_methodNamed B.named
  have hlocks := B.notSynchronized
  have hS : va_S (XA a) s.heap s.heap [] := va_S.rf
  have hl := lv_entry ([.ref (a 8), .int (iI x1), .int (iI x2)]) (n := 3) (Nat.le_of_ble_eq_true rfl)
  rw [lg_entry_eq]
  generalize (lg_sl ([.ref (a 8), .int (iI x1), .int (iI x2)]) ++ List.replicate (3 - (lg_sl ([.ref (a 8), .int (iI x1), .int (iI x2)])).length) Slot.unset).toArray = ls at hl ⊢
  have hl : lv_has ls 3 [(0, .ref (a 8)), (1, .int (iI x1)), (2, .int (iI x2))] := hl
  obtain ⟨hB, hEn, hMk, hAs, hPm⟩ := id hI
  have hcv := cv_in hI (T := x1) (G := x2) (d := (σ 0 74 - 1).toNat) (s := 0) (by omega) (by omega) (by omega) (by omega) (by omega)
  refine lv_aload_n hex hbc dX0_canLay_0 rfl (lv_at hl 0 rfl) ?_
  refine lv_iload_n hex hbc dX0_canLay_1 rfl (lv_at hl 1 rfl) ?_
  refine lv_iload_n hex hbc dX0_canLay_2 rfl (lv_at hl 2 rfl) ?_
  refine g_calli [.int (iI x1), .int (iI x2)] ⟨hex, hbc, hml, hown, hts⟩ (mX0_leastSum l G cx a σ x1 x2 (by omega) (by omega) hI) (cwV 2 hts gX0_canLay_X0_leastSum rfl rfl rfl (by decide +kernel) ⟨Nat.le_of_ble_eq_true rfl, Nat.le_of_ble_eq_true rfl⟩) hK hP hD hS (fun _ h => h) 8 0 rfl rfl rfl rfl hl.1 (Nat.le_of_ble_eq_true rfl) dX0_canLay_3 ⟨Nat.zero_le _, Nat.zero_le _⟩ (fun r_3 u_3 H locs hw_3 hP hD hS hz_3 hk_3 => ?_)
  obtain ⟨f14_3, f15_3, f16_3, f17_3, f21_3, rfl, hrd_3, rfl⟩ := hw_3
  have hP : va_P G vwCl (wx cx a (sc (sc (sc (sc (sc σ 14 f14_3) 15 f15_3) 16 f16_3) 17 f17_3) 21 f21_3)) H := hP
  have hD : va_D (XA a) (wx cx a (sc (sc (sc (sc (sc σ 14 f14_3) 15 f15_3) 16 f16_3) 17 f17_3) 21 f21_3)) := hD
  refine lv_iconst (v := iI (-1)) hex hbc dX0_canLay_6 rfl ?_
  refine zt_icmp_eq (a := (cv_ (bst (σ 0) x1 x2 (σ 0 74 - 1).toNat 0))) (b := (-1)) (tgt := 14) hex hbc (by omega) dX0_canLay_7 (by decide) (fun c7 => ?_) (fun c7 => ?_)
  · skip
    refine lv_iconst (v := iI 0) hex hbc dX0_canLay_14 rfl ?_
    exact g_zret hex hbc hrt hlocks rfl hK hP hD hS ⟨⟨0, rfl, Or.inr ⟨fun q => q (hcv.2.2.1.mp c7), rfl⟩⟩, f14_3, f15_3, f16_3, f17_3, f21_3, rfl⟩ dX0_canLay_15
  · skip
    refine lv_iconst (v := iI 1) hex hbc dX0_canLay_10 rfl ?_
    refine lv_goto (tgt := 15) hex hbc dX0_canLay_11 (by decide) ?_
    exact g_zret hex hbc hrt hlocks rfl hK hP hD hS ⟨⟨1, rfl, Or.inl ⟨fun q => c7 (by rw [q]; rfl), rfl⟩⟩, f14_3, f15_3, f16_3, f17_3, f21_3, rfl⟩ dX0_canLay_15
