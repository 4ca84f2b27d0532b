/-! the reference: its grid (rows laid by wip/gen) -/
theorem iX5_bestFrom_X5 : ∀ w ∈ wsX50, w ∈ wsX5_bestFrom := fun _ h => List.mem_cons_of_mem _ (List.mem_append_right _ h)
set_option maxHeartbeats 4000000 in
set_option maxRecDepth 100000 in
theorem mX5_bestFrom (l : Launch) (G : va_G) (cx a : Nat → Nat) (σ : Nat → Int → Int)  (x1 : Int) (x2 : Int) (x3 : Int) (x4 : Int) (h1 : 0 ≤ x1 ∧ x1 < σ 0 74) (h2 : 0 ≤ x2 ∧ x2 < x4) (h3 : 1 ≤ x3 ∧ x3 ≤ 200000) (h4 : 1 ≤ x4 ∧ x4 ≤ 32) (hrow : x1 + 1 < σ 0 74 → RowM (σ 0) x3 x4 (σ 7) (x1 + 1)) (hI : Inv (σ 0)) : Met l yX5_bestFrom wsX5_bestFrom ({ frames := 3, cells := 0, slots := 0, locals := 64 }) (va_Pc [.ref (a 0), .int (iI x1), .int (iI x2), .int (iI x3), .int (iI x4)] (gW G (tm cx) (MA a) (wm cx a) σ)) (va_Ql (fun r u => σ = u ∧ lI (bst (σ 0) x3 x4 (σ 0 74 - 1 - x1).toNat x2) = r) (gW G (tm cx) (MA a) (wm cx a)) (MA a)) 0 0 (MA a) := by
  refine Met.ofW (cc := cX5_bestFrom) (maxL := 12) (ret := some .long) (by decide) rfl ?_
  intro p e s m args below meth c s₁ B hml hv
  obtain ⟨rfl, hP, hK, hD⟩ := hv
  have hex := B.exec
  have hbc := B.bytes
  have hrt := B.returns
  have hts := atoms_spec (ws := wsX5_bestFrom) B.pre
  have hown : s.vm.findClass RX5 = some m.cls := findClass_of_methodNamed B.named
  have hlocks := B.notSynchronized
  have hS : va_S (MA a) s.heap s.heap [] := va_S.rf
  have hin5 := iX5_bestFrom_X5
  have hl := lv_entry ([.ref (a 0), .int (iI x1), .int (iI x2), .int (iI x3), .int (iI x4)]) (n := 12) (Nat.le_of_ble_eq_true rfl)
  rw [lg_entry_eq]
  generalize (lg_sl ([.ref (a 0), .int (iI x1), .int (iI x2), .int (iI x3), .int (iI x4)]) ++ List.replicate (12 - (lg_sl ([.ref (a 0), .int (iI x1), .int (iI x2), .int (iI x3), .int (iI x4)])).length) Slot.unset).toArray = ls at hl ⊢
  have hl : lv_has ls 12 [(0, .ref (a 0)), (1, .int (iI x1)), (2, .int (iI x2)), (3, .int (iI x3)), (4, .int (iI x4))] := hl
  obtain ⟨hB, hEn, hMk, hAs, hPm⟩ := id hI
  have hFAR : FAR = 1152921504606846976 := rfl
  have hp2 := po_in (T := x3) (G := x4) (i := x2) (by omega) h4.1 (by omega)
  have hof := of_in hI (T := x3) (G := x4) (m := x1) (s := x2) (by omega) h4.1 h1.1 (by omega)
  refine lv_iload_n hex hbc dX5_bestFrom_0 rfl (lv_at hl 2 rfl) ?_
  refine lv_iload_n hex hbc dX5_bestFrom_1 rfl (lv_at hl 3 rfl) ?_
  refine lv_iload hex hbc dX5_bestFrom_2 (lv_at hl 4 rfl) ?_
  refine g_callS [.int (iI x2), .int (iI x3), .int (iI x4)] ⟨hex, hbc, hml, hown, hts⟩ (mX5_sampleAt l x2 x3 x4 (by omega) (by omega) (by omega)) (va_cwS 3 hts gX5_bestFrom_X5_sampleAt rfl rfl rfl (by decide +kernel) ⟨Nat.le_of_ble_eq_true rfl, Nat.le_of_ble_eq_true rfl⟩) hP hS rfl rfl hl.1 (Nat.le_of_ble_eq_true rfl) dX5_bestFrom_4 ⟨Nat.zero_le _, Nat.zero_le _⟩ (fun r_4 H locs hw_4 hP hS => ?_)
  obtain rfl := hw_4
  refine lv_istore (lv' := [(5, .int (iI (po x3 x4 x2))), (0, .ref (a 0)), (1, .int (iI x1)), (2, .int (iI x2)), (3, .int (iI x3)), (4, .int (iI x4))]) hex hbc dX5_bestFrom_7 hl (by decide) rfl (fun ls hl => ?_)
  refine lv_ldc2 (v := lI 1152921504606846976) hex hbc hown (hts _ (List.mem_of_getElem? (i := 1) rfl)) dX5_bestFrom_9 ?_
  refine lv_lstore (lv' := [(6, .long (lI 1152921504606846976)), (5, .int (iI (po x3 x4 x2))), (0, .ref (a 0)), (1, .int (iI x1)), (2, .int (iI x2)), (3, .int (iI x3)), (4, .int (iI x4))]) hex hbc dX5_bestFrom_12 hl (by decide) rfl (fun ls hl => ?_)
  refine lv_iload_n hex hbc dX5_bestFrom_14 rfl (lv_at hl 3 rfl) ?_
  refine lv_aload_n hex hbc dX5_bestFrom_15 rfl (lv_at hl 2 rfl) ?_
  refine va_get (v := .ref (a 1)) hex hbc hts hin5 hown hK hP 0 rfl rfl 0 (by decide) (hts _ (List.mem_of_getElem? (i := 2) rfl)) (fun _ h => h) rfl dX5_bestFrom_16 ?_
  refine lv_bipush (v := iI 74) hex hbc dX5_bestFrom_19 (by decide) ?_
  refine g_iald (f := (σ 0)) (v := (σ 0 74)) (i := 74) hex hbc hK hP 1 0 rfl rfl (by decide) (by omega) rfl dX5_bestFrom_21 ?_
  refine lv_iconst (v := iI 1) hex hbc dX5_bestFrom_22 rfl ?_
  refine zt_isub hex hbc dX5_bestFrom_23 ?_
  refine zt_icmp_ne (a := x1) (b := ((σ 0 74) - 1)) (tgt := 51) hex hbc (by omega) dX5_bestFrom_24 (by decide) (fun c24 => ?_) (fun c24 => ?_)
  · skip
    have hrw := hrow (by omega)
    refine lv_iload_n hex hbc dX5_bestFrom_51 rfl (lv_at hl 4 rfl) ?_
    refine lv_iconst (v := iI 1) hex hbc dX5_bestFrom_52 rfl ?_
    refine zt_iadd hex hbc dX5_bestFrom_53 ?_
    refine lv_istore (lv' := [(8, .int (iI (x2 + 1))), (6, .long (lI 1152921504606846976)), (5, .int (iI (po x3 x4 x2))), (0, .ref (a 0)), (1, .int (iI x1)), (2, .int (iI x2)), (3, .int (iI x3)), (4, .int (iI x4))]) hex hbc dX5_bestFrom_54 hl (by decide) rfl (fun ls hl => ?_)
    have loop_56 : ∀ (N : Nat) (i1 : Int) (s1 : Int), (x2 + 1 ≤ i1 ∧ i1 ≤ x4 ∧ 0 ≤ s1 ∧ s1 ≤ FAR ∧ s1 = mnf (fun j => if ln (σ 0) x1 * σ 0 4 / 100 ≤ po x3 x4 j - po x3 x4 x2 ∧ po x3 x4 j - po x3 x4 x2 ≤ ln (σ 0) x1 * σ 0 5 / 100 then bst (σ 0) x3 x4 (σ 0 74 - 2 - x1).toNat j else FAR) (x2 + 1) (i1 - (x2 + 1)).toNat) → (x4 - i1) < (N : Int) → ∀ (H : Heap) (locs : List Loc) (ls : Array Slot), va_P G vwCl (wm cx a σ) H → va_D (MA a) (wm cx a σ) → va_S (MA a) s.heap H locs → lv_has ls 12 [(8, .int (iI i1)), (6, .long (lI s1)), (5, .int (iI (po x3 x4 x2))), (0, .ref (a 0)), (1, .int (iI x1)), (2, .int (iI x2)), (3, .int (iI x3)), (4, .int (iI x4))] → W p l e (headSpec wsX5_bestFrom ({ frames := 3, cells := 0, slots := 0, locals := 64 })).room s m ([.ref (a 0), .int (iI x1), .int (iI x2), .int (iI x3), .int (iI x4)] : List Value).toArray below meth c H locs 0 0 (MQ below (va_Ql (fun r u => σ = u ∧ lI (bst (σ 0) x3 x4 (σ 0 74 - 1 - x1).toNat x2) = r) (gW G (tm cx) (MA a) (wm cx a)) (MA a)) ([.ref (a 0), .int (iI x1), .int (iI x2), .int (iI x3), .int (iI x4)] : List Value).toArray s 0 0 (MA a)) (F0 m 56 ls []) := by
      intro N
      induction N with
      | zero => intro i1 s1 hinv hlt; exfalso; omega
      | succ N ih_56 =>
        intro i1 s1 ⟨hi0, hi1, hs0, hs1, hs⟩ hlt_56 H locs ls hP hD hS hl
        refine lv_iload hex hbc dX5_bestFrom_56 (lv_at hl 0 rfl) ?_
        refine lv_iload hex hbc dX5_bestFrom_58 (lv_at hl 7 rfl) ?_
        refine zt_icmp_ge (a := i1) (b := x4) (tgt := 125) hex hbc (by omega) dX5_bestFrom_60 (by decide) (fun c60 => ?_) (fun c60 => ?_)
        · skip
          have hraw : s1 = raw_ (σ 0) x3 x4 x1 (bst (σ 0) x3 x4 (σ 0 74 - 2 - x1).toNat) x2 := by rw [hs, show (i1 - (x2 + 1)).toNat = (x4 - 1 - x2).toNat by omega]; rfl
          have hbm := bst_mid (w := σ 0) (T := x3) (G := x4) (m := x1) (by omega) x2
          rw [← hraw] at hbm
          unfold own_ at hbm
          refine lv_lload hex hbc dX5_bestFrom_125 (lv_at hl 1 rfl) ?_
          refine lv_ldc2 (v := lI 1152921504606846976) hex hbc hown (hts _ (List.mem_of_getElem? (i := 1) rfl)) dX5_bestFrom_127 ?_
          refine zt_lcmp (a := s1) (b := 1152921504606846976) hex hbc (by omega) dX5_bestFrom_130 (fun dc130 hdc130 => ?_)
          refine zt_if_ne (a := dc130) (tgt := 140) hex hbc (by omega) dX5_bestFrom_131 (by decide) (fun c131 => ?_) (fun c131 => ?_)
          · skip
            refine lv_lload hex hbc dX5_bestFrom_140 (lv_at hl 1 rfl) ?_
            refine lv_aload_n hex hbc dX5_bestFrom_142 rfl (lv_at hl 3 rfl) ?_
            refine lv_iload_n hex hbc dX5_bestFrom_143 rfl (lv_at hl 4 rfl) ?_
            refine lv_iload_n hex hbc dX5_bestFrom_144 rfl (lv_at hl 5 rfl) ?_
            refine lv_iload_n hex hbc dX5_bestFrom_145 rfl (lv_at hl 6 rfl) ?_
            refine lv_iload hex hbc dX5_bestFrom_146 (lv_at hl 7 rfl) ?_
            refine g_calll [.int (iI x1), .int (iI x2), .int (iI x3), .int (iI x4)] ⟨hex, hbc, hml, hown, hts⟩ (mX5_off l G cx a σ x1 x2 x3 x4 (by omega) (by omega) (by omega) (by omega) hI) (cwV 4 hts gX5_bestFrom_X5_off rfl rfl rfl (by decide +kernel) ⟨Nat.le_of_ble_eq_true rfl, Nat.le_of_ble_eq_true rfl⟩) hK hP hD hS (fun _ h => h) 0 5 rfl rfl rfl rfl hl.1 (Nat.le_of_ble_eq_true rfl) dX5_bestFrom_148 ⟨Nat.zero_le _, Nat.zero_le _⟩ (fun r_148 u_148 H locs hw_148 hP hD hS hz_148 hk_148 => ?_)
            obtain ⟨rfl, rfl⟩ := hw_148
            refine zt_ladd hex hbc dX5_bestFrom_151 ?_
            exact g_lret hex hbc hrt hlocks hK hP hD hS ⟨rfl, congrArg lI (by first | (rw [hbm, if_pos (by omega)]; omega) | (rw [hbm, if_neg (by omega)]) | (rw [hbe]; done) | (rw [hbe]; omega) | (exfalso; omega))⟩ dX5_bestFrom_152
          · skip
            refine lv_ldc2 (v := lI 1152921504606846976) hex hbc hown (hts _ (List.mem_of_getElem? (i := 1) rfl)) dX5_bestFrom_134 ?_
            refine lv_goto (tgt := 152) hex hbc dX5_bestFrom_137 (by decide) ?_
            exact g_lret hex hbc hrt hlocks hK hP hD hS ⟨rfl, congrArg lI (by first | (rw [hbm, if_pos (by omega)]; omega) | (rw [hbm, if_neg (by omega)]) | (rw [hbe]; done) | (rw [hbe]; omega) | (exfalso; omega))⟩ dX5_bestFrom_152
        · skip
          have hpi := po_in (T := x3) (G := x4) (i := i1) (by omega) h4.1 (by omega)
          have hbi := bst_rng hI (T := x3) (G := x4) (d := (σ 0 74 - 2 - x1).toNat) (s := i1) (by omega) h4.1 (by omega) (by omega) (by omega)
          refine lv_aload_n hex hbc dX5_bestFrom_63 rfl (lv_at hl 3 rfl) ?_
          refine lv_iload_n hex hbc dX5_bestFrom_64 rfl (lv_at hl 4 rfl) ?_
          refine lv_iload hex hbc dX5_bestFrom_65 (lv_at hl 0 rfl) ?_
          refine lv_iload_n hex hbc dX5_bestFrom_67 rfl (lv_at hl 6 rfl) ?_
          refine lv_iload hex hbc dX5_bestFrom_68 (lv_at hl 7 rfl) ?_
          refine g_callS [.int (iI i1), .int (iI x3), .int (iI x4)] ⟨hex, hbc, hml, hown, hts⟩ (mX5_sampleAt l i1 x3 x4 (by omega) (by omega) (by omega)) (va_cwS 3 hts gX5_bestFrom_X5_sampleAt rfl rfl rfl (by decide +kernel) ⟨Nat.le_of_ble_eq_true rfl, Nat.le_of_ble_eq_true rfl⟩) hP hS rfl rfl hl.1 (Nat.le_of_ble_eq_true rfl) dX5_bestFrom_70 ⟨Nat.zero_le _, Nat.zero_le _⟩ (fun r_70 H locs hw_70 hP hS => ?_)
          obtain rfl := hw_70
          refine lv_iload hex hbc dX5_bestFrom_73 (lv_at hl 2 rfl) ?_
          refine zt_isub hex hbc dX5_bestFrom_75 ?_
          refine g_calli [.int (iI x1), .int (iI ((po x3 x4 i1) - (po x3 x4 x2)))] ⟨hex, hbc, hml, hown, hts⟩ (mX5_fits l G cx a σ x1 ((po x3 x4 i1) - (po x3 x4 x2)) (by omega) (by omega) hI) (cwV 2 hts gX5_bestFrom_X5_fits rfl rfl rfl (by decide +kernel) ⟨Nat.le_of_ble_eq_true rfl, Nat.le_of_ble_eq_true rfl⟩) hK hP hD hS (fun _ h => h) 0 5 rfl rfl rfl rfl hl.1 (Nat.le_of_ble_eq_true rfl) dX5_bestFrom_76 ⟨Nat.zero_le _, Nat.zero_le _⟩ (fun r_76 u_76 H locs hw_76 hP hD hS hz_76 hk_76 => ?_)
          obtain ⟨rfl, vb76, rfl, hv76⟩ := hw_76
          refine lv_istore (lv' := [(9, .int (iI vb76)), (8, .int (iI i1)), (6, .long (lI s1)), (5, .int (iI (po x3 x4 x2))), (0, .ref (a 0)), (1, .int (iI x1)), (2, .int (iI x2)), (3, .int (iI x3)), (4, .int (iI x4))]) hex hbc dX5_bestFrom_79 hl (by decide) rfl (fun ls hl => ?_)
          refine lv_aload_n hex hbc dX5_bestFrom_81 rfl (lv_at hl 4 rfl) ?_
          refine va_get (v := .ref (a 7)) hex hbc hts hin5 hown hK hP 0 rfl rfl 8 (by decide) (hts _ (List.mem_of_getElem? (i := 3) rfl)) (fun _ h => h) rfl dX5_bestFrom_82 ?_
          refine lv_bipush (v := iI 33) hex hbc dX5_bestFrom_85 (by decide) ?_
          refine lv_iload_n hex hbc dX5_bestFrom_87 rfl (lv_at hl 5 rfl) ?_
          refine lv_iconst (v := iI 1) hex hbc dX5_bestFrom_88 rfl ?_
          refine zt_iadd hex hbc dX5_bestFrom_89 ?_
          refine zt_imul hex hbc dX5_bestFrom_90 ?_
          refine lv_iload hex hbc dX5_bestFrom_91 (lv_at hl 1 rfl) ?_
          refine zt_iadd hex hbc dX5_bestFrom_93 ?_
          refine g_lald (f := (σ 7)) (v := (σ 7 ((33 * (x1 + 1)) + i1))) (i := ((33 * (x1 + 1)) + i1)) hex hbc hK hP 7 1 rfl rfl (by decide) (by omega) rfl dX5_bestFrom_94 ?_
          refine zt_nml (a := (σ 7 ((33 * (x1 + 1)) + i1))) (b := (bst (σ 0) x3 x4 (σ 0 74 - 2 - x1).toNat i1)) (by rw [hrw i1 (by omega) (by omega) (fun h => by omega)]; congr 1; omega) ?_
          refine lv_lstore (lv' := [(10, .long (lI (bst (σ 0) x3 x4 (σ 0 74 - 2 - x1).toNat i1))), (9, .int (iI vb76)), (8, .int (iI i1)), (6, .long (lI s1)), (5, .int (iI (po x3 x4 x2))), (0, .ref (a 0)), (1, .int (iI x1)), (2, .int (iI x2)), (3, .int (iI x3)), (4, .int (iI x4))]) hex hbc dX5_bestFrom_95 hl (by decide) rfl (fun ls hl => ?_)
          refine lv_iload hex hbc dX5_bestFrom_97 (lv_at hl 1 rfl) ?_
          refine zt_ifb_eq (P := (fits_ (σ 0) x1 ((po x3 x4 i1) - (po x3 x4 x2)))) (tgt := 115) hex hbc hv76 dX5_bestFrom_99 (by decide) (fun c99 => ?_) (fun c99 => ?_)
          · skip
            refine lv_lload hex hbc dX5_bestFrom_115 (lv_at hl 3 rfl) ?_
            refine lv_lstore (lv' := [(6, .long (lI s1)), (10, .long (lI (bst (σ 0) x3 x4 (σ 0 74 - 2 - x1).toNat i1))), (9, .int (iI vb76)), (8, .int (iI i1)), (5, .int (iI (po x3 x4 x2))), (0, .ref (a 0)), (1, .int (iI x1)), (2, .int (iI x2)), (3, .int (iI x3)), (4, .int (iI x4))]) hex hbc dX5_bestFrom_117 hl (by decide) rfl (fun ls hl => ?_)
            refine lv_iinc (v := iI (i1 + 1)) (lv' := [(8, .int (iI (i1 + 1))), (6, .long (lI s1)), (10, .long (lI (bst (σ 0) x3 x4 (σ 0 74 - 2 - x1).toNat i1))), (9, .int (iI vb76)), (5, .int (iI (po x3 x4 x2))), (0, .ref (a 0)), (1, .int (iI x1)), (2, .int (iI x2)), (3, .int (iI x3)), (4, .int (iI x4))]) hex hbc dX5_bestFrom_119 hl (k := 3) rfl (iI_add _ _) (by decide) rfl (fun ls hl => ?_)
            refine lv_goto (tgt := 56) hex hbc dX5_bestFrom_122 (by decide) ?_
            exact ih_56 (i1 + 1) s1 ⟨by omega, by omega, by omega, by omega, by rw [mnf_at hi0, ← hs]; first | (rw [if_pos (show ln (σ 0) x1 * σ 0 4 / 100 ≤ po x3 x4 i1 - po x3 x4 x2 ∧ po x3 x4 i1 - po x3 x4 x2 ≤ ln (σ 0) x1 * σ 0 5 / 100 from c99)]; first | exact (if_pos (by omega)).symm | exact (if_neg (by omega)).symm) | (rw [if_neg (show ¬ (ln (σ 0) x1 * σ 0 4 / 100 ≤ po x3 x4 i1 - po x3 x4 x2 ∧ po x3 x4 i1 - po x3 x4 x2 ≤ ln (σ 0) x1 * σ 0 5 / 100) from c99)]; exact (if_neg (by omega)).symm)⟩ (by omega) _ _ _ hP hD hS (lv_sub hl [0, 1, 4, 5, 6, 7, 8, 9] rfl)
          · skip
            refine lv_lload hex hbc dX5_bestFrom_102 (lv_at hl 0 rfl) ?_
            refine lv_lload hex hbc dX5_bestFrom_104 (lv_at hl 3 rfl) ?_
            refine zt_lcmp (a := (bst (σ 0) x3 x4 (σ 0 74 - 2 - x1).toNat i1)) (b := s1) hex hbc (by omega) dX5_bestFrom_106 (fun dc106 hdc106 => ?_)
            refine zt_if_ge (a := dc106) (tgt := 115) hex hbc (by omega) dX5_bestFrom_107 (by decide) (fun c107 => ?_) (fun c107 => ?_)
            · skip
              refine lv_lload hex hbc dX5_bestFrom_115 (lv_at hl 3 rfl) ?_
              refine lv_lstore (lv' := [(6, .long (lI s1)), (10, .long (lI (bst (σ 0) x3 x4 (σ 0 74 - 2 - x1).toNat i1))), (9, .int (iI vb76)), (8, .int (iI i1)), (5, .int (iI (po x3 x4 x2))), (0, .ref (a 0)), (1, .int (iI x1)), (2, .int (iI x2)), (3, .int (iI x3)), (4, .int (iI x4))]) hex hbc dX5_bestFrom_117 hl (by decide) rfl (fun ls hl => ?_)
              refine lv_iinc (v := iI (i1 + 1)) (lv' := [(8, .int (iI (i1 + 1))), (6, .long (lI s1)), (10, .long (lI (bst (σ 0) x3 x4 (σ 0 74 - 2 - x1).toNat i1))), (9, .int (iI vb76)), (5, .int (iI (po x3 x4 x2))), (0, .ref (a 0)), (1, .int (iI x1)), (2, .int (iI x2)), (3, .int (iI x3)), (4, .int (iI x4))]) hex hbc dX5_bestFrom_119 hl (k := 3) rfl (iI_add _ _) (by decide) rfl (fun ls hl => ?_)
              refine lv_goto (tgt := 56) hex hbc dX5_bestFrom_122 (by decide) ?_
              exact ih_56 (i1 + 1) s1 ⟨by omega, by omega, by omega, by omega, by rw [mnf_at hi0, ← hs]; first | (rw [if_pos (show ln (σ 0) x1 * σ 0 4 / 100 ≤ po x3 x4 i1 - po x3 x4 x2 ∧ po x3 x4 i1 - po x3 x4 x2 ≤ ln (σ 0) x1 * σ 0 5 / 100 from c99)]; first | exact (if_pos (by omega)).symm | exact (if_neg (by omega)).symm) | (rw [if_neg (show ¬ (ln (σ 0) x1 * σ 0 4 / 100 ≤ po x3 x4 i1 - po x3 x4 x2 ∧ po x3 x4 i1 - po x3 x4 x2 ≤ ln (σ 0) x1 * σ 0 5 / 100) from c99)]; exact (if_neg (by omega)).symm)⟩ (by omega) _ _ _ hP hD hS (lv_sub hl [0, 1, 4, 5, 6, 7, 8, 9] rfl)
            · skip
              refine lv_lload hex hbc dX5_bestFrom_110 (lv_at hl 0 rfl) ?_
              refine lv_goto (tgt := 117) hex hbc dX5_bestFrom_112 (by decide) ?_
              refine lv_lstore (lv' := [(6, .long (lI (bst (σ 0) x3 x4 (σ 0 74 - 2 - x1).toNat i1))), (10, .long (lI (bst (σ 0) x3 x4 (σ 0 74 - 2 - x1).toNat i1))), (9, .int (iI vb76)), (8, .int (iI i1)), (5, .int (iI (po x3 x4 x2))), (0, .ref (a 0)), (1, .int (iI x1)), (2, .int (iI x2)), (3, .int (iI x3)), (4, .int (iI x4))]) hex hbc dX5_bestFrom_117 hl (by decide) rfl (fun ls hl => ?_)
              refine lv_iinc (v := iI (i1 + 1)) (lv' := [(8, .int (iI (i1 + 1))), (6, .long (lI (bst (σ 0) x3 x4 (σ 0 74 - 2 - x1).toNat i1))), (10, .long (lI (bst (σ 0) x3 x4 (σ 0 74 - 2 - x1).toNat i1))), (9, .int (iI vb76)), (5, .int (iI (po x3 x4 x2))), (0, .ref (a 0)), (1, .int (iI x1)), (2, .int (iI x2)), (3, .int (iI x3)), (4, .int (iI x4))]) hex hbc dX5_bestFrom_119 hl (k := 3) rfl (iI_add _ _) (by decide) rfl (fun ls hl => ?_)
              refine lv_goto (tgt := 56) hex hbc dX5_bestFrom_122 (by decide) ?_
              exact ih_56 (i1 + 1) (bst (σ 0) x3 x4 (σ 0 74 - 2 - x1).toNat i1) ⟨by omega, by omega, by omega, by omega, by rw [mnf_at hi0, ← hs]; first | (rw [if_pos (show ln (σ 0) x1 * σ 0 4 / 100 ≤ po x3 x4 i1 - po x3 x4 x2 ∧ po x3 x4 i1 - po x3 x4 x2 ≤ ln (σ 0) x1 * σ 0 5 / 100 from c99)]; first | exact (if_pos (by omega)).symm | exact (if_neg (by omega)).symm) | (rw [if_neg (show ¬ (ln (σ 0) x1 * σ 0 4 / 100 ≤ po x3 x4 i1 - po x3 x4 x2 ∧ po x3 x4 i1 - po x3 x4 x2 ≤ ln (σ 0) x1 * σ 0 5 / 100) from c99)]; exact (if_neg (by omega)).symm)⟩ (by omega) _ _ _ hP hD hS (lv_sub hl [0, 1, 4, 5, 6, 7, 8, 9] rfl)
    exact loop_56 _ (x2 + 1) 1152921504606846976 ⟨by omega, by omega, by omega, by omega, by rw [show (x2 + 1 - (x2 + 1)).toNat = 0 by omega]; rfl⟩ (mz_lt _) _ _ _ hP hD hS (lv_sub hl [0, 1, 2, 3, 4, 5, 6, 7] rfl)
  · skip
    have hbe := bst_end (w := σ 0) (T := x3) (G := x4) (m := x1) (by omega) x2
    unfold own_ at hbe
    refine lv_aload_n hex hbc dX5_bestFrom_27 rfl (lv_at hl 2 rfl) ?_
    refine lv_iload_n hex hbc dX5_bestFrom_28 rfl (lv_at hl 3 rfl) ?_
    refine lv_iload_n hex hbc dX5_bestFrom_29 rfl (lv_at hl 5 rfl) ?_
    refine lv_iload hex hbc dX5_bestFrom_30 (lv_at hl 1 rfl) ?_
    refine zt_isub hex hbc dX5_bestFrom_32 ?_
    refine g_calli [.int (iI x1), .int (iI (x3 - (po x3 x4 x2)))] ⟨hex, hbc, hml, hown, hts⟩ (mX5_fits l G cx a σ x1 (x3 - (po x3 x4 x2)) (by omega) (by omega) hI) (cwV 2 hts gX5_bestFrom_X5_fits rfl rfl rfl (by decide +kernel) ⟨Nat.le_of_ble_eq_true rfl, Nat.le_of_ble_eq_true rfl⟩) hK hP hD hS (fun _ h => h) 0 5 rfl rfl rfl rfl hl.1 (Nat.le_of_ble_eq_true rfl) dX5_bestFrom_33 ⟨Nat.zero_le _, Nat.zero_le _⟩ (fun r_33 u_33 H locs hw_33 hP hD hS hz_33 hk_33 => ?_)
    obtain ⟨rfl, vb33, rfl, hv33⟩ := hw_33
    refine zt_ifb_eq (P := (fits_ (σ 0) x1 (x3 - (po x3 x4 x2)))) (tgt := 43) hex hbc hv33 dX5_bestFrom_36 (by decide) (fun c36 => ?_) (fun c36 => ?_)
    · skip
      rw [show (if ln (σ 0) x1 * σ 0 4 / 100 ≤ x3 - po x3 x4 x2 ∧ x3 - po x3 x4 x2 ≤ ln (σ 0) x1 * σ 0 5 / 100 then (0 : Int) else FAR) = FAR from if_neg c36, if_pos rfl] at hbe
      refine lv_ldc2 (v := lI 1152921504606846976) hex hbc hown (hts _ (List.mem_of_getElem? (i := 1) rfl)) dX5_bestFrom_43 ?_
      refine lv_lstore (lv' := [(6, .long (lI 1152921504606846976)), (5, .int (iI (po x3 x4 x2))), (0, .ref (a 0)), (1, .int (iI x1)), (2, .int (iI x2)), (3, .int (iI x3)), (4, .int (iI x4))]) hex hbc dX5_bestFrom_46 hl (by decide) rfl (fun ls hl => ?_)
      refine lv_goto (tgt := 125) hex hbc dX5_bestFrom_48 (by decide) ?_
      refine lv_lload hex hbc dX5_bestFrom_125 (lv_at hl 0 rfl) ?_
      refine lv_ldc2 (v := lI 1152921504606846976) hex hbc hown (hts _ (List.mem_of_getElem? (i := 1) rfl)) dX5_bestFrom_127 ?_
      refine zt_lcmp (a := 1152921504606846976) (b := 1152921504606846976) hex hbc (by omega) dX5_bestFrom_130 (fun dc130 hdc130 => ?_)
      refine zt_if_ne (a := dc130) (tgt := 140) hex hbc (by omega) dX5_bestFrom_131 (by decide) (fun c131 => ?_) (fun c131 => ?_)
      · skip
        refine lv_lload hex hbc dX5_bestFrom_140 (lv_at hl 0 rfl) ?_
        refine lv_aload_n hex hbc dX5_bestFrom_142 rfl (lv_at hl 2 rfl) ?_
        refine lv_iload_n hex hbc dX5_bestFrom_143 rfl (lv_at hl 3 rfl) ?_
        refine lv_iload_n hex hbc dX5_bestFrom_144 rfl (lv_at hl 4 rfl) ?_
        refine lv_iload_n hex hbc dX5_bestFrom_145 rfl (lv_at hl 5 rfl) ?_
        refine lv_iload hex hbc dX5_bestFrom_146 (lv_at hl 6 rfl) ?_
        refine g_calll [.int (iI x1), .int (iI x2), .int (iI x3), .int (iI x4)] ⟨hex, hbc, hml, hown, hts⟩ (mX5_off l G cx a σ x1 x2 x3 x4 (by omega) (by omega) (by omega) (by omega) hI) (cwV 4 hts gX5_bestFrom_X5_off rfl rfl rfl (by decide +kernel) ⟨Nat.le_of_ble_eq_true rfl, Nat.le_of_ble_eq_true rfl⟩) hK hP hD hS (fun _ h => h) 0 5 rfl rfl rfl rfl hl.1 (Nat.le_of_ble_eq_true rfl) dX5_bestFrom_148 ⟨Nat.zero_le _, Nat.zero_le _⟩ (fun r_148 u_148 H locs hw_148 hP hD hS hz_148 hk_148 => ?_)
        obtain ⟨rfl, rfl⟩ := hw_148
        refine zt_ladd hex hbc dX5_bestFrom_151 ?_
        exact g_lret hex hbc hrt hlocks hK hP hD hS ⟨rfl, congrArg lI (by first | (rw [hbm, if_pos (by omega)]; omega) | (rw [hbm, if_neg (by omega)]) | (rw [hbe]; done) | (rw [hbe]; omega) | (exfalso; omega))⟩ dX5_bestFrom_152
      · skip
        refine lv_ldc2 (v := lI 1152921504606846976) hex hbc hown (hts _ (List.mem_of_getElem? (i := 1) rfl)) dX5_bestFrom_134 ?_
        refine lv_goto (tgt := 152) hex hbc dX5_bestFrom_137 (by decide) ?_
        exact g_lret hex hbc hrt hlocks hK hP hD hS ⟨rfl, congrArg lI (by first | (rw [hbm, if_pos (by omega)]; omega) | (rw [hbm, if_neg (by omega)]) | (rw [hbe]; done) | (rw [hbe]; omega) | (exfalso; omega))⟩ dX5_bestFrom_152
    · skip
      rw [show (if ln (σ 0) x1 * σ 0 4 / 100 ≤ x3 - po x3 x4 x2 ∧ x3 - po x3 x4 x2 ≤ ln (σ 0) x1 * σ 0 5 / 100 then (0 : Int) else FAR) = 0 from if_pos c36, if_neg (by omega)] at hbe
      refine lv_lconst (v := lI 0) hex hbc dX5_bestFrom_39 rfl ?_
      refine lv_goto (tgt := 46) hex hbc dX5_bestFrom_40 (by decide) ?_
      refine lv_lstore (lv' := [(6, .long (lI 0)), (5, .int (iI (po x3 x4 x2))), (0, .ref (a 0)), (1, .int (iI x1)), (2, .int (iI x2)), (3, .int (iI x3)), (4, .int (iI x4))]) hex hbc dX5_bestFrom_46 hl (by decide) rfl (fun ls hl => ?_)
      refine lv_goto (tgt := 125) hex hbc dX5_bestFrom_48 (by decide) ?_
      refine lv_lload hex hbc dX5_bestFrom_125 (lv_at hl 0 rfl) ?_
      refine lv_ldc2 (v := lI 1152921504606846976) hex hbc hown (hts _ (List.mem_of_getElem? (i := 1) rfl)) dX5_bestFrom_127 ?_
      refine zt_lcmp (a := 0) (b := 1152921504606846976) hex hbc (by omega) dX5_bestFrom_130 (fun dc130 hdc130 => ?_)
      refine zt_if_ne (a := dc130) (tgt := 140) hex hbc (by omega) dX5_bestFrom_131 (by decide) (fun c131 => ?_) (fun c131 => ?_)
      · skip
        refine lv_lload hex hbc dX5_bestFrom_140 (lv_at hl 0 rfl) ?_
        refine lv_aload_n hex hbc dX5_bestFrom_142 rfl (lv_at hl 2 rfl) ?_
        refine lv_iload_n hex hbc dX5_bestFrom_143 rfl (lv_at hl 3 rfl) ?_
        refine lv_iload_n hex hbc dX5_bestFrom_144 rfl (lv_at hl 4 rfl) ?_
        refine lv_iload_n hex hbc dX5_bestFrom_145 rfl (lv_at hl 5 rfl) ?_
        refine lv_iload hex hbc dX5_bestFrom_146 (lv_at hl 6 rfl) ?_
        refine g_calll [.int (iI x1), .int (iI x2), .int (iI x3), .int (iI x4)] ⟨hex, hbc, hml, hown, hts⟩ (mX5_off l G cx a σ x1 x2 x3 x4 (by omega) (by omega) (by omega) (by omega) hI) (cwV 4 hts gX5_bestFrom_X5_off rfl rfl rfl (by decide +kernel) ⟨Nat.le_of_ble_eq_true rfl, Nat.le_of_ble_eq_true rfl⟩) hK hP hD hS (fun _ h => h) 0 5 rfl rfl rfl rfl hl.1 (Nat.le_of_ble_eq_true rfl) dX5_bestFrom_148 ⟨Nat.zero_le _, Nat.zero_le _⟩ (fun r_148 u_148 H locs hw_148 hP hD hS hz_148 hk_148 => ?_)
        obtain ⟨rfl, rfl⟩ := hw_148
        refine zt_ladd hex hbc dX5_bestFrom_151 ?_
        exact g_lret hex hbc hrt hlocks hK hP hD hS ⟨rfl, congrArg lI (by first | (rw [hbm, if_pos (by omega)]; omega) | (rw [hbm, if_neg (by omega)]) | (rw [hbe]; done) | (rw [hbe]; omega) | (exfalso; omega))⟩ dX5_bestFrom_152
      · skip
        refine lv_ldc2 (v := lI 1152921504606846976) hex hbc hown (hts _ (List.mem_of_getElem? (i := 1) rfl)) dX5_bestFrom_134 ?_
        refine lv_goto (tgt := 152) hex hbc dX5_bestFrom_137 (by decide) ?_
        exact g_lret hex hbc hrt hlocks hK hP hD hS ⟨rfl, congrArg lI (by first | (rw [hbm, if_pos (by omega)]; omega) | (rw [hbm, if_neg (by omega)]) | (rw [hbe]; done) | (rw [hbe]; omega) | (exfalso; omega))⟩ dX5_bestFrom_152
theorem iX5_layGrid_X5 : ∀ w ∈ wsX50, w ∈ wsX5_layGrid := fun _ h => List.mem_cons_of_mem _ (List.mem_append_right _ h)
set_option maxHeartbeats 4000000 in
set_option maxRecDepth 100000 in
theorem mX5_layGrid (l : Launch) (G : va_G) (cx a : Nat → Nat) (σ : Nat → Int → Int)  (x1 : Int) (x2 : Int) (h1 : 1 ≤ x1 ∧ x1 ≤ 200000) (h2 : 1 ≤ x2 ∧ x2 ≤ 32) (hI : Inv (σ 0)) : Met l yX5_layGrid wsX5_layGrid ({ frames := 4, cells := 0, slots := 0, locals := 95 }) (va_Pc [.ref (a 0), .int (iI x1), .int (iI x2)] (gW G (tm cx) (MA a) (wm cx a) σ)) (va_Qi (fun r u => (∃ v, iI v = r ∧ ((can_ (σ 0) x1 x2 ∧ v = 1) ∨ (¬ can_ (σ 0) x1 x2 ∧ v = 0))) ∧ ∃ f2 f5 f6 f7, (f2 0 = σ 2 0 ∧ f2 1 = σ 2 1 ∧ f2 2 = (bst (σ 0) x1 x2 (σ 0 74 - 1).toNat 0)) ∧ (can_ (σ 0) x1 x2 → (∀ k, 0 ≤ k → k < σ 0 74 → f5 k = gbu (σ 0) x1 x2 k) ∧ ∀ k, 0 ≤ k → k ≤ σ 0 74 → f6 k = stp (σ 0) x1 x2 k) ∧ sc (sc (sc (sc σ 2 f2) 5 f5) 6 f6) 7 f7 = u) (gW G (tm cx) (MA a) (wm cx a)) (MA a)) 0 0 (MA a) := by
  refine Met.ofW (cc := cX5_layGrid) (maxL := 7) (ret := some .boolean) (by decide) rfl ?_
  intro p e s m args below meth c s₁ B hml hv
  obtain ⟨rfl, hP, hK, hD⟩ := hv
  have hex := B.exec
  have hbc := B.bytes
  have hrt := B.returns
  have hts := atoms_spec (ws := wsX5_layGrid) B.pre
  have hown : s.vm.findClass RX5 = some m.cls := findClass_of_methodNamed B.named
  have hlocks := B.notSynchronized
  have hS : va_S (MA a) s.heap s.heap [] := va_S.rf
  have hin5 := iX5_layGrid_X5
  have hl := lv_entry ([.ref (a 0), .int (iI x1), .int (iI x2)]) (n := 7) (Nat.le_of_ble_eq_true rfl)
  rw [lg_entry_eq]
  generalize (lg_sl ([.ref (a 0), .int (iI x1), .int (iI x2)]) ++ List.replicate (7 - (lg_sl ([.ref (a 0), .int (iI x1), .int (iI x2)])).length) Slot.unset).toArray = ls at hl ⊢
  have hl : lv_has ls 7 [(0, .ref (a 0)), (1, .int (iI x1)), (2, .int (iI x2))] := hl
  obtain ⟨hB, hEn, hMk, hAs, hPm⟩ := id hI
  have hFAR : FAR = 1152921504606846976 := rfl
  have hB0 := bst_rng hI (T := x1) (G := x2) (d := (σ 0 74 - 1).toNat) (s := 0) (by omega) h2.1 (by omega) (by omega) (by omega)
  refine lv_aload_n hex hbc dX5_layGrid_0 rfl (lv_at hl 0 rfl) ?_
  refine va_get (v := .ref (a 1)) hex hbc hts hin5 hown hK hP 0 rfl rfl 0 (by decide) (hts _ (List.mem_of_getElem? (i := 1) rfl)) (fun _ h => h) rfl dX5_layGrid_1 ?_
  refine lv_bipush (v := iI 74) hex hbc dX5_layGrid_4 (by decide) ?_
  refine g_iald (f := (σ 0)) (v := (σ 0 74)) (i := 74) hex hbc hK hP 1 0 rfl rfl (by decide) (by omega) rfl dX5_layGrid_6 ?_
  refine lv_iconst (v := iI 1) hex hbc dX5_layGrid_7 rfl ?_
  refine zt_isub hex hbc dX5_layGrid_8 ?_
  refine lv_istore_n (lv' := [(3, .int (iI ((σ 0 74) - 1))), (0, .ref (a 0)), (1, .int (iI x1)), (2, .int (iI x2))]) hex hbc dX5_layGrid_9 rfl hl (by decide) rfl (fun ls hl => ?_)
  have loop_10 : ∀ (N : Nat) (i1 : Int) (w7 : Int → Int), (-1 ≤ i1 ∧ i1 ≤ σ 0 74 - 1 ∧ ∀ m, i1 < m → m < σ 0 74 → RowM (σ 0) x1 x2 w7 m) → (i1 + 1) < (N : Int) → ∀ (H : Heap) (locs : List Loc) (ls : Array Slot), va_P G vwCl (wm cx a (sc σ 7 w7)) H → va_D (MA a) (wm cx a (sc σ 7 w7)) → va_S (MA a) s.heap H locs → lv_has ls 7 [(3, .int (iI i1)), (0, .ref (a 0)), (1, .int (iI x1)), (2, .int (iI x2))] → W p l e (headSpec wsX5_layGrid ({ frames := 4, cells := 0, slots := 0, locals := 95 })).room s m ([.ref (a 0), .int (iI x1), .int (iI x2)] : List Value).toArray below meth c H locs 0 0 (MQ below (va_Qi (fun r u => (∃ v, iI v = r ∧ ((can_ (σ 0) x1 x2 ∧ v = 1) ∨ (¬ can_ (σ 0) x1 x2 ∧ v = 0))) ∧ ∃ f2 f5 f6 f7, (f2 0 = σ 2 0 ∧ f2 1 = σ 2 1 ∧ f2 2 = (bst (σ 0) x1 x2 (σ 0 74 - 1).toNat 0)) ∧ (can_ (σ 0) x1 x2 → (∀ k, 0 ≤ k → k < σ 0 74 → f5 k = gbu (σ 0) x1 x2 k) ∧ ∀ k, 0 ≤ k → k ≤ σ 0 74 → f6 k = stp (σ 0) x1 x2 k) ∧ sc (sc (sc (sc σ 2 f2) 5 f5) 6 f6) 7 f7 = u) (gW G (tm cx) (MA a) (wm cx a)) (MA a)) ([.ref (a 0), .int (iI x1), .int (iI x2)] : List Value).toArray s 0 0 (MA a)) (F0 m 10 ls []) := by
    intro N
    induction N with
    | zero => intro i1 w7 hinv hlt; exfalso; have hz := hinv.1; omega
    | succ N ih_10 =>
      intro i1 w7 ⟨hi0, hi1, hrw⟩ hlt_10 H locs ls hP hD hS hl
      refine lv_iload_n hex hbc dX5_layGrid_10 rfl (lv_at hl 0 rfl) ?_
      refine zt_if_lt (a := i1) (tgt := 71) hex hbc (by omega) dX5_layGrid_11 (by decide) (fun c11 => ?_) (fun c11 => ?_)
      · skip
        refine lv_aload_n hex hbc dX5_layGrid_71 rfl (lv_at hl 1 rfl) ?_
        refine lv_aload_n hex hbc dX5_layGrid_72 rfl (lv_at hl 1 rfl) ?_
        refine va_get (v := .ref (a 7)) hex hbc hts hin5 hown hK hP 0 rfl rfl 8 (by decide) (hts _ (List.mem_of_getElem? (i := 2) rfl)) (fun _ h => h) rfl dX5_layGrid_73 ?_
        refine lv_iconst (v := iI 0) hex hbc dX5_layGrid_76 rfl ?_
        refine g_lald (f := w7) (v := (w7 0)) (i := 0) hex hbc hK hP 7 1 rfl rfl (by decide) (by omega) rfl dX5_layGrid_77 ?_
        refine zt_nml (a := (w7 0)) (b := (bst (σ 0) x1 x2 (σ 0 74 - 1).toNat 0)) (by have := hrw 0 (by omega) (by omega) 0 (by omega) (by omega) (fun _ => rfl); rw [show (33 : Int) * 0 + 0 = 0 from rfl, show σ 0 74 - 1 - 0 = σ 0 74 - 1 by omega] at this; exact this) ?_
        refine va_put hex hbc hts hin5 tyX5 tyX5_ok nmX5 hown hK hP hD hS 0 rfl rfl 9 (by decide) (hts _ (List.mem_of_getElem? (i := 4) rfl)) (fun _ h => h) rfl (tyX5_ok 9 (by decide)) rfl rfl (Nat.le_of_ble_eq_true rfl) dX5_layGrid_78 (fun H locs hP hD hS => ?_)
        have hP := leW_P (wm_pf_0_9 (G := G) (cx := cx) (a := a) (σ := (sc σ 7 w7))) hP
        have hD := leW_D (wm_pf_0_9 (G := G) (cx := cx) (a := a) (σ := (sc σ 7 w7))) hD
        obtain ⟨f2_78, ef2_78⟩ : ∃ z : Int → Int, z = ups (σ 2) 2 (bst (σ 0) x1 x2 (σ 0 74 - 1).toNat 0) := ⟨_, rfl⟩
        have hP : va_P G vwCl (wm cx a (sc (sc σ 2 f2_78) 7 w7)) H := by rw [ef2_78]; exact hP
        have hD : va_D (MA a) (wm cx a (sc (sc σ 2 f2_78) 7 w7)) := by rw [ef2_78]; exact hD
        refine lv_aload_n hex hbc dX5_layGrid_81 rfl (lv_at hl 1 rfl) ?_
        refine va_get (v := .long (lI (f2_78 2))) hex hbc hts hin5 hown hK hP 0 rfl rfl 9 (by decide) (hts _ (List.mem_of_getElem? (i := 4) rfl)) (fun _ h => h) rfl dX5_layGrid_82 ?_
        refine zt_nml (a := (f2_78 2)) (b := (bst (σ 0) x1 x2 (σ 0 74 - 1).toNat 0)) (by rw [ef2_78, ups_s]) ?_
        refine lv_ldc2 (v := lI 1152921504606846976) hex hbc hown (hts _ (List.mem_of_getElem? (i := 3) rfl)) dX5_layGrid_85 ?_
        refine zt_lcmp (a := (bst (σ 0) x1 x2 (σ 0 74 - 1).toNat 0)) (b := 1152921504606846976) hex hbc (by omega) dX5_layGrid_88 (fun dc88 hdc88 => ?_)
        refine zt_if_ne (a := dc88) (tgt := 94) hex hbc (by omega) dX5_layGrid_89 (by decide) (fun c89 => ?_) (fun c89 => ?_)
        · skip
          have hcan : can_ (σ 0) x1 x2 := fun q => by omega
          refine lv_aload_n hex hbc dX5_layGrid_94 rfl (lv_at hl 1 rfl) ?_
          refine va_get (v := .ref (a 6)) hex hbc hts hin5 hown hK hP 0 rfl rfl 7 (by decide) (hts _ (List.mem_of_getElem? (i := 5) rfl)) (fun _ h => h) rfl dX5_layGrid_95 ?_
          refine lv_iconst (v := iI 0) hex hbc dX5_layGrid_98 rfl ?_
          refine lv_iconst (v := iI 0) hex hbc dX5_layGrid_99 rfl ?_
          have hi_100 : (0 : Int) ≤ 0 ∧ 0 < (17 : Int) := (by omega)
          refine g_iast (σ := (sc (sc σ 2 f2_78) 7 w7)) (f := (σ 6)) (i := 0) (v := 0) (τ := st (sc (sc σ 2 f2_78) 7 w7) 6 0 0) hex hbc hK hP hD hS 6 0 rfl rfl (by decide) hi_100 dX5_layGrid_100 (wm_up_6 hi_100) (fun H locs hP hD hS => ?_)
          obtain ⟨f6_100, ef6_100⟩ : ∃ z : Int → Int, z = ups (σ 6) 0 0 := ⟨_, rfl⟩
          have hP : va_P G vwCl (wm cx a (sc (sc (sc σ 2 f2_78) 6 f6_100) 7 w7)) H := by rw [ef6_100]; exact hP
          have hD : va_D (MA a) (wm cx a (sc (sc (sc σ 2 f2_78) 6 f6_100) 7 w7)) := by rw [ef6_100]; exact hD
          refine lv_iconst (v := iI 0) hex hbc dX5_layGrid_101 rfl ?_
          refine lv_istore_n (lv' := [(3, .int (iI 0)), (0, .ref (a 0)), (1, .int (iI x1)), (2, .int (iI x2))]) hex hbc dX5_layGrid_102 rfl hl (by decide) rfl (fun ls hl => ?_)
          have loop_103 : ∀ (N : Nat) (i3 : Int) (w6 : Int → Int), (0 ≤ i3 ∧ i3 ≤ σ 0 74 - 1 ∧ ∀ k, 0 ≤ k → k ≤ i3 → w6 k = stp (σ 0) x1 x2 k) → (σ 0 74 - i3) < (N : Int) → ∀ (H : Heap) (locs : List Loc) (ls : Array Slot), va_P G vwCl (wm cx a (sc (sc (sc σ 2 f2_78) 6 w6) 7 w7)) H → va_D (MA a) (wm cx a (sc (sc (sc σ 2 f2_78) 6 w6) 7 w7)) → va_S (MA a) s.heap H locs → lv_has ls 7 [(3, .int (iI i3)), (0, .ref (a 0)), (1, .int (iI x1)), (2, .int (iI x2))] → W p l e (headSpec wsX5_layGrid ({ frames := 4, cells := 0, slots := 0, locals := 95 })).room s m ([.ref (a 0), .int (iI x1), .int (iI x2)] : List Value).toArray below meth c H locs 0 0 (MQ below (va_Qi (fun r u => (∃ v, iI v = r ∧ ((can_ (σ 0) x1 x2 ∧ v = 1) ∨ (¬ can_ (σ 0) x1 x2 ∧ v = 0))) ∧ ∃ f2 f5 f6 f7, (f2 0 = σ 2 0 ∧ f2 1 = σ 2 1 ∧ f2 2 = (bst (σ 0) x1 x2 (σ 0 74 - 1).toNat 0)) ∧ (can_ (σ 0) x1 x2 → (∀ k, 0 ≤ k → k < σ 0 74 → f5 k = gbu (σ 0) x1 x2 k) ∧ ∀ k, 0 ≤ k → k ≤ σ 0 74 → f6 k = stp (σ 0) x1 x2 k) ∧ sc (sc (sc (sc σ 2 f2) 5 f5) 6 f6) 7 f7 = u) (gW G (tm cx) (MA a) (wm cx a)) (MA a)) ([.ref (a 0), .int (iI x1), .int (iI x2)] : List Value).toArray s 0 0 (MA a)) (F0 m 103 ls []) := by
            intro N
            induction N with
            | zero => intro i3 w6 hinv hlt; exfalso; omega
            | succ N ih_103 =>
              intro i3 w6 ⟨hk0, hk1, hw6⟩ hlt_103 H locs ls hP hD hS hl
              refine lv_iload_n hex hbc dX5_layGrid_103 rfl (lv_at hl 0 rfl) ?_
              refine lv_aload_n hex hbc dX5_layGrid_104 rfl (lv_at hl 1 rfl) ?_
              refine va_get (v := .ref (a 1)) hex hbc hts hin5 hown hK hP 0 rfl rfl 0 (by decide) (hts _ (List.mem_of_getElem? (i := 1) rfl)) (fun _ h => h) rfl dX5_layGrid_105 ?_
              refine lv_bipush (v := iI 74) hex hbc dX5_layGrid_108 (by decide) ?_
              refine g_iald (f := (σ 0)) (v := (σ 0 74)) (i := 74) hex hbc hK hP 1 0 rfl rfl (by decide) (by omega) rfl dX5_layGrid_110 ?_
              refine lv_iconst (v := iI 1) hex hbc dX5_layGrid_111 rfl ?_
              refine zt_isub hex hbc dX5_layGrid_112 ?_
              refine zt_icmp_ge (a := i3) (b := ((σ 0 74) - 1)) (tgt := 227) hex hbc (by omega) dX5_layGrid_113 (by decide) (fun c113 => ?_) (fun c113 => ?_)
              · skip
                refine lv_aload_n hex hbc dX5_layGrid_227 rfl (lv_at hl 1 rfl) ?_
                refine va_get (v := .ref (a 6)) hex hbc hts hin5 hown hK hP 0 rfl rfl 7 (by decide) (hts _ (List.mem_of_getElem? (i := 5) rfl)) (fun _ h => h) rfl dX5_layGrid_228 ?_
                refine lv_aload_n hex hbc dX5_layGrid_231 rfl (lv_at hl 1 rfl) ?_
                refine va_get (v := .ref (a 1)) hex hbc hts hin5 hown hK hP 0 rfl rfl 0 (by decide) (hts _ (List.mem_of_getElem? (i := 1) rfl)) (fun _ h => h) rfl dX5_layGrid_232 ?_
                refine lv_bipush (v := iI 74) hex hbc dX5_layGrid_235 (by decide) ?_
                refine g_iald (f := (σ 0)) (v := (σ 0 74)) (i := 74) hex hbc hK hP 1 0 rfl rfl (by decide) (by omega) rfl dX5_layGrid_237 ?_
                refine lv_iload_n hex hbc dX5_layGrid_238 rfl (lv_at hl 3 rfl) ?_
                have hi_239 : (0 : Int) ≤ (σ 0 74) ∧ (σ 0 74) < (17 : Int) := (by omega)
                refine g_iast (σ := (sc (sc (sc σ 2 f2_78) 6 w6) 7 w7)) (f := w6) (i := (σ 0 74)) (v := x2) (τ := st (sc (sc (sc σ 2 f2_78) 6 w6) 7 w7) 6 (σ 0 74) x2) hex hbc hK hP hD hS 6 0 rfl rfl (by decide) hi_239 dX5_layGrid_239 (wm_up_6 hi_239) (fun H locs hP hD hS => ?_)
                obtain ⟨f6_239, ef6_239⟩ : ∃ z : Int → Int, z = ups w6 (σ 0 74) x2 := ⟨_, rfl⟩
                have hP : va_P G vwCl (wm cx a (sc (sc (sc σ 2 f2_78) 6 f6_239) 7 w7)) H := by rw [ef6_239]; exact hP
                have hD : va_D (MA a) (wm cx a (sc (sc (sc σ 2 f2_78) 6 f6_239) 7 w7)) := by rw [ef6_239]; exact hD
                have hst6 : ∀ k, 0 ≤ k → k ≤ σ 0 74 → f6_239 k = stp (σ 0) x1 x2 k := fun k k0 k1 => if hq : k = σ 0 74 then (by rw [ef6_239, hq, ups_s]; exact (if_neg (by omega)).symm) else (by rw [ef6_239, ups_n _ _ hq]; exact hw6 k k0 (by omega))
                refine lv_iconst (v := iI 0) hex hbc dX5_layGrid_240 rfl ?_
                refine lv_istore_n (lv' := [(3, .int (iI 0)), (0, .ref (a 0)), (1, .int (iI x1)), (2, .int (iI x2))]) hex hbc dX5_layGrid_241 rfl hl (by decide) rfl (fun ls hl => ?_)
                have loop_242 : ∀ (N : Nat) (i5 : Int) (w5 : Int → Int), (0 ≤ i5 ∧ i5 ≤ σ 0 74 ∧ ∀ k, 0 ≤ k → k < i5 → w5 k = gbu (σ 0) x1 x2 k) → (σ 0 74 - i5) < (N : Int) → ∀ (H : Heap) (locs : List Loc) (ls : Array Slot), va_P G vwCl (wm cx a (sc (sc (sc (sc σ 2 f2_78) 5 w5) 6 f6_239) 7 w7)) H → va_D (MA a) (wm cx a (sc (sc (sc (sc σ 2 f2_78) 5 w5) 6 f6_239) 7 w7)) → va_S (MA a) s.heap H locs → lv_has ls 7 [(3, .int (iI i5)), (0, .ref (a 0)), (1, .int (iI x1)), (2, .int (iI x2))] → W p l e (headSpec wsX5_layGrid ({ frames := 4, cells := 0, slots := 0, locals := 95 })).room s m ([.ref (a 0), .int (iI x1), .int (iI x2)] : List Value).toArray below meth c H locs 0 0 (MQ below (va_Qi (fun r u => (∃ v, iI v = r ∧ ((can_ (σ 0) x1 x2 ∧ v = 1) ∨ (¬ can_ (σ 0) x1 x2 ∧ v = 0))) ∧ ∃ f2 f5 f6 f7, (f2 0 = σ 2 0 ∧ f2 1 = σ 2 1 ∧ f2 2 = (bst (σ 0) x1 x2 (σ 0 74 - 1).toNat 0)) ∧ (can_ (σ 0) x1 x2 → (∀ k, 0 ≤ k → k < σ 0 74 → f5 k = gbu (σ 0) x1 x2 k) ∧ ∀ k, 0 ≤ k → k ≤ σ 0 74 → f6 k = stp (σ 0) x1 x2 k) ∧ sc (sc (sc (sc σ 2 f2) 5 f5) 6 f6) 7 f7 = u) (gW G (tm cx) (MA a) (wm cx a)) (MA a)) ([.ref (a 0), .int (iI x1), .int (iI x2)] : List Value).toArray s 0 0 (MA a)) (F0 m 242 ls []) := by
                  intro N
                  induction N with
                  | zero => intro i5 w5 hinv hlt; exfalso; omega
                  | succ N ih_242 =>
                    intro i5 w5 ⟨hm0, hm1, hw5⟩ hlt_242 H locs ls hP hD hS hl
                    refine lv_iload_n hex hbc dX5_layGrid_242 rfl (lv_at hl 0 rfl) ?_
                    refine lv_aload_n hex hbc dX5_layGrid_243 rfl (lv_at hl 1 rfl) ?_
                    refine va_get (v := .ref (a 1)) hex hbc hts hin5 hown hK hP 0 rfl rfl 0 (by decide) (hts _ (List.mem_of_getElem? (i := 1) rfl)) (fun _ h => h) rfl dX5_layGrid_244 ?_
                    refine lv_bipush (v := iI 74) hex hbc dX5_layGrid_247 (by decide) ?_
                    refine g_iald (f := (σ 0)) (v := (σ 0 74)) (i := 74) hex hbc hK hP 1 0 rfl rfl (by decide) (by omega) rfl dX5_layGrid_249 ?_
                    refine zt_icmp_ge (a := i5) (b := (σ 0 74)) (tgt := 290) hex hbc (by omega) dX5_layGrid_250 (by decide) (fun c250 => ?_) (fun c250 => ?_)
                    · skip
                      refine lv_iconst (v := iI 1) hex hbc dX5_layGrid_290 rfl ?_
                      exact g_zret hex hbc hrt hlocks rfl hK hP hD hS ⟨⟨1, rfl, Or.inl ⟨hcan, rfl⟩⟩, f2_78, w5, f6_239, w7, ⟨by rw [ef2_78, ups_n _ _ (by omega)], by rw [ef2_78, ups_n _ _ (by omega)], by rw [ef2_78, ups_s]⟩, fun _ => ⟨fun k k0 k1 => hw5 k k0 (by omega), hst6⟩, rfl⟩ dX5_layGrid_291
                    · skip
                      have hsa := stp_in hI (T := x1) (G := x2) (by omega) h2.1 hcan (k := i5) hm0
                      have hsb := stp_in hI (T := x1) (G := x2) (by omega) h2.1 hcan (k := i5 + 1) (by omega)
                      refine lv_aload_n hex hbc dX5_layGrid_253 rfl (lv_at hl 1 rfl) ?_
                      refine va_get (v := .ref (a 5)) hex hbc hts hin5 hown hK hP 0 rfl rfl 6 (by decide) (hts _ (List.mem_of_getElem? (i := 6) rfl)) (fun _ h => h) rfl dX5_layGrid_254 ?_
                      refine lv_iload_n hex hbc dX5_layGrid_257 rfl (lv_at hl 0 rfl) ?_
                      refine lv_aload_n hex hbc dX5_layGrid_258 rfl (lv_at hl 1 rfl) ?_
                      refine va_get (v := .ref (a 6)) hex hbc hts hin5 hown hK hP 0 rfl rfl 7 (by decide) (hts _ (List.mem_of_getElem? (i := 5) rfl)) (fun _ h => h) rfl dX5_layGrid_259 ?_
                      refine lv_iload_n hex hbc dX5_layGrid_262 rfl (lv_at hl 0 rfl) ?_
                      refine lv_iconst (v := iI 1) hex hbc dX5_layGrid_263 rfl ?_
                      refine zt_iadd hex hbc dX5_layGrid_264 ?_
                      refine g_iald (f := f6_239) (v := (f6_239 (i5 + 1))) (i := (i5 + 1)) hex hbc hK hP 6 0 rfl rfl (by decide) (by omega) rfl dX5_layGrid_265 ?_
                      refine zt_nm (a := (f6_239 (i5 + 1))) (b := (stp (σ 0) x1 x2 (i5 + 1))) (hst6 (i5 + 1) (by omega) (by omega)) ?_
                      refine lv_iload_n hex hbc dX5_layGrid_266 rfl (lv_at hl 2 rfl) ?_
                      refine lv_iload_n hex hbc dX5_layGrid_267 rfl (lv_at hl 3 rfl) ?_
                      refine g_callS [.int (iI (stp (σ 0) x1 x2 (i5 + 1))), .int (iI x1), .int (iI x2)] ⟨hex, hbc, hml, hown, hts⟩ (mX5_sampleAt l (stp (σ 0) x1 x2 (i5 + 1)) x1 x2 (show 0 ≤ (stp (σ 0) x1 x2 (i5 + 1)) ∧ (stp (σ 0) x1 x2 (i5 + 1)) ≤ 32 from by omega) (show 0 ≤ x1 ∧ x1 ≤ 200000 from by omega) (show 1 ≤ x2 ∧ x2 ≤ 32 from by omega)) (va_cwS 3 hts gX5_layGrid_X5_sampleAt rfl rfl rfl (by decide +kernel) ⟨Nat.le_of_ble_eq_true rfl, Nat.le_of_ble_eq_true rfl⟩) hP hS rfl rfl hl.1 (Nat.le_of_ble_eq_true rfl) dX5_layGrid_268 ⟨Nat.zero_le _, Nat.zero_le _⟩ (fun r_268 H locs hw_268 hP hS => ?_)
                      obtain rfl := hw_268
                      refine lv_aload_n hex hbc dX5_layGrid_271 rfl (lv_at hl 1 rfl) ?_
                      refine va_get (v := .ref (a 6)) hex hbc hts hin5 hown hK hP 0 rfl rfl 7 (by decide) (hts _ (List.mem_of_getElem? (i := 5) rfl)) (fun _ h => h) rfl dX5_layGrid_272 ?_
                      refine lv_iload_n hex hbc dX5_layGrid_275 rfl (lv_at hl 0 rfl) ?_
                      refine g_iald (f := f6_239) (v := (f6_239 i5)) (i := i5) hex hbc hK hP 6 0 rfl rfl (by decide) (by omega) rfl dX5_layGrid_276 ?_
                      refine zt_nm (a := (f6_239 i5)) (b := (stp (σ 0) x1 x2 i5)) (hst6 i5 hm0 (by omega)) ?_
                      refine lv_iload_n hex hbc dX5_layGrid_277 rfl (lv_at hl 2 rfl) ?_
                      refine lv_iload_n hex hbc dX5_layGrid_278 rfl (lv_at hl 3 rfl) ?_
                      refine g_callS [.int (iI (stp (σ 0) x1 x2 i5)), .int (iI x1), .int (iI x2)] ⟨hex, hbc, hml, hown, hts⟩ (mX5_sampleAt l (stp (σ 0) x1 x2 i5) x1 x2 (show 0 ≤ (stp (σ 0) x1 x2 i5) ∧ (stp (σ 0) x1 x2 i5) ≤ 32 from by omega) (show 0 ≤ x1 ∧ x1 ≤ 200000 from by omega) (show 1 ≤ x2 ∧ x2 ≤ 32 from by omega)) (va_cwS 3 hts gX5_layGrid_X5_sampleAt rfl rfl rfl (by decide +kernel) ⟨Nat.le_of_ble_eq_true rfl, Nat.le_of_ble_eq_true rfl⟩) hP hS rfl rfl hl.1 (Nat.le_of_ble_eq_true rfl) dX5_layGrid_279 ⟨Nat.zero_le _, Nat.zero_le _⟩ (fun r_279 H locs hw_279 hP hS => ?_)
                      obtain rfl := hw_279
                      refine zt_isub hex hbc dX5_layGrid_282 ?_
                      have hi_283 : (0 : Int) ≤ i5 ∧ i5 < (16 : Int) := (by omega)
                      refine g_iast (σ := (sc (sc (sc (sc σ 2 f2_78) 5 w5) 6 f6_239) 7 w7)) (f := w5) (i := i5) (v := ((po x1 x2 (stp (σ 0) x1 x2 (i5 + 1))) - (po x1 x2 (stp (σ 0) x1 x2 i5)))) (τ := st (sc (sc (sc (sc σ 2 f2_78) 5 w5) 6 f6_239) 7 w7) 5 i5 ((po x1 x2 (stp (σ 0) x1 x2 (i5 + 1))) - (po x1 x2 (stp (σ 0) x1 x2 i5)))) hex hbc hK hP hD hS 5 0 rfl rfl (by decide) hi_283 dX5_layGrid_283 (wm_up_5 hi_283) (fun H locs hP hD hS => ?_)
                      obtain ⟨f5_283, ef5_283⟩ : ∃ z : Int → Int, z = ups w5 i5 ((po x1 x2 (stp (σ 0) x1 x2 (i5 + 1))) - (po x1 x2 (stp (σ 0) x1 x2 i5))) := ⟨_, rfl⟩
                      have hP : va_P G vwCl (wm cx a (sc (sc (sc (sc σ 2 f2_78) 5 f5_283) 6 f6_239) 7 w7)) H := by rw [ef5_283]; exact hP
                      have hD : va_D (MA a) (wm cx a (sc (sc (sc (sc σ 2 f2_78) 5 f5_283) 6 f6_239) 7 w7)) := by rw [ef5_283]; exact hD
                      refine lv_iinc (v := iI (i5 + 1)) (lv' := [(3, .int (iI (i5 + 1))), (0, .ref (a 0)), (1, .int (iI x1)), (2, .int (iI x2))]) hex hbc dX5_layGrid_284 hl (k := 0) rfl (iI_add _ _) (by decide) rfl (fun ls hl => ?_)
                      refine lv_goto (tgt := 242) hex hbc dX5_layGrid_287 (by decide) ?_
                      exact ih_242 (i5 + 1) f5_283 ⟨by omega, by omega, fun k k0 k1 => if hq : k = i5 then (by rw [ef5_283, hq, ups_s]; rfl) else (by rw [ef5_283, ups_n _ _ hq]; exact hw5 k k0 (by omega))⟩ (by omega) _ _ _ hP hD hS (lv_sub hl [0, 1, 2, 3] rfl)
                exact loop_242 _ 0 (σ 5) ⟨by omega, by omega, fun k k0 k1 => by omega⟩ (mz_lt _) _ _ _ hP hD hS (lv_sub hl [0, 1, 2, 3] rfl)
              · skip
                have hsr := stp_rng hI (T := x1) (G := x2) (by omega) h2.1 hcan hk0 (by omega)
                obtain ⟨hx1, hx2, hx3, hx4, hx5, hx6⟩ := stp_next hI (T := x1) (G := x2) (by omega) h2.1 hcan (k := i3) (by omega)
                have hofs := of_in hI (T := x1) (G := x2) (m := i3) (s := stp (σ 0) x1 x2 i3) (by omega) h2.1 hk0 (by omega)
                have hbs := bst_rng hI (T := x1) (G := x2) (d := (σ 0 74 - 1 - i3).toNat) (s := stp (σ 0) x1 x2 i3) (by omega) h2.1 (by omega) (by omega) (by omega)
                have hps := po_in (T := x1) (G := x2) (i := stp (σ 0) x1 x2 i3) (by omega) h2.1 (by omega)
                have hbq := bst_rng hI (T := x1) (G := x2) (d := (σ 0 74 - 2 - i3).toNat) (s := stp (σ 0) x1 x2 (i3 + 1)) (by omega) h2.1 (by omega) (by omega) (by omega)
                refine lv_aload_n hex hbc dX5_layGrid_116 rfl (lv_at hl 1 rfl) ?_
                refine va_get (v := .ref (a 6)) hex hbc hts hin5 hown hK hP 0 rfl rfl 7 (by decide) (hts _ (List.mem_of_getElem? (i := 5) rfl)) (fun _ h => h) rfl dX5_layGrid_117 ?_
                refine lv_iload_n hex hbc dX5_layGrid_120 rfl (lv_at hl 0 rfl) ?_
                refine g_iald (f := w6) (v := (w6 i3)) (i := i3) hex hbc hK hP 6 0 rfl rfl (by decide) (by omega) rfl dX5_layGrid_121 ?_
                refine zt_nm (a := (w6 i3)) (b := (stp (σ 0) x1 x2 i3)) (hw6 i3 hk0 (Int.le_refl _)) ?_
                refine lv_iconst (v := iI 1) hex hbc dX5_layGrid_122 rfl ?_
                refine zt_iadd hex hbc dX5_layGrid_123 ?_
                refine lv_istore (lv' := [(4, .int (iI ((stp (σ 0) x1 x2 i3) + 1))), (3, .int (iI i3)), (0, .ref (a 0)), (1, .int (iI x1)), (2, .int (iI x2))]) hex hbc dX5_layGrid_124 hl (by decide) rfl (fun ls hl => ?_)
                refine lv_aload_n hex hbc dX5_layGrid_126 rfl (lv_at hl 2 rfl) ?_
                refine va_get (v := .ref (a 7)) hex hbc hts hin5 hown hK hP 0 rfl rfl 8 (by decide) (hts _ (List.mem_of_getElem? (i := 2) rfl)) (fun _ h => h) rfl dX5_layGrid_127 ?_
                refine lv_bipush (v := iI 33) hex hbc dX5_layGrid_130 (by decide) ?_
                refine lv_iload_n hex hbc dX5_layGrid_132 rfl (lv_at hl 1 rfl) ?_
                refine zt_imul hex hbc dX5_layGrid_133 ?_
                refine lv_aload_n hex hbc dX5_layGrid_134 rfl (lv_at hl 2 rfl) ?_
                refine va_get (v := .ref (a 6)) hex hbc hts hin5 hown hK hP 0 rfl rfl 7 (by decide) (hts _ (List.mem_of_getElem? (i := 5) rfl)) (fun _ h => h) rfl dX5_layGrid_135 ?_
                refine lv_iload_n hex hbc dX5_layGrid_138 rfl (lv_at hl 1 rfl) ?_
                refine g_iald (f := w6) (v := (w6 i3)) (i := i3) hex hbc hK hP 6 0 rfl rfl (by decide) (by omega) rfl dX5_layGrid_139 ?_
                refine zt_nm (a := (w6 i3)) (b := (stp (σ 0) x1 x2 i3)) (hw6 i3 hk0 (Int.le_refl _)) ?_
                refine zt_iadd hex hbc dX5_layGrid_140 ?_
                refine g_lald (f := w7) (v := (w7 ((33 * i3) + (stp (σ 0) x1 x2 i3)))) (i := ((33 * i3) + (stp (σ 0) x1 x2 i3))) hex hbc hK hP 7 1 rfl rfl (by decide) (by omega) rfl dX5_layGrid_141 ?_
                refine zt_nml (a := (w7 ((33 * i3) + (stp (σ 0) x1 x2 i3)))) (b := (bst (σ 0) x1 x2 (σ 0 74 - 1 - i3).toNat (stp (σ 0) x1 x2 i3))) (hrw i3 (by omega) (by omega) _ (by omega) (by omega) (fun h => by rw [h]; exact stp_0 _ _ (by omega))) ?_
                refine lv_aload_n hex hbc dX5_layGrid_142 rfl (lv_at hl 2 rfl) ?_
                refine lv_iload_n hex hbc dX5_layGrid_143 rfl (lv_at hl 1 rfl) ?_
                refine lv_aload_n hex hbc dX5_layGrid_144 rfl (lv_at hl 2 rfl) ?_
                refine va_get (v := .ref (a 6)) hex hbc hts hin5 hown hK hP 0 rfl rfl 7 (by decide) (hts _ (List.mem_of_getElem? (i := 5) rfl)) (fun _ h => h) rfl dX5_layGrid_145 ?_
                refine lv_iload_n hex hbc dX5_layGrid_148 rfl (lv_at hl 1 rfl) ?_
                refine g_iald (f := w6) (v := (w6 i3)) (i := i3) hex hbc hK hP 6 0 rfl rfl (by decide) (by omega) rfl dX5_layGrid_149 ?_
                refine zt_nm (a := (w6 i3)) (b := (stp (σ 0) x1 x2 i3)) (hw6 i3 hk0 (Int.le_refl _)) ?_
                refine lv_iload_n hex hbc dX5_layGrid_150 rfl (lv_at hl 3 rfl) ?_
                refine lv_iload_n hex hbc dX5_layGrid_151 rfl (lv_at hl 4 rfl) ?_
                refine g_calll [.int (iI i3), .int (iI (stp (σ 0) x1 x2 i3)), .int (iI x1), .int (iI x2)] ⟨hex, hbc, hml, hown, hts⟩ (mX5_off l G cx a (sc (sc (sc σ 2 f2_78) 6 w6) 7 w7) i3 (stp (σ 0) x1 x2 i3) x1 x2 (show 0 ≤ i3 ∧ i3 < σ 0 74 from by omega) (show 0 ≤ (stp (σ 0) x1 x2 i3) ∧ (stp (σ 0) x1 x2 i3) ≤ x2 from by omega) (show 0 ≤ x1 ∧ x1 ≤ 200000 from by omega) (show 1 ≤ x2 ∧ x2 ≤ 32 from by omega) hI) (cwV 4 hts gX5_layGrid_X5_off rfl rfl rfl (by decide +kernel) ⟨Nat.le_of_ble_eq_true rfl, Nat.le_of_ble_eq_true rfl⟩) hK hP hD hS (fun _ h => h) 0 5 rfl rfl rfl rfl hl.1 (Nat.le_of_ble_eq_true rfl) dX5_layGrid_152 ⟨Nat.zero_le _, Nat.zero_le _⟩ (fun r_152 u_152 H locs hw_152 hP hD hS hz_152 hk_152 => ?_)
                obtain ⟨rfl, rfl⟩ := hw_152
                refine zt_lsub hex hbc dX5_layGrid_155 ?_
                refine zt_nml (a := ((bst (σ 0) x1 x2 (σ 0 74 - 1 - i3).toNat (stp (σ 0) x1 x2 i3)) - (of_ (σ 0) x1 x2 i3 (stp (σ 0) x1 x2 i3)))) (b := (raw_ (σ 0) x1 x2 i3 (bst (σ 0) x1 x2 (σ 0 74 - 2 - i3).toNat) (stp (σ 0) x1 x2 i3))) (by omega) ?_
                refine lv_lstore (lv' := [(5, .long (lI (raw_ (σ 0) x1 x2 i3 (bst (σ 0) x1 x2 (σ 0 74 - 2 - i3).toNat) (stp (σ 0) x1 x2 i3)))), (4, .int (iI ((stp (σ 0) x1 x2 i3) + 1))), (3, .int (iI i3)), (0, .ref (a 0)), (1, .int (iI x1)), (2, .int (iI x2))]) hex hbc dX5_layGrid_156 hl (by decide) rfl (fun ls hl => ?_)
                have loop_158 : ∀ (N : Nat) (i4 : Int), (stp (σ 0) x1 x2 i3 < i4 ∧ i4 ≤ stp (σ 0) x1 x2 (i3 + 1)) → (x2 - i4) < (N : Int) → ∀ (H : Heap) (locs : List Loc) (ls : Array Slot), va_P G vwCl (wm cx a (sc (sc (sc σ 2 f2_78) 6 w6) 7 w7)) H → va_D (MA a) (wm cx a (sc (sc (sc σ 2 f2_78) 6 w6) 7 w7)) → va_S (MA a) s.heap H locs → lv_has ls 7 [(4, .int (iI i4)), (5, .long (lI (raw_ (σ 0) x1 x2 i3 (bst (σ 0) x1 x2 (σ 0 74 - 2 - i3).toNat) (stp (σ 0) x1 x2 i3)))), (3, .int (iI i3)), (0, .ref (a 0)), (1, .int (iI x1)), (2, .int (iI x2))] → W p l e (headSpec wsX5_layGrid ({ frames := 4, cells := 0, slots := 0, locals := 95 })).room s m ([.ref (a 0), .int (iI x1), .int (iI x2)] : List Value).toArray below meth c H locs 0 0 (MQ below (va_Qi (fun r u => (∃ v, iI v = r ∧ ((can_ (σ 0) x1 x2 ∧ v = 1) ∨ (¬ can_ (σ 0) x1 x2 ∧ v = 0))) ∧ ∃ f2 f5 f6 f7, (f2 0 = σ 2 0 ∧ f2 1 = σ 2 1 ∧ f2 2 = (bst (σ 0) x1 x2 (σ 0 74 - 1).toNat 0)) ∧ (can_ (σ 0) x1 x2 → (∀ k, 0 ≤ k → k < σ 0 74 → f5 k = gbu (σ 0) x1 x2 k) ∧ ∀ k, 0 ≤ k → k ≤ σ 0 74 → f6 k = stp (σ 0) x1 x2 k) ∧ sc (sc (sc (sc σ 2 f2) 5 f5) 6 f6) 7 f7 = u) (gW G (tm cx) (MA a) (wm cx a)) (MA a)) ([.ref (a 0), .int (iI x1), .int (iI x2)] : List Value).toArray s 0 0 (MA a)) (F0 m 158 ls []) := by
                  intro N
                  induction N with
                  | zero => intro i4 hinv hlt; exfalso; omega
                  | succ N ih_158 =>
                    intro i4 ⟨hn0, hn1⟩ hlt_158 H locs ls hP hD hS hl
                    have hbn := bst_rng hI (T := x1) (G := x2) (d := (σ 0 74 - 2 - i3).toNat) (s := i4) (by omega) h2.1 (by omega) (by omega) (by omega)
                    have hpn := po_in (T := x1) (G := x2) (i := i4) (by omega) h2.1 (by omega)
                    refine lv_aload_n hex hbc dX5_layGrid_158 rfl (lv_at hl 3 rfl) ?_
                    refine va_get (v := .ref (a 7)) hex hbc hts hin5 hown hK hP 0 rfl rfl 8 (by decide) (hts _ (List.mem_of_getElem? (i := 2) rfl)) (fun _ h => h) rfl dX5_layGrid_159 ?_
                    refine lv_bipush (v := iI 33) hex hbc dX5_layGrid_162 (by decide) ?_
                    refine lv_iload_n hex hbc dX5_layGrid_164 rfl (lv_at hl 2 rfl) ?_
                    refine lv_iconst (v := iI 1) hex hbc dX5_layGrid_165 rfl ?_
                    refine zt_iadd hex hbc dX5_layGrid_166 ?_
                    refine zt_imul hex hbc dX5_layGrid_167 ?_
                    refine lv_iload hex hbc dX5_layGrid_168 (lv_at hl 0 rfl) ?_
                    refine zt_iadd hex hbc dX5_layGrid_170 ?_
                    refine g_lald (f := w7) (v := (w7 ((33 * (i3 + 1)) + i4))) (i := ((33 * (i3 + 1)) + i4)) hex hbc hK hP 7 1 rfl rfl (by decide) (by omega) rfl dX5_layGrid_171 ?_
                    refine zt_nml (a := (w7 ((33 * (i3 + 1)) + i4))) (b := (bst (σ 0) x1 x2 (σ 0 74 - 2 - i3).toNat i4)) (by rw [hrw (i3 + 1) (by omega) (by omega) i4 (by omega) (by omega) (fun h => by omega)]; congr 1; omega) ?_
                    refine lv_lload hex hbc dX5_layGrid_172 (lv_at hl 1 rfl) ?_
                    refine zt_lcmp (a := (bst (σ 0) x1 x2 (σ 0 74 - 2 - i3).toNat i4)) (b := (raw_ (σ 0) x1 x2 i3 (bst (σ 0) x1 x2 (σ 0 74 - 2 - i3).toNat) (stp (σ 0) x1 x2 i3))) hex hbc (by omega) dX5_layGrid_174 (fun dc174 hdc174 => ?_)
                    refine zt_if_ne (a := dc174) (tgt := 205) hex hbc (by omega) dX5_layGrid_175 (by decide) (fun c175 => ?_) (fun c175 => ?_)
                    · skip
                      refine lv_iinc (v := iI (i4 + 1)) (lv' := [(4, .int (iI (i4 + 1))), (5, .long (lI (raw_ (σ 0) x1 x2 i3 (bst (σ 0) x1 x2 (σ 0 74 - 2 - i3).toNat) (stp (σ 0) x1 x2 i3)))), (3, .int (iI i3)), (0, .ref (a 0)), (1, .int (iI x1)), (2, .int (iI x2))]) hex hbc dX5_layGrid_205 hl (k := 0) rfl (iI_add _ _) (by decide) rfl (fun ls hl => ?_)
                      refine lv_goto (tgt := 158) hex hbc dX5_layGrid_208 (by decide) ?_
                      exact ih_158 (i4 + 1) ⟨by omega, (Int.lt_or_le i4 (stp (σ 0) x1 x2 (i3 + 1))).elim (fun q => by omega) (fun q => absurd (show i4 = stp (σ 0) x1 x2 (i3 + 1) by omega) (fun he => by first | (rw [he] at hdc174 hbn; omega) | (rw [he] at c202; exact c202 hx3)))⟩ (by omega) _ _ _ hP hD hS (lv_sub hl [0, 1, 2, 3, 4, 5] rfl)
                    · skip
                      refine lv_aload_n hex hbc dX5_layGrid_178 rfl (lv_at hl 3 rfl) ?_
                      refine lv_iload_n hex hbc dX5_layGrid_179 rfl (lv_at hl 2 rfl) ?_
                      refine lv_iload hex hbc dX5_layGrid_180 (lv_at hl 0 rfl) ?_
                      refine lv_iload_n hex hbc dX5_layGrid_182 rfl (lv_at hl 4 rfl) ?_
                      refine lv_iload_n hex hbc dX5_layGrid_183 rfl (lv_at hl 5 rfl) ?_
                      refine g_callS [.int (iI i4), .int (iI x1), .int (iI x2)] ⟨hex, hbc, hml, hown, hts⟩ (mX5_sampleAt l i4 x1 x2 (show 0 ≤ i4 ∧ i4 ≤ 32 from by omega) (show 0 ≤ x1 ∧ x1 ≤ 200000 from by omega) (show 1 ≤ x2 ∧ x2 ≤ 32 from by omega)) (va_cwS 3 hts gX5_layGrid_X5_sampleAt rfl rfl rfl (by decide +kernel) ⟨Nat.le_of_ble_eq_true rfl, Nat.le_of_ble_eq_true rfl⟩) hP hS rfl rfl hl.1 (Nat.le_of_ble_eq_true rfl) dX5_layGrid_184 ⟨Nat.zero_le _, Nat.zero_le _⟩ (fun r_184 H locs hw_184 hP hS => ?_)
                      obtain rfl := hw_184
                      refine lv_aload_n hex hbc dX5_layGrid_187 rfl (lv_at hl 3 rfl) ?_
                      refine va_get (v := .ref (a 6)) hex hbc hts hin5 hown hK hP 0 rfl rfl 7 (by decide) (hts _ (List.mem_of_getElem? (i := 5) rfl)) (fun _ h => h) rfl dX5_layGrid_188 ?_
                      refine lv_iload_n hex hbc dX5_layGrid_191 rfl (lv_at hl 2 rfl) ?_
                      refine g_iald (f := w6) (v := (w6 i3)) (i := i3) hex hbc hK hP 6 0 rfl rfl (by decide) (by omega) rfl dX5_layGrid_192 ?_
                      refine zt_nm (a := (w6 i3)) (b := (stp (σ 0) x1 x2 i3)) (hw6 i3 hk0 (Int.le_refl _)) ?_
                      refine lv_iload_n hex hbc dX5_layGrid_193 rfl (lv_at hl 4 rfl) ?_
                      refine lv_iload_n hex hbc dX5_layGrid_194 rfl (lv_at hl 5 rfl) ?_
                      refine g_callS [.int (iI (stp (σ 0) x1 x2 i3)), .int (iI x1), .int (iI x2)] ⟨hex, hbc, hml, hown, hts⟩ (mX5_sampleAt l (stp (σ 0) x1 x2 i3) x1 x2 (show 0 ≤ (stp (σ 0) x1 x2 i3) ∧ (stp (σ 0) x1 x2 i3) ≤ 32 from by omega) (show 0 ≤ x1 ∧ x1 ≤ 200000 from by omega) (show 1 ≤ x2 ∧ x2 ≤ 32 from by omega)) (va_cwS 3 hts gX5_layGrid_X5_sampleAt rfl rfl rfl (by decide +kernel) ⟨Nat.le_of_ble_eq_true rfl, Nat.le_of_ble_eq_true rfl⟩) hP hS rfl rfl hl.1 (Nat.le_of_ble_eq_true rfl) dX5_layGrid_195 ⟨Nat.zero_le _, Nat.zero_le _⟩ (fun r_195 H locs hw_195 hP hS => ?_)
                      obtain rfl := hw_195
                      refine zt_isub hex hbc dX5_layGrid_198 ?_
                      refine g_calli [.int (iI i3), .int (iI ((po x1 x2 i4) - (po x1 x2 (stp (σ 0) x1 x2 i3))))] ⟨hex, hbc, hml, hown, hts⟩ (mX5_fits l G cx a (sc (sc (sc σ 2 f2_78) 6 w6) 7 w7) i3 ((po x1 x2 i4) - (po x1 x2 (stp (σ 0) x1 x2 i3))) (show 0 ≤ i3 ∧ i3 < σ 0 74 from by omega) (show -2147483648 ≤ ((po x1 x2 i4) - (po x1 x2 (stp (σ 0) x1 x2 i3))) ∧ ((po x1 x2 i4) - (po x1 x2 (stp (σ 0) x1 x2 i3))) < 2147483648 from by omega) hI) (cwV 2 hts gX5_layGrid_X5_fits rfl rfl rfl (by decide +kernel) ⟨Nat.le_of_ble_eq_true rfl, Nat.le_of_ble_eq_true rfl⟩) hK hP hD hS (fun _ h => h) 0 5 rfl rfl rfl rfl hl.1 (Nat.le_of_ble_eq_true rfl) dX5_layGrid_199 ⟨Nat.zero_le _, Nat.zero_le _⟩ (fun r_199 u_199 H locs hw_199 hP hD hS hz_199 hk_199 => ?_)
                      obtain ⟨rfl, vb199, rfl, hv199⟩ := hw_199
                      have hv199 : ((fits_ (σ 0) i3 ((po x1 x2 i4) - (po x1 x2 (stp (σ 0) x1 x2 i3)))) ∧ vb199 = 1) ∨ (¬ (fits_ (σ 0) i3 ((po x1 x2 i4) - (po x1 x2 (stp (σ 0) x1 x2 i3)))) ∧ vb199 = 0) := hv199
                      refine zt_ifb_ne (P := (fits_ (σ 0) i3 ((po x1 x2 i4) - (po x1 x2 (stp (σ 0) x1 x2 i3))))) (tgt := 211) hex hbc hv199 dX5_layGrid_202 (by decide) (fun c202 => ?_) (fun c202 => ?_)
                      · skip
                        have hend : i4 = stp (σ 0) x1 x2 (i3 + 1) := (Int.lt_or_le i4 (stp (σ 0) x1 x2 (i3 + 1))).elim (fun q => absurd ⟨c202, (by omega)⟩ (hx6 i4 hn0 q)) (fun q => by omega)
                        refine lv_aload_n hex hbc dX5_layGrid_211 rfl (lv_at hl 3 rfl) ?_
                        refine va_get (v := .ref (a 6)) hex hbc hts hin5 hown hK hP 0 rfl rfl 7 (by decide) (hts _ (List.mem_of_getElem? (i := 5) rfl)) (fun _ h => h) rfl dX5_layGrid_212 ?_
                        refine lv_iload_n hex hbc dX5_layGrid_215 rfl (lv_at hl 2 rfl) ?_
                        refine lv_iconst (v := iI 1) hex hbc dX5_layGrid_216 rfl ?_
                        refine zt_iadd hex hbc dX5_layGrid_217 ?_
                        refine lv_iload hex hbc dX5_layGrid_218 (lv_at hl 0 rfl) ?_
                        have hi_220 : (0 : Int) ≤ (i3 + 1) ∧ (i3 + 1) < (17 : Int) := (by omega)
                        refine g_iast (σ := (sc (sc (sc σ 2 f2_78) 6 w6) 7 w7)) (f := w6) (i := (i3 + 1)) (v := i4) (τ := st (sc (sc (sc σ 2 f2_78) 6 w6) 7 w7) 6 (i3 + 1) i4) hex hbc hK hP hD hS 6 0 rfl rfl (by decide) hi_220 dX5_layGrid_220 (wm_up_6 hi_220) (fun H locs hP hD hS => ?_)
                        obtain ⟨f6_220, ef6_220⟩ : ∃ z : Int → Int, z = ups w6 (i3 + 1) i4 := ⟨_, rfl⟩
                        have hP : va_P G vwCl (wm cx a (sc (sc (sc σ 2 f2_78) 6 f6_220) 7 w7)) H := by rw [ef6_220]; exact hP
                        have hD : va_D (MA a) (wm cx a (sc (sc (sc σ 2 f2_78) 6 f6_220) 7 w7)) := by rw [ef6_220]; exact hD
                        refine lv_iinc (v := iI (i3 + 1)) (lv' := [(3, .int (iI (i3 + 1))), (4, .int (iI i4)), (5, .long (lI (raw_ (σ 0) x1 x2 i3 (bst (σ 0) x1 x2 (σ 0 74 - 2 - i3).toNat) (stp (σ 0) x1 x2 i3)))), (0, .ref (a 0)), (1, .int (iI x1)), (2, .int (iI x2))]) hex hbc dX5_layGrid_221 hl (k := 2) rfl (iI_add _ _) (by decide) rfl (fun ls hl => ?_)
                        refine lv_goto (tgt := 103) hex hbc dX5_layGrid_224 (by decide) ?_
                        exact ih_103 (i3 + 1) f6_220 ⟨by omega, by omega, fun k k0 k1 => if hq : k = i3 + 1 then (by rw [ef6_220, hq, ups_s]; exact hend) else (by rw [ef6_220, ups_n _ _ hq]; exact hw6 k k0 (by omega))⟩ (by omega) _ _ _ hP hD hS (lv_sub hl [0, 3, 4, 5] rfl)
                      · skip
                        refine lv_iinc (v := iI (i4 + 1)) (lv' := [(4, .int (iI (i4 + 1))), (5, .long (lI (raw_ (σ 0) x1 x2 i3 (bst (σ 0) x1 x2 (σ 0 74 - 2 - i3).toNat) (stp (σ 0) x1 x2 i3)))), (3, .int (iI i3)), (0, .ref (a 0)), (1, .int (iI x1)), (2, .int (iI x2))]) hex hbc dX5_layGrid_205 hl (k := 0) rfl (iI_add _ _) (by decide) rfl (fun ls hl => ?_)
                        refine lv_goto (tgt := 158) hex hbc dX5_layGrid_208 (by decide) ?_
                        exact ih_158 (i4 + 1) ⟨by omega, (Int.lt_or_le i4 (stp (σ 0) x1 x2 (i3 + 1))).elim (fun q => by omega) (fun q => absurd (show i4 = stp (σ 0) x1 x2 (i3 + 1) by omega) (fun he => by first | (rw [he] at hdc174 hbn; omega) | (rw [he] at c202; exact c202 hx3)))⟩ (by omega) _ _ _ hP hD hS (lv_sub hl [0, 1, 2, 3, 4, 5] rfl)
                exact loop_158 _ (stp (σ 0) x1 x2 i3 + 1) ⟨by omega, by omega⟩ (mz_lt _) _ _ _ hP hD hS (lv_sub hl [1, 0, 2, 3, 4, 5] rfl)
          exact loop_103 _ 0 f6_100 ⟨by omega, by omega, fun k k0 k1 => by rw [show k = 0 by omega, ef6_100, ups_s]; exact (stp_0 _ _ (by omega)).symm⟩ (mz_lt _) _ _ _ hP hD hS (lv_sub hl [0, 1, 2, 3] rfl)
        · skip
          have hcan : ¬ can_ (σ 0) x1 x2 := fun q => q (by omega)
          refine lv_iconst (v := iI 0) hex hbc dX5_layGrid_92 rfl ?_
          exact g_zret hex hbc hrt hlocks rfl hK hP hD hS ⟨⟨0, rfl, Or.inr ⟨hcan, rfl⟩⟩, f2_78, σ 5, σ 6, w7, ⟨by rw [ef2_78, ups_n _ _ (by omega)], by rw [ef2_78, ups_n _ _ (by omega)], by rw [ef2_78, ups_s]⟩, fun h => absurd h hcan, sc_self56⟩ dX5_layGrid_93
      · skip
        refine lv_iconst (v := iI 0) hex hbc dX5_layGrid_14 rfl ?_
        refine lv_istore (lv' := [(4, .int (iI 0)), (3, .int (iI i1)), (0, .ref (a 0)), (1, .int (iI x1)), (2, .int (iI x2))]) hex hbc dX5_layGrid_15 hl (by decide) rfl (fun ls hl => ?_)
        have loop_17 : ∀ (N : Nat) (i2 : Int) (v7 : Int → Int), (0 ≤ i2 ∧ i2 ≤ x2 ∧ (∀ m, i1 < m → m < σ 0 74 → RowM (σ 0) x1 x2 v7 m) ∧ ∀ j, 0 ≤ j → j < i2 → (i1 = 0 → j = 0) → v7 (33 * i1 + j) = bst (σ 0) x1 x2 (σ 0 74 - 1 - i1).toNat j) → (x2 - i2) < (N : Int) → ∀ (H : Heap) (locs : List Loc) (ls : Array Slot), va_P G vwCl (wm cx a (sc σ 7 v7)) H → va_D (MA a) (wm cx a (sc σ 7 v7)) → va_S (MA a) s.heap H locs → lv_has ls 7 [(4, .int (iI i2)), (3, .int (iI i1)), (0, .ref (a 0)), (1, .int (iI x1)), (2, .int (iI x2))] → W p l e (headSpec wsX5_layGrid ({ frames := 4, cells := 0, slots := 0, locals := 95 })).room s m ([.ref (a 0), .int (iI x1), .int (iI x2)] : List Value).toArray below meth c H locs 0 0 (MQ below (va_Qi (fun r u => (∃ v, iI v = r ∧ ((can_ (σ 0) x1 x2 ∧ v = 1) ∨ (¬ can_ (σ 0) x1 x2 ∧ v = 0))) ∧ ∃ f2 f5 f6 f7, (f2 0 = σ 2 0 ∧ f2 1 = σ 2 1 ∧ f2 2 = (bst (σ 0) x1 x2 (σ 0 74 - 1).toNat 0)) ∧ (can_ (σ 0) x1 x2 → (∀ k, 0 ≤ k → k < σ 0 74 → f5 k = gbu (σ 0) x1 x2 k) ∧ ∀ k, 0 ≤ k → k ≤ σ 0 74 → f6 k = stp (σ 0) x1 x2 k) ∧ sc (sc (sc (sc σ 2 f2) 5 f5) 6 f6) 7 f7 = u) (gW G (tm cx) (MA a) (wm cx a)) (MA a)) ([.ref (a 0), .int (iI x1), .int (iI x2)] : List Value).toArray s 0 0 (MA a)) (F0 m 17 ls []) := by
          intro N
          induction N with
          | zero => intro i2 v7 hinv hlt; exfalso; omega
          | succ N ih_17 =>
            intro i2 v7 ⟨hj0, hj1, hvr, hv7⟩ hlt_17 H locs ls hP hD hS hl
            refine lv_iload hex hbc dX5_layGrid_17 (lv_at hl 0 rfl) ?_
            refine lv_iload_n hex hbc dX5_layGrid_19 rfl (lv_at hl 4 rfl) ?_
            refine zt_icmp_ge (a := i2) (b := x2) (tgt := 65) hex hbc (by omega) dX5_layGrid_20 (by decide) (fun c20 => ?_) (fun c20 => ?_)
            · skip
              refine lv_iinc (v := iI (i1 + (-1))) (lv' := [(3, .int (iI (i1 + (-1)))), (4, .int (iI i2)), (0, .ref (a 0)), (1, .int (iI x1)), (2, .int (iI x2))]) hex hbc dX5_layGrid_65 hl (k := 1) rfl (iI_add _ _) (by decide) rfl (fun ls hl => ?_)
              refine lv_goto (tgt := 10) hex hbc dX5_layGrid_68 (by decide) ?_
              exact ih_10 (i1 + (-1)) v7 ⟨by omega, by omega, fun m m0 m1 => if hq : m = i1 then (by rw [hq]; exact fun j j0 j1 jz => hv7 j j0 (by omega) jz) else hvr m (by omega) m1⟩ (by omega) _ _ _ hP hD hS (lv_sub hl [0, 2, 3, 4] rfl)
            · skip
              refine lv_aload_n hex hbc dX5_layGrid_23 rfl (lv_at hl 2 rfl) ?_
              refine va_get (v := .ref (a 7)) hex hbc hts hin5 hown hK hP 0 rfl rfl 8 (by decide) (hts _ (List.mem_of_getElem? (i := 2) rfl)) (fun _ h => h) rfl dX5_layGrid_24 ?_
              refine lv_bipush (v := iI 33) hex hbc dX5_layGrid_27 (by decide) ?_
              refine lv_iload_n hex hbc dX5_layGrid_29 rfl (lv_at hl 1 rfl) ?_
              refine zt_imul hex hbc dX5_layGrid_30 ?_
              refine lv_iload hex hbc dX5_layGrid_31 (lv_at hl 0 rfl) ?_
              refine zt_iadd hex hbc dX5_layGrid_33 ?_
              refine lv_iload_n hex hbc dX5_layGrid_34 rfl (lv_at hl 1 rfl) ?_
              refine zt_if_ne (a := i1) (tgt := 49) hex hbc (by omega) dX5_layGrid_35 (by decide) (fun c35 => ?_) (fun c35 => ?_)
              · skip
                refine lv_aload_n hex hbc dX5_layGrid_49 rfl (lv_at hl 2 rfl) ?_
                refine lv_iload_n hex hbc dX5_layGrid_50 rfl (lv_at hl 1 rfl) ?_
                refine lv_iload hex hbc dX5_layGrid_51 (lv_at hl 0 rfl) ?_
                have hro : i1 + 1 < σ 0 74 → RowM (σ 0) x1 x2 v7 (i1 + 1) := fun h => hvr (i1 + 1) (by omega) h
                refine lv_iload_n hex hbc dX5_layGrid_53 rfl (lv_at hl 3 rfl) ?_
                refine lv_iload_n hex hbc dX5_layGrid_54 rfl (lv_at hl 4 rfl) ?_
                refine g_calll [.int (iI i1), .int (iI i2), .int (iI x1), .int (iI x2)] ⟨hex, hbc, hml, hown, hts⟩ (mX5_bestFrom l G cx a (sc σ 7 v7) i1 i2 x1 x2 (show 0 ≤ i1 ∧ i1 < σ 0 74 from by omega) (show 0 ≤ i2 ∧ i2 < x2 from by omega) (show 1 ≤ x1 ∧ x1 ≤ 200000 from by omega) (show 1 ≤ x2 ∧ x2 ≤ 32 from by omega) (by assumption) hI) (cwV 4 hts gX5_layGrid_X5_bestFrom rfl rfl rfl (by decide +kernel) ⟨Nat.le_of_ble_eq_true rfl, Nat.le_of_ble_eq_true rfl⟩) hK hP hD hS (fun _ h => h) 0 5 rfl rfl rfl rfl hl.1 (Nat.le_of_ble_eq_true rfl) dX5_layGrid_55 ⟨Nat.zero_le _, Nat.zero_le _⟩ (fun r_55 u_55 H locs hw_55 hP hD hS hz_55 hk_55 => ?_)
                obtain ⟨rfl, rfl⟩ := hw_55
                have hi_58 : (0 : Int) ≤ ((33 * i1) + i2) ∧ ((33 * i1) + i2) < (544 : Int) := (by omega)
                refine g_last (σ := (sc σ 7 v7)) (f := v7) (i := ((33 * i1) + i2)) (v := (bst (σ 0) x1 x2 (σ 0 74 - 1 - i1).toNat i2)) (τ := st (sc σ 7 v7) 7 ((33 * i1) + i2) (bst (σ 0) x1 x2 (σ 0 74 - 1 - i1).toNat i2)) hex hbc hK hP hD hS 7 1 rfl rfl (by decide) hi_58 dX5_layGrid_58 (wm_up_7 hi_58) (fun H locs hP hD hS => ?_)
                obtain ⟨f7_58, ef7_58⟩ : ∃ z : Int → Int, z = ups v7 ((33 * i1) + i2) (bst (σ 0) x1 x2 (σ 0 74 - 1 - i1).toNat i2) := ⟨_, rfl⟩
                have hP : va_P G vwCl (wm cx a (sc σ 7 f7_58)) H := by rw [ef7_58]; exact hP
                have hD : va_D (MA a) (wm cx a (sc σ 7 f7_58)) := by rw [ef7_58]; exact hD
                refine lv_iinc (v := iI (i2 + 1)) (lv' := [(4, .int (iI (i2 + 1))), (3, .int (iI i1)), (0, .ref (a 0)), (1, .int (iI x1)), (2, .int (iI x2))]) hex hbc dX5_layGrid_59 hl (k := 0) rfl (iI_add _ _) (by decide) rfl (fun ls hl => ?_)
                refine lv_goto (tgt := 17) hex hbc dX5_layGrid_62 (by decide) ?_
                exact ih_17 (i2 + 1) f7_58 ⟨by omega, by omega, fun m m0 m1 j j0 j1 jz => by rw [ef7_58, ups_n _ _ (by omega)]; exact hvr m m0 m1 j j0 j1 jz, fun j j0 j1 jz => if hq : j = i2 then (by first | (rw [ef7_58, hq, ups_s]; done) | (exfalso; have hjz := jz (by omega); omega)) else (by rw [ef7_58, ups_n _ _ (by omega)]; exact hv7 j j0 (by omega) jz)⟩ (by omega) _ _ _ hP hD hS (lv_sub hl [0, 1, 2, 3, 4] rfl)
              · skip
                refine lv_iload hex hbc dX5_layGrid_38 (lv_at hl 0 rfl) ?_
                refine zt_if_le (a := i2) (tgt := 49) hex hbc (by omega) dX5_layGrid_40 (by decide) (fun c40 => ?_) (fun c40 => ?_)
                · skip
                  refine lv_aload_n hex hbc dX5_layGrid_49 rfl (lv_at hl 2 rfl) ?_
                  refine lv_iload_n hex hbc dX5_layGrid_50 rfl (lv_at hl 1 rfl) ?_
                  refine lv_iload hex hbc dX5_layGrid_51 (lv_at hl 0 rfl) ?_
                  have hro : i1 + 1 < σ 0 74 → RowM (σ 0) x1 x2 v7 (i1 + 1) := fun h => hvr (i1 + 1) (by omega) h
                  refine lv_iload_n hex hbc dX5_layGrid_53 rfl (lv_at hl 3 rfl) ?_
                  refine lv_iload_n hex hbc dX5_layGrid_54 rfl (lv_at hl 4 rfl) ?_
                  refine g_calll [.int (iI i1), .int (iI i2), .int (iI x1), .int (iI x2)] ⟨hex, hbc, hml, hown, hts⟩ (mX5_bestFrom l G cx a (sc σ 7 v7) i1 i2 x1 x2 (show 0 ≤ i1 ∧ i1 < σ 0 74 from by omega) (show 0 ≤ i2 ∧ i2 < x2 from by omega) (show 1 ≤ x1 ∧ x1 ≤ 200000 from by omega) (show 1 ≤ x2 ∧ x2 ≤ 32 from by omega) (by assumption) hI) (cwV 4 hts gX5_layGrid_X5_bestFrom rfl rfl rfl (by decide +kernel) ⟨Nat.le_of_ble_eq_true rfl, Nat.le_of_ble_eq_true rfl⟩) hK hP hD hS (fun _ h => h) 0 5 rfl rfl rfl rfl hl.1 (Nat.le_of_ble_eq_true rfl) dX5_layGrid_55 ⟨Nat.zero_le _, Nat.zero_le _⟩ (fun r_55 u_55 H locs hw_55 hP hD hS hz_55 hk_55 => ?_)
                  obtain ⟨rfl, rfl⟩ := hw_55
                  have hi_58 : (0 : Int) ≤ ((33 * i1) + i2) ∧ ((33 * i1) + i2) < (544 : Int) := (by omega)
                  refine g_last (σ := (sc σ 7 v7)) (f := v7) (i := ((33 * i1) + i2)) (v := (bst (σ 0) x1 x2 (σ 0 74 - 1 - i1).toNat i2)) (τ := st (sc σ 7 v7) 7 ((33 * i1) + i2) (bst (σ 0) x1 x2 (σ 0 74 - 1 - i1).toNat i2)) hex hbc hK hP hD hS 7 1 rfl rfl (by decide) hi_58 dX5_layGrid_58 (wm_up_7 hi_58) (fun H locs hP hD hS => ?_)
                  obtain ⟨f7_58, ef7_58⟩ : ∃ z : Int → Int, z = ups v7 ((33 * i1) + i2) (bst (σ 0) x1 x2 (σ 0 74 - 1 - i1).toNat i2) := ⟨_, rfl⟩
                  have hP : va_P G vwCl (wm cx a (sc σ 7 f7_58)) H := by rw [ef7_58]; exact hP
                  have hD : va_D (MA a) (wm cx a (sc σ 7 f7_58)) := by rw [ef7_58]; exact hD
                  refine lv_iinc (v := iI (i2 + 1)) (lv' := [(4, .int (iI (i2 + 1))), (3, .int (iI i1)), (0, .ref (a 0)), (1, .int (iI x1)), (2, .int (iI x2))]) hex hbc dX5_layGrid_59 hl (k := 0) rfl (iI_add _ _) (by decide) rfl (fun ls hl => ?_)
                  refine lv_goto (tgt := 17) hex hbc dX5_layGrid_62 (by decide) ?_
                  exact ih_17 (i2 + 1) f7_58 ⟨by omega, by omega, fun m m0 m1 j j0 j1 jz => by rw [ef7_58, ups_n _ _ (by omega)]; exact hvr m m0 m1 j j0 j1 jz, fun j j0 j1 jz => if hq : j = i2 then (by first | (rw [ef7_58, hq, ups_s]; done) | (exfalso; have hjz := jz (by omega); omega)) else (by rw [ef7_58, ups_n _ _ (by omega)]; exact hv7 j j0 (by omega) jz)⟩ (by omega) _ _ _ hP hD hS (lv_sub hl [0, 1, 2, 3, 4] rfl)
                · skip
                  refine lv_ldc2 (v := lI 1152921504606846976) hex hbc hown (hts _ (List.mem_of_getElem? (i := 3) rfl)) dX5_layGrid_43 ?_
                  refine lv_goto (tgt := 58) hex hbc dX5_layGrid_46 (by decide) ?_
                  have hi_58 : (0 : Int) ≤ ((33 * i1) + i2) ∧ ((33 * i1) + i2) < (544 : Int) := (by omega)
                  refine g_last (σ := (sc σ 7 v7)) (f := v7) (i := ((33 * i1) + i2)) (v := 1152921504606846976) (τ := st (sc σ 7 v7) 7 ((33 * i1) + i2) 1152921504606846976) hex hbc hK hP hD hS 7 1 rfl rfl (by decide) hi_58 dX5_layGrid_58 (wm_up_7 hi_58) (fun H locs hP hD hS => ?_)
                  obtain ⟨f7_58, ef7_58⟩ : ∃ z : Int → Int, z = ups v7 ((33 * i1) + i2) 1152921504606846976 := ⟨_, rfl⟩
                  have hP : va_P G vwCl (wm cx a (sc σ 7 f7_58)) H := by rw [ef7_58]; exact hP
                  have hD : va_D (MA a) (wm cx a (sc σ 7 f7_58)) := by rw [ef7_58]; exact hD
                  refine lv_iinc (v := iI (i2 + 1)) (lv' := [(4, .int (iI (i2 + 1))), (3, .int (iI i1)), (0, .ref (a 0)), (1, .int (iI x1)), (2, .int (iI x2))]) hex hbc dX5_layGrid_59 hl (k := 0) rfl (iI_add _ _) (by decide) rfl (fun ls hl => ?_)
                  refine lv_goto (tgt := 17) hex hbc dX5_layGrid_62 (by decide) ?_
                  exact ih_17 (i2 + 1) f7_58 ⟨by omega, by omega, fun m m0 m1 j j0 j1 jz => by rw [ef7_58, ups_n _ _ (by omega)]; exact hvr m m0 m1 j j0 j1 jz, fun j j0 j1 jz => if hq : j = i2 then (by first | (rw [ef7_58, hq, ups_s]; done) | (exfalso; have hjz := jz (by omega); omega)) else (by rw [ef7_58, ups_n _ _ (by omega)]; exact hv7 j j0 (by omega) jz)⟩ (by omega) _ _ _ hP hD hS (lv_sub hl [0, 1, 2, 3, 4] rfl)
        exact loop_17 _ 0 w7 ⟨by omega, by omega, hrw, fun j j0 j1 => by omega⟩ (mz_lt _) _ _ _ hP hD hS (lv_sub hl [0, 1, 2, 3, 4] rfl)
  exact loop_10 _ (σ 0 74 - 1) (σ 7) ⟨by omega, by omega, fun m m0 m1 => by omega⟩ (mz_lt _) _ _ _ hP hD hS (lv_sub hl [0, 1, 2, 3] rfl)
