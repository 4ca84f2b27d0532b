/-! the program: the greatest threshold (rows laid by wip/gen) -/
theorem iX4_thresholdFor_X2 : ∀ w ∈ wsX20, w ∈ wsX4_thresholdFor := fun _ h => List.mem_cons_of_mem _ (List.mem_append_right _ h)
theorem iX4_thresholdFor_X4 : ∀ w ∈ wsX40, w ∈ wsX4_thresholdFor := fun _ h => List.mem_cons_of_mem _ (List.mem_append_left _ (List.mem_append_right _ h))
set_option maxHeartbeats 4000000 in
set_option maxRecDepth 100000 in
theorem mX4_thresholdFor (l : Launch) (G : va_G) (cx a : Nat → Nat) (σ : Nat → Int → Int)  (x : Int) (hx : -2147483648 ≤ x ∧ x < 2147483648) (hI : Inv (σ 0)) : Met l yX4_thresholdFor wsX4_thresholdFor ({ frames := 1, cells := 0, slots := 0, locals := 25 }) (va_Pc [.ref (a 0), .int (iI x)] (gW G (tx cx) (XA a) (wx cx a) σ)) (va_Qi (fun r u => (¬ (1 ≤ x ∧ x ≤ 16) → iI (-1) = r) ∧ ((1 ≤ x ∧ x ≤ 16) → ∃ v, iI v = r ∧ TF_ (σ 0) x v) ∧ XQ_ σ u) (gW G (tx cx) (XA a) (wx cx a)) (XA a)) 0 0 (XA a) := by
  refine Met.ofW (cc := cX4_thresholdFor) (maxL := 5) (ret := some .int) (by decide) rfl ?_
  intro p e s m args below meth c s₁ B hml hv
  obtain ⟨rfl, hP, hK, hD⟩ := hv
  have hex := B.exec
  have hbc := B.bytes
  have hrt := B.returns
  have hts := atoms_spec (ws := wsX4_thresholdFor) B.pre
  have hown : s.vm.findClass RX4 = some m.cls := findClass_of_methodNamed B.named
  have hlocks := B.notSynchronized
  have hS : va_S (XA a) s.heap s.heap [] := va_S.rf
  have hin2 := iX4_thresholdFor_X2
  have hin4 := iX4_thresholdFor_X4
  have hl := lv_entry ([.ref (a 0), .int (iI x)]) (n := 5) (Nat.le_of_ble_eq_true rfl)
  rw [lg_entry_eq]
  generalize (lg_sl ([.ref (a 0), .int (iI x)]) ++ List.replicate (5 - (lg_sl ([.ref (a 0), .int (iI x)])).length) Slot.unset).toArray = ls at hl ⊢
  have hl : lv_has ls 5 [(0, .ref (a 0)), (1, .int (iI x))] := hl
  obtain ⟨hB, hEn, hMk, hAs, hPm⟩ := id hI
  have hf9 := (fbn_1 (σ 0) 999 (fun k => σ 0 (75 + k)) (σ 13) (σ 0 0 - 1).toNat).1
  have hi9 := fbn_in (σ 0) 999 (σ 13) (σ 0 0 - 1).toNat
  have hi91 := hi9.1
  have hi92 := hi9.2.1
  refine lv_iload_n hex hbc dX4_thresholdFor_0 rfl (lv_at hl 1 rfl) ?_
  refine lv_iconst (v := iI 1) hex hbc dX4_thresholdFor_1 rfl ?_
  refine zt_icmp_lt (a := x) (b := 1) (tgt := 11) hex hbc (by omega) dX4_thresholdFor_2 (by decide) (fun c2 => ?_) (fun c2 => ?_)
  · skip
    refine lv_iconst (v := iI (-1)) hex hbc dX4_thresholdFor_11 rfl ?_
    exact g_iret hex hbc hrt hlocks hK hP hD hS ⟨fun _ => rfl, fun h => (by exfalso; omega), ⟨rfl, rfl, rfl, rfl, rfl, rfl⟩⟩ dX4_thresholdFor_12
  · skip
    refine lv_iload_n hex hbc dX4_thresholdFor_5 rfl (lv_at hl 1 rfl) ?_
    refine lv_bipush (v := iI 16) hex hbc dX4_thresholdFor_6 (by decide) ?_
    refine zt_icmp_le (a := x) (b := 16) (tgt := 13) hex hbc (by omega) dX4_thresholdFor_8 (by decide) (fun c8 => ?_) (fun c8 => ?_)
    · skip
      refine lv_aload_n hex hbc dX4_thresholdFor_13 rfl (lv_at hl 0 rfl) ?_
      refine va_get (v := .ref (a 3)) hex hbc hts hin4 hown hK hP 0 rfl rfl 0 (by decide) (hts _ (List.mem_of_getElem? (i := 1) rfl)) (fun _ h => h) rfl dX4_thresholdFor_14 ?_
      refine lv_sipush (v := iI 999) hex hbc dX4_thresholdFor_17 (by decide) ?_
      refine lv_aload_n hex hbc dX4_thresholdFor_20 rfl (lv_at hl 0 rfl) ?_
      refine va_get (v := .ref (a 2)) hex hbc hts hin4 hown hK hP 0 rfl rfl 6 (by decide) (hts _ (List.mem_of_getElem? (i := 2) rfl)) (fun _ h => h) rfl dX4_thresholdFor_21 ?_
      refine g_calli [.int (iI 999), .ref (a 2)] ⟨hex, hbc, hml, hown, hts⟩ (mX2_findRises_2 l G cx a σ 999 (by omega) hI) (cwV 2 hts gX4_thresholdFor_X2_findRises rfl rfl rfl (by decide +kernel) ⟨Nat.le_of_ble_eq_true rfl, Nat.le_of_ble_eq_true rfl⟩) hK hP hD hS (fun _ h => h) 3 2 rfl rfl rfl rfl hl.1 (Nat.le_of_ble_eq_true rfl) dX4_thresholdFor_24 ⟨Nat.zero_le _, Nat.zero_le _⟩ (fun r_24 u_24 H locs hw_24 hP hD hS hz_24 hk_24 => ?_)
      obtain ⟨rfl, rfl⟩ := hw_24
      have hP : va_P G vwCl (wx cx a (sc σ 13 ((fbn (σ 0) 999 (σ 13) (σ 0 0 - 1).toNat).2))) H := hP
      have hD : va_D (XA a) (wx cx a (sc σ 13 ((fbn (σ 0) 999 (σ 13) (σ 0 0 - 1).toNat).2))) := hD
      refine lv_iload_n hex hbc dX4_thresholdFor_27 rfl (lv_at hl 1 rfl) ?_
      refine zt_icmp_lt (a := ((fbn (σ 0) 999 (σ 13) (σ 0 0 - 1).toNat).1)) (b := x) (tgt := 35) hex hbc (by omega) dX4_thresholdFor_28 (by decide) (fun c28 => ?_) (fun c28 => ?_)
      · skip
        have h9 : fnd (σ 0) 999 < x := by have : fnd (σ 0) 999 = _ := hf9; omega
        refine lv_iconst (v := iI 0) hex hbc dX4_thresholdFor_35 rfl ?_
        refine lv_istore_n (lv' := [(2, .int (iI 0)), (0, .ref (a 0)), (1, .int (iI x))]) hex hbc dX4_thresholdFor_36 rfl hl (by decide) rfl (fun ls hl => ?_)
        refine lv_iconst (v := iI 1) hex hbc dX4_thresholdFor_37 rfl ?_
        refine lv_istore_n (lv' := [(3, .int (iI 1)), (2, .int (iI 0)), (0, .ref (a 0)), (1, .int (iI x))]) hex hbc dX4_thresholdFor_38 rfl hl (by decide) rfl (fun ls hl => ?_)
        have loop_39 : ∀ (N : Nat) (i1 : Int) (b1 : Int) (w13 : Int → Int), (1 ≤ i1 ∧ i1 ≤ σ 0 0 ∧ (0 ≤ b1 ∧ b1 ≤ 999) ∧ (b1 = 0 ∨ x ≤ fnd (σ 0) b1) ∧ ∀ i, 1 ≤ i → i < i1 → b1 < ris_ (σ 0) i → fnd (σ 0) (ris_ (σ 0) i) < x) → (64 - i1) < (N : Int) → ∀ (H : Heap) (locs : List Loc) (ls : Array Slot), va_P G vwCl (wx cx a (sc σ 13 w13)) H → va_D (XA a) (wx cx a (sc σ 13 w13)) → va_S (XA a) s.heap H locs → lv_has ls 5 [(3, .int (iI i1)), (2, .int (iI b1)), (0, .ref (a 0)), (1, .int (iI x))] → W p l e (headSpec wsX4_thresholdFor ({ frames := 1, cells := 0, slots := 0, locals := 25 })).room s m ([.ref (a 0), .int (iI x)] : List Value).toArray below meth c H locs 0 0 (MQ below (va_Qi (fun r u => (¬ (1 ≤ x ∧ x ≤ 16) → iI (-1) = r) ∧ ((1 ≤ x ∧ x ≤ 16) → ∃ v, iI v = r ∧ TF_ (σ 0) x v) ∧ XQ_ σ u) (gW G (tx cx) (XA a) (wx cx a)) (XA a)) ([.ref (a 0), .int (iI x)] : List Value).toArray s 0 0 (XA a)) (F0 m 39 ls []) := by
          intro N
          induction N with
          | zero => intro i1 b1 w13 hinv hlt; exfalso; omega
          | succ N ih_39 =>
            intro i1 b1 w13 ⟨hi0, hi1, hb, hbx, hw⟩ hlt_39 H locs ls hP hD hS hl
            refine lv_iload_n hex hbc dX4_thresholdFor_39 rfl (lv_at hl 0 rfl) ?_
            refine lv_aload_n hex hbc dX4_thresholdFor_40 rfl (lv_at hl 2 rfl) ?_
            refine va_get (v := .ref (a 3)) hex hbc hts hin4 hown hK hP 0 rfl rfl 0 (by decide) (hts _ (List.mem_of_getElem? (i := 1) rfl)) (fun _ h => h) rfl dX4_thresholdFor_41 ?_
            refine va_get (v := .int (iI (σ 0 0))) hex hbc hts hin2 hown hK hP 3 rfl rfl 0 (by decide) (hts _ (List.mem_of_getElem? (i := 3) rfl)) (fun _ h => h) rfl dX4_thresholdFor_44 ?_
            refine zt_icmp_ge (a := i1) (b := (σ 0 0)) (tgt := 105) hex hbc (by omega) dX4_thresholdFor_47 (by decide) (fun c47 => ?_) (fun c47 => ?_)
            · skip
              refine lv_iload_n hex hbc dX4_thresholdFor_105 rfl (lv_at hl 1 rfl) ?_
              refine zt_if_le (a := b1) (tgt := 113) hex hbc (by omega) dX4_thresholdFor_106 (by decide) (fun c106 => ?_) (fun c106 => ?_)
              · skip
                have htf := tf_scan h9 (fun i h1 h2 h3 => hw i h1 (by omega) h3)
                refine lv_bipush (v := iI (-9)) hex hbc dX4_thresholdFor_113 (by decide) ?_
                exact g_iret hex hbc hrt hlocks hK hP hD hS ⟨fun h => (by exfalso; omega), fun _ => ⟨_, rfl, Or.inl ⟨rfl, fun t h1 h2 => htf t (by omega) h2⟩⟩, ⟨rfl, rfl, rfl, rfl, rfl, rfl⟩⟩ dX4_thresholdFor_115
              · skip
                have htf := tf_scan h9 (fun i h1 h2 h3 => hw i h1 (by omega) h3)
                refine lv_iload_n hex hbc dX4_thresholdFor_109 rfl (lv_at hl 1 rfl) ?_
                refine lv_goto (tgt := 115) hex hbc dX4_thresholdFor_110 (by decide) ?_
                exact g_iret hex hbc hrt hlocks hK hP hD hS ⟨fun h => (by exfalso; omega), fun _ => ⟨_, rfl, Or.inr ⟨by omega, by omega, by omega, htf⟩⟩, ⟨rfl, rfl, rfl, rfl, rfl, rfl⟩⟩ dX4_thresholdFor_115
            · skip
              have hen1 := hEn i1 (by omega) (by omega)
              have hen2 := hEn (i1 - 1) (by omega) (by omega)
              have hrs : ris_ (σ 0) i1 = σ 0 (10 + i1) - σ 0 (10 + (i1 - 1)) := rfl
              refine lv_aload_n hex hbc dX4_thresholdFor_50 rfl (lv_at hl 2 rfl) ?_
              refine va_get (v := .ref (a 3)) hex hbc hts hin4 hown hK hP 0 rfl rfl 0 (by decide) (hts _ (List.mem_of_getElem? (i := 1) rfl)) (fun _ h => h) rfl dX4_thresholdFor_51 ?_
              refine va_get (v := .ref (a 4)) hex hbc hts hin2 hown hK hP 3 rfl rfl 2 (by decide) (hts _ (List.mem_of_getElem? (i := 4) rfl)) (fun _ h => h) rfl dX4_thresholdFor_54 ?_
              refine lv_iload_n hex hbc dX4_thresholdFor_57 rfl (lv_at hl 0 rfl) ?_
              refine g_iald (f := (fun k => (σ 0 (10 + k)))) (v := (σ 0 (10 + i1))) (i := i1) hex hbc hK hP 4 0 rfl rfl (by decide) (by omega) rfl dX4_thresholdFor_58 ?_
              refine lv_aload_n hex hbc dX4_thresholdFor_59 rfl (lv_at hl 2 rfl) ?_
              refine va_get (v := .ref (a 3)) hex hbc hts hin4 hown hK hP 0 rfl rfl 0 (by decide) (hts _ (List.mem_of_getElem? (i := 1) rfl)) (fun _ h => h) rfl dX4_thresholdFor_60 ?_
              refine va_get (v := .ref (a 4)) hex hbc hts hin2 hown hK hP 3 rfl rfl 2 (by decide) (hts _ (List.mem_of_getElem? (i := 4) rfl)) (fun _ h => h) rfl dX4_thresholdFor_63 ?_
              refine lv_iload_n hex hbc dX4_thresholdFor_66 rfl (lv_at hl 0 rfl) ?_
              refine lv_iconst (v := iI 1) hex hbc dX4_thresholdFor_67 rfl ?_
              refine zt_isub hex hbc dX4_thresholdFor_68 ?_
              refine g_iald (f := (fun k => (σ 0 (10 + k)))) (v := (σ 0 (10 + (i1 - 1)))) (i := (i1 - 1)) hex hbc hK hP 4 0 rfl rfl (by decide) (by omega) rfl dX4_thresholdFor_69 ?_
              refine zt_isub hex hbc dX4_thresholdFor_70 ?_
              refine lv_istore (lv' := [(4, .int (iI ((σ 0 (10 + i1)) - (σ 0 (10 + (i1 - 1)))))), (3, .int (iI i1)), (2, .int (iI b1)), (0, .ref (a 0)), (1, .int (iI x))]) hex hbc dX4_thresholdFor_71 hl (by decide) rfl (fun ls hl => ?_)
              refine lv_iload hex hbc dX4_thresholdFor_73 (lv_at hl 0 rfl) ?_
              refine lv_iload_n hex hbc dX4_thresholdFor_75 rfl (lv_at hl 2 rfl) ?_
              refine zt_icmp_le (a := ((σ 0 (10 + i1)) - (σ 0 (10 + (i1 - 1))))) (b := b1) (tgt := 99) hex hbc (by omega) dX4_thresholdFor_76 (by decide) (fun c76 => ?_) (fun c76 => ?_)
              · skip
                refine lv_iinc (v := iI (i1 + 1)) (lv' := [(3, .int (iI (i1 + 1))), (4, .int (iI ((σ 0 (10 + i1)) - (σ 0 (10 + (i1 - 1)))))), (2, .int (iI b1)), (0, .ref (a 0)), (1, .int (iI x))]) hex hbc dX4_thresholdFor_99 hl (k := 1) rfl (iI_add _ _) (by decide) rfl (fun ls hl => ?_)
                refine lv_goto (tgt := 39) hex hbc dX4_thresholdFor_102 (by decide) ?_
                exact ih_39 (i1 + 1) b1 w13 ⟨by omega, by omega, by omega, hbx, fun i h1 h2 h3 => if hq : i = i1 then (by rw [hq] at h3 ⊢; first | omega | (rw [hrs] at *; omega)) else hw i h1 (by omega) (by omega)⟩ (by omega) _ _ _ hP hD hS (lv_sub hl [0, 2, 3, 4] rfl)
              · skip
                have hfr := fbn_1 (σ 0) (σ 0 (10 + i1) - σ 0 (10 + (i1 - 1))) (fun k => σ 0 (75 + k)) w13 (σ 0 0 - 1).toNat
                have hfr1 : fnd (σ 0) (ris_ (σ 0) i1) = (fbn (σ 0) (σ 0 (10 + i1) - σ 0 (10 + (i1 - 1))) w13 (σ 0 0 - 1).toNat).1 := hfr.1
                have hfi := fbn_in (σ 0) (σ 0 (10 + i1) - σ 0 (10 + (i1 - 1))) w13 (σ 0 0 - 1).toNat
                have hfi1 := hfi.1
                have hfi2 := hfi.2.1
                refine lv_aload_n hex hbc dX4_thresholdFor_79 rfl (lv_at hl 3 rfl) ?_
                refine va_get (v := .ref (a 3)) hex hbc hts hin4 hown hK hP 0 rfl rfl 0 (by decide) (hts _ (List.mem_of_getElem? (i := 1) rfl)) (fun _ h => h) rfl dX4_thresholdFor_80 ?_
                refine lv_iload hex hbc dX4_thresholdFor_83 (lv_at hl 0 rfl) ?_
                refine lv_aload_n hex hbc dX4_thresholdFor_85 rfl (lv_at hl 3 rfl) ?_
                refine va_get (v := .ref (a 2)) hex hbc hts hin4 hown hK hP 0 rfl rfl 6 (by decide) (hts _ (List.mem_of_getElem? (i := 2) rfl)) (fun _ h => h) rfl dX4_thresholdFor_86 ?_
                refine g_calli [.int (iI ((σ 0 (10 + i1)) - (σ 0 (10 + (i1 - 1))))), .ref (a 2)] ⟨hex, hbc, hml, hown, hts⟩ (mX2_findRises_2 l G cx a (sc σ 13 w13) ((σ 0 (10 + i1)) - (σ 0 (10 + (i1 - 1)))) (show -2147483648 ≤ ((σ 0 (10 + i1)) - (σ 0 (10 + (i1 - 1)))) ∧ ((σ 0 (10 + i1)) - (σ 0 (10 + (i1 - 1)))) < 2147483648 from by omega) hI) (cwV 2 hts gX4_thresholdFor_X2_findRises rfl rfl rfl (by decide +kernel) ⟨Nat.le_of_ble_eq_true rfl, Nat.le_of_ble_eq_true rfl⟩) hK hP hD hS (fun _ h => h) 3 2 rfl rfl rfl rfl hl.1 (Nat.le_of_ble_eq_true rfl) dX4_thresholdFor_89 ⟨Nat.zero_le _, Nat.zero_le _⟩ (fun r_89 u_89 H locs hw_89 hP hD hS hz_89 hk_89 => ?_)
                obtain ⟨rfl, rfl⟩ := hw_89
                have hP : va_P G vwCl (wx cx a (sc σ 13 ((fbn (σ 0) ((σ 0 (10 + i1)) - (σ 0 (10 + (i1 - 1)))) (w13) (σ 0 0 - 1).toNat).2))) H := hP
                have hD : va_D (XA a) (wx cx a (sc σ 13 ((fbn (σ 0) ((σ 0 (10 + i1)) - (σ 0 (10 + (i1 - 1)))) (w13) (σ 0 0 - 1).toNat).2))) := hD
                refine lv_iload_n hex hbc dX4_thresholdFor_92 rfl (lv_at hl 4 rfl) ?_
                refine zt_icmp_lt (a := ((fbn (σ 0) ((σ 0 (10 + i1)) - (σ 0 (10 + (i1 - 1)))) (w13) (σ 0 0 - 1).toNat).1)) (b := x) (tgt := 99) hex hbc (by omega) dX4_thresholdFor_93 (by decide) (fun c93 => ?_) (fun c93 => ?_)
                · skip
                  refine lv_iinc (v := iI (i1 + 1)) (lv' := [(3, .int (iI (i1 + 1))), (4, .int (iI ((σ 0 (10 + i1)) - (σ 0 (10 + (i1 - 1)))))), (2, .int (iI b1)), (0, .ref (a 0)), (1, .int (iI x))]) hex hbc dX4_thresholdFor_99 hl (k := 1) rfl (iI_add _ _) (by decide) rfl (fun ls hl => ?_)
                  refine lv_goto (tgt := 39) hex hbc dX4_thresholdFor_102 (by decide) ?_
                  exact ih_39 (i1 + 1) b1 ((fbn (σ 0) ((σ 0 (10 + i1)) - (σ 0 (10 + (i1 - 1)))) (w13) (σ 0 0 - 1).toNat).2) ⟨by omega, by omega, by omega, hbx, fun i h1 h2 h3 => if hq : i = i1 then (by rw [hq] at h3 ⊢; first | omega | (rw [hrs] at *; omega)) else hw i h1 (by omega) (by omega)⟩ (by omega) _ _ _ hP hD hS (lv_sub hl [0, 2, 3, 4] rfl)
                · skip
                  refine lv_iload hex hbc dX4_thresholdFor_96 (lv_at hl 0 rfl) ?_
                  refine lv_istore_n (lv' := [(2, .int (iI ((σ 0 (10 + i1)) - (σ 0 (10 + (i1 - 1)))))), (4, .int (iI ((σ 0 (10 + i1)) - (σ 0 (10 + (i1 - 1)))))), (3, .int (iI i1)), (0, .ref (a 0)), (1, .int (iI x))]) hex hbc dX4_thresholdFor_98 rfl hl (by decide) rfl (fun ls hl => ?_)
                  refine lv_iinc (v := iI (i1 + 1)) (lv' := [(3, .int (iI (i1 + 1))), (2, .int (iI ((σ 0 (10 + i1)) - (σ 0 (10 + (i1 - 1)))))), (4, .int (iI ((σ 0 (10 + i1)) - (σ 0 (10 + (i1 - 1)))))), (0, .ref (a 0)), (1, .int (iI x))]) hex hbc dX4_thresholdFor_99 hl (k := 2) rfl (iI_add _ _) (by decide) rfl (fun ls hl => ?_)
                  refine lv_goto (tgt := 39) hex hbc dX4_thresholdFor_102 (by decide) ?_
                  exact ih_39 (i1 + 1) ((σ 0 (10 + i1)) - (σ 0 (10 + (i1 - 1)))) ((fbn (σ 0) ((σ 0 (10 + i1)) - (σ 0 (10 + (i1 - 1)))) (w13) (σ 0 0 - 1).toNat).2) ⟨by omega, by omega, by omega, Or.inr (by rw [← hrs]; omega), fun i h1 h2 h3 => if hq : i = i1 then (by rw [hq] at h3 ⊢; first | omega | (rw [hrs] at *; omega)) else hw i h1 (by omega) (by omega)⟩ (by omega) _ _ _ hP hD hS (lv_sub hl [0, 1, 3, 4] rfl)
        exact loop_39 _ 1 0 ((fbn (σ 0) 999 (σ 13) (σ 0 0 - 1).toNat).2) ⟨by omega, by omega, by omega, Or.inl rfl, fun i h1 h2 => by omega⟩ (mz_lt _) _ _ _ hP hD hS (lv_sub hl [0, 1, 2, 3] rfl)
      · skip
        refine lv_sipush (v := iI 999) hex hbc dX4_thresholdFor_31 (by decide) ?_
        exact g_iret hex hbc hrt hlocks hK hP hD hS ⟨fun h => (by exfalso; omega), fun _ => ⟨999, rfl, Or.inr ⟨by omega, by omega, (by have : fnd (σ 0) 999 = _ := hf9; omega), fun t h1 h2 => by omega⟩⟩, ⟨rfl, rfl, rfl, rfl, rfl, rfl⟩⟩ dX4_thresholdFor_34
    · skip
      refine lv_iconst (v := iI (-1)) hex hbc dX4_thresholdFor_11 rfl ?_
      exact g_iret hex hbc hrt hlocks hK hP hD hS ⟨fun _ => rfl, fun h => (by exfalso; omega), ⟨rfl, rfl, rfl, rfl, rfl, rfl⟩⟩ dX4_thresholdFor_12
