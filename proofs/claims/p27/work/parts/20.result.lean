/-! the program: the slices as they lie in the result (rows laid by wip/gen) -/
theorem iX3_giveOne_X2 : ∀ w ∈ wsX20, w ∈ wsX3_giveOne := fun _ h => List.mem_cons_of_mem _ (List.mem_append_right _ h)
theorem iX3_giveOne_X3 : ∀ w ∈ wsX30, w ∈ wsX3_giveOne := fun _ h => List.mem_cons_of_mem _ (List.mem_append_left _ (List.mem_append_right _ h))
set_option maxHeartbeats 4000000 in
set_option maxRecDepth 100000 in
theorem mX3_giveOne (l : Launch) (G : va_G) (cx a : Nat → Nat) (σ : Nat → Int → Int) (n0 : Nat)  (hn : (n0 : Int) < left_ (σ 0)) (hb9 : ∀ k, 0 ≤ k → k < σ 0 74 → σ 19 k = b0_ (σ 0) k + sv_ (σ 0) n0 k) (hr0 : ∀ k, 0 ≤ k → k < σ 0 74 → σ 20 k = rr_ (σ 0) (sv_ (σ 0) n0) k) (hI : Inv (σ 0)) : Met l yX3_giveOne wsX3_giveOne ({ frames := 0, cells := 0, slots := 0, locals := 0 }) (va_Pc [.ref (a 14)] (gW G (tx cx) (XA a) (wx cx a) σ)) (va_Qv (fun u => ∃ f19 f20, (∀ k, 0 ≤ k → k < σ 0 74 → f19 k = b0_ (σ 0) k + sv_ (σ 0) (n0 + 1) k) ∧ (∀ k, 0 ≤ k → k < σ 0 74 → f20 k = rr_ (σ 0) (sv_ (σ 0) (n0 + 1)) k) ∧ sc (sc σ 19 f19) 20 f20 = u) (gW G (tx cx) (XA a) (wx cx a)) (XA a)) 0 0 (XA a) := by
  refine Met.ofW (cc := cX3_giveOne) (maxL := 3) (ret := none) (by decide) rfl ?_
  intro p e s m args below meth c s₁ B hml hv
  obtain ⟨rfl, hP, hK, hD⟩ := hv
  have hex := B.exec
  have hbc := B.bytes
  have hrt := B.returns
  have hts := atoms_spec (ws := wsX3_giveOne) B.pre
  have hown : s.vm.findClass RX3 = some m.cls := findClass_of_methodNamed B.named
  have hlocks := B.notSynchronized
  have hS : va_S (XA a) s.heap s.heap [] := va_S.rf
  have hin2 := iX3_giveOne_X2
  have hin3 := iX3_giveOne_X3
  have hl := lv_entry ([.ref (a 14)]) (n := 3) (Nat.le_of_ble_eq_true rfl)
  rw [lg_entry_eq]
  generalize (lg_sl ([.ref (a 14)]) ++ List.replicate (3 - (lg_sl ([.ref (a 14)])).length) Slot.unset).toArray = ls at hl ⊢
  have hl : lv_has ls 3 [(0, .ref (a 14))] := hl
  obtain ⟨hB, hEn, hMk, hAs, hPm⟩ := id hI
  have hlf := left_in hI
  have hnew := sv_new hI hn
  have hwh := hI.wh_in
  have hrr : ∀ k, -1 ≤ rr_ (σ 0) (sv_ (σ 0) n0) k ∧ rr_ (σ 0) (sv_ (σ 0) n0) k < 64000 := fun k => by have := rm_in hI k; unfold rr_; split <;> omega
  have hax := argx_in (rr_ (σ 0) (sv_ (σ 0) n0)) (σ 0 74 - 1).toNat
  have hsv := (sv_in hI n0 (by omega)).2
  refine lv_iconst (v := iI 0) hex hbc dX3_giveOne_0 rfl ?_
  refine lv_istore_n (lv' := [(1, .int (iI 0)), (0, .ref (a 14))]) hex hbc dX3_giveOne_1 rfl hl (by decide) rfl (fun ls hl => ?_)
  refine lv_iconst (v := iI 1) hex hbc dX3_giveOne_2 rfl ?_
  refine lv_istore_n (lv' := [(2, .int (iI 1)), (1, .int (iI 0)), (0, .ref (a 14))]) hex hbc dX3_giveOne_3 rfl hl (by decide) rfl (fun ls hl => ?_)
  have loop_4 : ∀ (N : Nat) (i1 : Int) (t1 : Int), (1 ≤ i1 ∧ i1 ≤ σ 0 74 ∧ t1 = argx (rr_ (σ 0) (sv_ (σ 0) n0)) (i1 - 1).toNat) → (σ 0 74 - i1) < (N : Int) → ∀ (H : Heap) (locs : List Loc) (ls : Array Slot), va_P G vwCl (wx cx a σ) H → va_D (XA a) (wx cx a σ) → va_S (XA a) s.heap H locs → lv_has ls 3 [(2, .int (iI i1)), (1, .int (iI t1)), (0, .ref (a 14))] → W p l e (headSpec wsX3_giveOne ({ frames := 0, cells := 0, slots := 0, locals := 0 })).room s m ([.ref (a 14)] : List Value).toArray below meth c H locs 0 0 (MQ below (va_Qv (fun u => ∃ f19 f20, (∀ k, 0 ≤ k → k < σ 0 74 → f19 k = b0_ (σ 0) k + sv_ (σ 0) (n0 + 1) k) ∧ (∀ k, 0 ≤ k → k < σ 0 74 → f20 k = rr_ (σ 0) (sv_ (σ 0) (n0 + 1)) k) ∧ sc (sc σ 19 f19) 20 f20 = u) (gW G (tx cx) (XA a) (wx cx a)) (XA a)) ([.ref (a 14)] : List Value).toArray s 0 0 (XA a)) (F0 m 4 ls []) := by
    intro N
    induction N with
    | zero => intro i1 t1 hinv hlt; exfalso; omega
    | succ N ih_4 =>
      intro i1 t1 ⟨hi0, hi1, ht⟩ hlt_4 H locs ls hP hD hS hl
      have ha1 := argx_in (rr_ (σ 0) (sv_ (σ 0) n0)) (i1 - 1).toNat
      rw [← ht] at ha1
      have ha2 := ha1.1
      have ha3 := ha1.2.1
      refine lv_iload_n hex hbc dX3_giveOne_4 rfl (lv_at hl 0 rfl) ?_
      refine lv_aload_n hex hbc dX3_giveOne_5 rfl (lv_at hl 2 rfl) ?_
      refine va_get (v := .ref (a 3)) hex hbc hts hin3 hown hK hP 14 rfl rfl 0 (by decide) (hts _ (List.mem_of_getElem? (i := 1) rfl)) (fun _ h => h) rfl dX3_giveOne_6 ?_
      refine va_get (v := .int (iI (σ 0 74))) hex hbc hts hin2 hown hK hP 3 rfl rfl 1 (by decide) (hts _ (List.mem_of_getElem? (i := 2) rfl)) (fun _ h => h) rfl dX3_giveOne_9 ?_
      refine zt_icmp_ge (a := i1) (b := (σ 0 74)) (tgt := 39) hex hbc (by omega) dX3_giveOne_12 (by decide) (fun c12 => ?_) (fun c12 => ?_)
      · skip
        have htt : t1 = argx (rr_ (σ 0) (sv_ (σ 0) n0)) (σ 0 74 - 1).toNat := by rw [ht, show i1 = σ 0 74 by omega]
        rw [← htt] at hnew
        have hsu : sv_ (σ 0) (n0 + 1) = ups (sv_ (σ 0) n0) t1 1 := by rw [htt]; rfl
        refine lv_aload_n hex hbc dX3_giveOne_39 rfl (lv_at hl 2 rfl) ?_
        refine va_get (v := .ref (a 15)) hex hbc hts hin3 hown hK hP 14 rfl rfl 2 (by decide) (hts _ (List.mem_of_getElem? (i := 4) rfl)) (fun _ h => h) rfl dX3_giveOne_40 ?_
        refine lv_iload_n hex hbc dX3_giveOne_43 rfl (lv_at hl 1 rfl) ?_
        refine lv_dup2_11 hex hbc dX3_giveOne_44 rfl rfl ?_
        refine g_iald (f := (σ 19)) (v := (σ 19 t1)) (i := t1) hex hbc hK hP 15 0 rfl rfl (by decide) (by omega) rfl dX3_giveOne_45 ?_
        refine lv_iconst (v := iI 1) hex hbc dX3_giveOne_46 rfl ?_
        refine zt_iadd hex hbc dX3_giveOne_47 ?_
        have hi_48 : (0 : Int) ≤ t1 ∧ t1 < (16 : Int) := (by omega)
        refine g_iast (σ := σ) (f := (σ 19)) (i := t1) (v := ((σ 19 t1) + 1)) (τ := st σ 19 t1 ((σ 19 t1) + 1)) hex hbc hK hP hD hS 15 0 rfl rfl (by decide) hi_48 dX3_giveOne_48 (wx_up_15 hi_48) (fun H locs hP hD hS => ?_)
        obtain ⟨f19_48, ef19_48⟩ : ∃ z : Int → Int, z = ups (σ 19) t1 ((σ 19 t1) + 1) := ⟨_, rfl⟩
        have hP : va_P G vwCl (wx cx a (sc σ 19 f19_48)) H := by rw [ef19_48]; exact hP
        have hD : va_D (XA a) (wx cx a (sc σ 19 f19_48)) := by rw [ef19_48]; exact hD
        refine lv_aload_n hex hbc dX3_giveOne_49 rfl (lv_at hl 2 rfl) ?_
        refine va_get (v := .ref (a 16)) hex hbc hts hin3 hown hK hP 14 rfl rfl 3 (by decide) (hts _ (List.mem_of_getElem? (i := 3) rfl)) (fun _ h => h) rfl dX3_giveOne_50 ?_
        refine lv_iload_n hex hbc dX3_giveOne_53 rfl (lv_at hl 1 rfl) ?_
        refine lv_ldc2 (v := lI (-1)) hex hbc hown (hts _ (List.mem_of_getElem? (i := 5) rfl)) dX3_giveOne_54 ?_
        have hi_57 : (0 : Int) ≤ t1 ∧ t1 < (16 : Int) := (by omega)
        refine g_last (σ := (sc σ 19 f19_48)) (f := (σ 20)) (i := t1) (v := (-1)) (τ := st (sc σ 19 f19_48) 20 t1 (-1)) hex hbc hK hP hD hS 16 1 rfl rfl (by decide) hi_57 dX3_giveOne_57 (wx_up_16 hi_57) (fun H locs hP hD hS => ?_)
        obtain ⟨f20_57, ef20_57⟩ : ∃ z : Int → Int, z = ups (σ 20) t1 (-1) := ⟨_, rfl⟩
        have hP : va_P G vwCl (wx cx a (sc (sc σ 19 f19_48) 20 f20_57)) H := by rw [ef20_57]; exact hP
        have hD : va_D (XA a) (wx cx a (sc (sc σ 19 f19_48) 20 f20_57)) := by rw [ef20_57]; exact hD
        exact g_vret hex hbc hrt hlocks hK hP hD hS ⟨f19_48, f20_57, fun k k0 k1 => (if hq : k = t1 then (by rw [ef19_48, hsu, hq, ups_s, ups_s, hb9 t1 (by omega) (by omega), hnew]; omega) else (by rw [ef19_48, hsu, ups_n _ _ hq, ups_n _ _ hq]; exact hb9 k k0 k1)), fun k k0 k1 => (if hq : k = t1 then (by rw [ef20_57, hsu, hq, ups_s]; unfold rr_; rw [ups_s]; rfl) else (by rw [ef20_57, ups_n _ _ hq, hr0 k k0 k1, hsu]; unfold rr_; rw [ups_n _ _ hq])), rfl⟩ dX3_giveOne_58
      · skip
        have hq1 := hrr i1
        have hq2 := hrr t1
        refine lv_aload_n hex hbc dX3_giveOne_15 rfl (lv_at hl 2 rfl) ?_
        refine va_get (v := .ref (a 16)) hex hbc hts hin3 hown hK hP 14 rfl rfl 3 (by decide) (hts _ (List.mem_of_getElem? (i := 3) rfl)) (fun _ h => h) rfl dX3_giveOne_16 ?_
        refine lv_iload_n hex hbc dX3_giveOne_19 rfl (lv_at hl 0 rfl) ?_
        refine g_lald (f := (σ 20)) (v := (σ 20 i1)) (i := i1) hex hbc hK hP 16 1 rfl rfl (by decide) (by omega) rfl dX3_giveOne_20 ?_
        refine zt_nml (a := (σ 20 i1)) (b := (rr_ (σ 0) (sv_ (σ 0) n0) i1)) (hr0 i1 (by omega) (by omega)) ?_
        refine lv_aload_n hex hbc dX3_giveOne_21 rfl (lv_at hl 2 rfl) ?_
        refine va_get (v := .ref (a 16)) hex hbc hts hin3 hown hK hP 14 rfl rfl 3 (by decide) (hts _ (List.mem_of_getElem? (i := 3) rfl)) (fun _ h => h) rfl dX3_giveOne_22 ?_
        refine lv_iload_n hex hbc dX3_giveOne_25 rfl (lv_at hl 1 rfl) ?_
        refine g_lald (f := (σ 20)) (v := (σ 20 t1)) (i := t1) hex hbc hK hP 16 1 rfl rfl (by decide) (by omega) rfl dX3_giveOne_26 ?_
        refine zt_nml (a := (σ 20 t1)) (b := (rr_ (σ 0) (sv_ (σ 0) n0) t1)) (hr0 t1 (by omega) (by omega)) ?_
        refine zt_lcmp (a := (rr_ (σ 0) (sv_ (σ 0) n0) i1)) (b := (rr_ (σ 0) (sv_ (σ 0) n0) t1)) hex hbc (by omega) dX3_giveOne_27 (fun dc27 hdc27 => ?_)
        refine zt_if_le (a := dc27) (tgt := 33) hex hbc (by omega) dX3_giveOne_28 (by decide) (fun c28 => ?_) (fun c28 => ?_)
        · skip
          refine lv_iinc (v := iI (i1 + 1)) (lv' := [(2, .int (iI (i1 + 1))), (1, .int (iI t1)), (0, .ref (a 14))]) hex hbc dX3_giveOne_33 hl (k := 0) rfl (iI_add _ _) (by decide) rfl (fun ls hl => ?_)
          refine lv_goto (tgt := 4) hex hbc dX3_giveOne_36 (by decide) ?_
          exact ih_4 (i1 + 1) t1 ⟨by omega, by omega, by rw [show i1 + 1 - 1 = i1 by omega, argx_at hi0, ← ht]; first | exact (if_pos (by omega)).symm | exact (if_neg (by omega)).symm⟩ (by omega) _ _ _ hP hD hS (lv_sub hl [0, 1, 2] rfl)
        · skip
          refine lv_iload_n hex hbc dX3_giveOne_31 rfl (lv_at hl 0 rfl) ?_
          refine lv_istore_n (lv' := [(1, .int (iI i1)), (2, .int (iI i1)), (0, .ref (a 14))]) hex hbc dX3_giveOne_32 rfl hl (by decide) rfl (fun ls hl => ?_)
          refine lv_iinc (v := iI (i1 + 1)) (lv' := [(2, .int (iI (i1 + 1))), (1, .int (iI i1)), (0, .ref (a 14))]) hex hbc dX3_giveOne_33 hl (k := 1) rfl (iI_add _ _) (by decide) rfl (fun ls hl => ?_)
          refine lv_goto (tgt := 4) hex hbc dX3_giveOne_36 (by decide) ?_
          exact ih_4 (i1 + 1) i1 ⟨by omega, by omega, by rw [show i1 + 1 - 1 = i1 by omega, argx_at hi0, ← ht]; first | exact (if_pos (by omega)).symm | exact (if_neg (by omega)).symm⟩ (by omega) _ _ _ hP hD hS (lv_sub hl [0, 1, 2] rfl)
  exact loop_4 _ 1 0 ⟨by omega, by omega, rfl⟩ (mz_lt _) _ _ _ hP hD hS (lv_sub hl [0, 1, 2] rfl)
theorem iX3_shareFreely_X2 : ∀ w ∈ wsX20, w ∈ wsX3_shareFreely := fun _ h => List.mem_cons_of_mem _ (List.mem_append_right _ h)
theorem iX3_shareFreely_X3 : ∀ w ∈ wsX30, w ∈ wsX3_shareFreely := fun _ h => List.mem_cons_of_mem _ (List.mem_append_left _ (List.mem_append_right _ h))
set_option maxHeartbeats 4000000 in
set_option maxRecDepth 100000 in
theorem mX3_shareFreely (l : Launch) (G : va_G) (cx a : Nat → Nat) (σ : Nat → Int → Int)   (hI : Inv (σ 0)) : Met l yX3_shareFreely wsX3_shareFreely ({ frames := 2, cells := 0, slots := 0, locals := 42 }) (va_Pc [.ref (a 14)] (gW G (tx cx) (XA a) (wx cx a) σ)) (va_Qv (fun u => ∃ f19 f20, (∀ k, 0 ≤ k → k < σ 0 74 → f19 k = fbu (σ 0) k) ∧ sc (sc σ 19 f19) 20 f20 = u) (gW G (tx cx) (XA a) (wx cx a)) (XA a)) 0 0 (XA a) := by
  refine Met.ofW (cc := cX3_shareFreely) (maxL := 9) (ret := none) (by decide) rfl ?_
  intro p e s m args below meth c s₁ B hml hv
  obtain ⟨rfl, hP, hK, hD⟩ := hv
  have hex := B.exec
  have hbc := B.bytes
  have hrt := B.returns
  have hts := atoms_spec (ws := wsX3_shareFreely) B.pre
  have hown : s.vm.findClass RX3 = some m.cls := findClass_of_methodNamed B.named
  have hlocks := B.notSynchronized
  have hS : va_S (XA a) s.heap s.heap [] := va_S.rf
  have hin2 := iX3_shareFreely_X2
  have hin3 := iX3_shareFreely_X3
  have hl := lv_entry ([.ref (a 14)]) (n := 9) (Nat.le_of_ble_eq_true rfl)
  rw [lg_entry_eq]
  generalize (lg_sl ([.ref (a 14)]) ++ List.replicate (9 - (lg_sl ([.ref (a 14)])).length) Slot.unset).toArray = ls at hl ⊢
  have hl : lv_has ls 9 [(0, .ref (a 14))] := hl
  obtain ⟨hB, hEn, hMk, hAs, hPm⟩ := id hI
  have hwh := hI.wh_in
  have hlf := left_in hI
  have hb0p : ∀ n : Nat, (n : Int) ≤ σ 0 74 → sumN (b0_ (σ 0)) n ≤ σ 0 6 := fun n hn => by have h1 := sumN_mono (f := b0_ (σ 0)) n ((σ 0 74).toNat - n) (fun k k0 k1 => (b0_in hI k0 (by omega)).1); rw [show n + ((σ 0 74).toNat - n) = (σ 0 74).toNat by omega] at h1; unfold left_ at hlf; omega
  refine lv_aload_n hex hbc dX3_shareFreely_0 rfl (lv_at hl 0 rfl) ?_
  refine va_get (v := .ref (a 3)) hex hbc hts hin3 hown hK hP 14 rfl rfl 0 (by decide) (hts _ (List.mem_of_getElem? (i := 1) rfl)) (fun _ h => h) rfl dX3_shareFreely_1 ?_
  refine va_get (v := .ref (a 5)) hex hbc hts hin2 hown hK hP 3 rfl rfl 3 (by decide) (hts _ (List.mem_of_getElem? (i := 2) rfl)) (fun _ h => h) rfl dX3_shareFreely_4 ?_
  refine lv_iconst (v := iI 5) hex hbc dX3_shareFreely_7 rfl ?_
  refine g_iald (f := (fun k => (σ 0 (1 + k)))) (v := (σ 0 6)) (i := 5) hex hbc hK hP 5 0 rfl rfl (by decide) (by omega) rfl dX3_shareFreely_8 ?_
  refine zt_i2l (a := (σ 0 6)) hex hbc (by omega) dX3_shareFreely_9 ?_
  refine lv_lstore_n (lv' := [(1, .long (lI (σ 0 6))), (0, .ref (a 14))]) hex hbc dX3_shareFreely_10 rfl hl (by decide) rfl (fun ls hl => ?_)
  refine lv_aload_n hex hbc dX3_shareFreely_11 rfl (lv_at hl 1 rfl) ?_
  refine va_get (v := .ref (a 3)) hex hbc hts hin3 hown hK hP 14 rfl rfl 0 (by decide) (hts _ (List.mem_of_getElem? (i := 1) rfl)) (fun _ h => h) rfl dX3_shareFreely_12 ?_
  refine va_get (v := .int (iI (σ 0 0))) hex hbc hts hin2 hown hK hP 3 rfl rfl 0 (by decide) (hts _ (List.mem_of_getElem? (i := 3) rfl)) (fun _ h => h) rfl dX3_shareFreely_15 ?_
  refine zt_i2l (a := (σ 0 0)) hex hbc (by omega) dX3_shareFreely_18 ?_
  refine lv_aload_n hex hbc dX3_shareFreely_19 rfl (lv_at hl 1 rfl) ?_
  refine va_get (v := .ref (a 3)) hex hbc hts hin3 hown hK hP 14 rfl rfl 0 (by decide) (hts _ (List.mem_of_getElem? (i := 1) rfl)) (fun _ h => h) rfl dX3_shareFreely_20 ?_
  refine va_get (v := .ref (a 5)) hex hbc hts hin2 hown hK hP 3 rfl rfl 3 (by decide) (hts _ (List.mem_of_getElem? (i := 2) rfl)) (fun _ h => h) rfl dX3_shareFreely_23 ?_
  refine lv_iconst (v := iI 0) hex hbc dX3_shareFreely_26 rfl ?_
  refine g_iald (f := (fun k => (σ 0 (1 + k)))) (v := (σ 0 1)) (i := 0) hex hbc hK hP 5 0 rfl rfl (by decide) (by omega) rfl dX3_shareFreely_27 ?_
  refine zt_i2l (a := (σ 0 1)) hex hbc (by omega) dX3_shareFreely_28 ?_
  refine zt_lmul hex hbc dX3_shareFreely_29 ?_
  refine lv_lstore_n (lv' := [(3, .long (lI ((σ 0 0) * (σ 0 1)))), (1, .long (lI (σ 0 6))), (0, .ref (a 14))]) hex hbc dX3_shareFreely_30 rfl hl (by decide) rfl (fun ls hl => ?_)
  refine lv_aload_n hex hbc dX3_shareFreely_31 rfl (lv_at hl 2 rfl) ?_
  refine va_get (v := .ref (a 3)) hex hbc hts hin3 hown hK hP 14 rfl rfl 0 (by decide) (hts _ (List.mem_of_getElem? (i := 1) rfl)) (fun _ h => h) rfl dX3_shareFreely_32 ?_
  refine va_get (v := .ref (a 5)) hex hbc hts hin2 hown hK hP 3 rfl rfl 3 (by decide) (hts _ (List.mem_of_getElem? (i := 2) rfl)) (fun _ h => h) rfl dX3_shareFreely_35 ?_
  refine lv_iconst (v := iI 5) hex hbc dX3_shareFreely_38 rfl ?_
  refine g_iald (f := (fun k => (σ 0 (1 + k)))) (v := (σ 0 6)) (i := 5) hex hbc hK hP 5 0 rfl rfl (by decide) (by omega) rfl dX3_shareFreely_39 ?_
  refine lv_istore (lv' := [(5, .int (iI (σ 0 6))), (3, .long (lI ((σ 0 0) * (σ 0 1)))), (1, .long (lI (σ 0 6))), (0, .ref (a 14))]) hex hbc dX3_shareFreely_40 hl (by decide) rfl (fun ls hl => ?_)
  refine lv_iconst (v := iI 0) hex hbc dX3_shareFreely_42 rfl ?_
  refine lv_istore (lv' := [(6, .int (iI 0)), (5, .int (iI (σ 0 6))), (3, .long (lI ((σ 0 0) * (σ 0 1)))), (1, .long (lI (σ 0 6))), (0, .ref (a 14))]) hex hbc dX3_shareFreely_43 hl (by decide) rfl (fun ls hl => ?_)
  have loop_45 : ∀ (N : Nat) (i1 : Int) (l1 : Int) (w9 : Int → Int) (w0 : Int → Int), (0 ≤ i1 ∧ i1 ≤ σ 0 74 ∧ l1 = σ 0 6 - sumN (b0_ (σ 0)) i1.toNat ∧ (∀ k, 0 ≤ k → k < i1 → w9 k = b0_ (σ 0) k) ∧ (∀ k, 0 ≤ k → k < i1 → w0 k = rm_ (σ 0) k)) → (σ 0 74 - i1) < (N : Int) → ∀ (H : Heap) (locs : List Loc) (ls : Array Slot), va_P G vwCl (wx cx a (sc (sc σ 19 w9) 20 w0)) H → va_D (XA a) (wx cx a (sc (sc σ 19 w9) 20 w0)) → va_S (XA a) s.heap H locs → lv_has ls 9 [(6, .int (iI i1)), (5, .int (iI l1)), (3, .long (lI ((σ 0 0) * (σ 0 1)))), (1, .long (lI (σ 0 6))), (0, .ref (a 14))] → W p l e (headSpec wsX3_shareFreely ({ frames := 2, cells := 0, slots := 0, locals := 42 })).room s m ([.ref (a 14)] : List Value).toArray below meth c H locs 0 0 (MQ below (va_Qv (fun u => ∃ f19 f20, (∀ k, 0 ≤ k → k < σ 0 74 → f19 k = fbu (σ 0) k) ∧ sc (sc σ 19 f19) 20 f20 = u) (gW G (tx cx) (XA a) (wx cx a)) (XA a)) ([.ref (a 14)] : List Value).toArray s 0 0 (XA a)) (F0 m 45 ls []) := by
    intro N
    induction N with
    | zero => intro i1 l1 w9 w0 hinv hlt; exfalso; omega
    | succ N ih_45 =>
      intro i1 l1 w9 w0 ⟨hi0, hi1, hl1, hw9, hw0⟩ hlt_45 H locs ls hP hD hS hl
      refine lv_iload hex hbc dX3_shareFreely_45 (lv_at hl 0 rfl) ?_
      refine lv_aload_n hex hbc dX3_shareFreely_47 rfl (lv_at hl 4 rfl) ?_
      refine va_get (v := .ref (a 3)) hex hbc hts hin3 hown hK hP 14 rfl rfl 0 (by decide) (hts _ (List.mem_of_getElem? (i := 1) rfl)) (fun _ h => h) rfl dX3_shareFreely_48 ?_
      refine va_get (v := .int (iI (σ 0 74))) hex hbc hts hin2 hown hK hP 3 rfl rfl 1 (by decide) (hts _ (List.mem_of_getElem? (i := 4) rfl)) (fun _ h => h) rfl dX3_shareFreely_51 ?_
      refine zt_icmp_ge (a := i1) (b := (σ 0 74)) (tgt := 112) hex hbc (by omega) dX3_shareFreely_54 (by decide) (fun c54 => ?_) (fun c54 => ?_)
      · skip
        have loop_112 : ∀ (N : Nat) (n1 : Nat) (l2 : Int) (v9 : Int → Int) (v0 : Int → Int), (l2 = left_ (σ 0) - (n1 : Int) ∧ 0 ≤ l2 ∧ (∀ k, 0 ≤ k → k < σ 0 74 → v9 k = b0_ (σ 0) k + sv_ (σ 0) n1 k) ∧ (∀ k, 0 ≤ k → k < σ 0 74 → v0 k = rr_ (σ 0) (sv_ (σ 0) n1) k)) → (l2) < (N : Int) → ∀ (H : Heap) (locs : List Loc) (ls : Array Slot), va_P G vwCl (wx cx a (sc (sc σ 19 v9) 20 v0)) H → va_D (XA a) (wx cx a (sc (sc σ 19 v9) 20 v0)) → va_S (XA a) s.heap H locs → lv_has ls 9 [(5, .int (iI l2)), (0, .ref (a 14))] → W p l e (headSpec wsX3_shareFreely ({ frames := 2, cells := 0, slots := 0, locals := 42 })).room s m ([.ref (a 14)] : List Value).toArray below meth c H locs 0 0 (MQ below (va_Qv (fun u => ∃ f19 f20, (∀ k, 0 ≤ k → k < σ 0 74 → f19 k = fbu (σ 0) k) ∧ sc (sc σ 19 f19) 20 f20 = u) (gW G (tx cx) (XA a) (wx cx a)) (XA a)) ([.ref (a 14)] : List Value).toArray s 0 0 (XA a)) (F0 m 112 ls []) := by
          intro N
          induction N with
          | zero => intro n1 l2 v9 v0 hinv hlt; exfalso; omega
          | succ N ih_112 =>
            intro n1 l2 v9 v0 ⟨hl2, hl3, hb9, hr0⟩ hlt_112 H locs ls hP hD hS hl
            refine lv_iload hex hbc dX3_shareFreely_112 (lv_at hl 0 rfl) ?_
            refine zt_if_le (a := l2) (tgt := 127) hex hbc (by omega) dX3_shareFreely_114 (by decide) (fun c114 => ?_) (fun c114 => ?_)
            · skip
              exact g_vret hex hbc hrt hlocks hK hP hD hS ⟨v9, v0, fun k k0 k1 => (by rw [hb9 k k0 k1]; unfold fbu; rw [show (left_ (σ 0)).toNat = n1 by omega]), rfl⟩ dX3_shareFreely_127
            · skip
              refine lv_aload_n hex hbc dX3_shareFreely_117 rfl (lv_at hl 1 rfl) ?_
              refine g_callv [] ⟨hex, hbc, hml, hown, hts⟩ (mX3_giveOne l G cx a (sc (sc σ 19 v9) 20 v0) n1  (show (n1 : Int) < left_ (σ 0) from by omega) hb9 hr0 hI) (cwV 0 hts gX3_shareFreely_X3_giveOne rfl rfl rfl (by decide +kernel) ⟨Nat.le_of_ble_eq_true rfl, Nat.le_of_ble_eq_true rfl⟩) hK hP hD hS (fun _ h => h) 14 3 rfl rfl rfl rfl hl.1 (Nat.le_of_ble_eq_true rfl) dX3_shareFreely_118 ⟨Nat.zero_le _, Nat.zero_le _⟩ (fun u_118 H locs hw_118 hP hD hS hz_118 hk_118 => ?_)
              obtain ⟨f19_118, f20_118, hb9_118, hr0_118, rfl⟩ := hw_118
              have hP : va_P G vwCl (wx cx a (sc (sc σ 19 f19_118) 20 f20_118)) H := hP
              have hD : va_D (XA a) (wx cx a (sc (sc σ 19 f19_118) 20 f20_118)) := hD
              refine lv_iinc (v := iI (l2 + (-1))) (lv' := [(5, .int (iI (l2 + (-1)))), (0, .ref (a 14))]) hex hbc dX3_shareFreely_121 hl (k := 0) rfl (iI_add _ _) (by decide) rfl (fun ls hl => ?_)
              refine lv_goto (tgt := 112) hex hbc dX3_shareFreely_124 (by decide) ?_
              exact ih_112 (n1 + 1) (l2 + (-1)) f19_118 f20_118 ⟨by omega, by omega, hb9_118, hr0_118⟩ (by omega) _ _ _ hP hD hS (lv_sub hl [0, 1] rfl)
        exact loop_112 _ 0 l1 w9 w0 ⟨by unfold left_; rw [hl1, show i1 = σ 0 74 by omega]; omega, by unfold left_ at hlf; rw [hl1, show i1 = σ 0 74 by omega]; omega, fun k k0 k1 => (by rw [hw9 k k0 (by omega)]; show _ = _ + 0; omega), fun k k0 k1 => (by rw [hw0 k k0 (by omega)]; exact (if_neg (by show ¬ ((0 : Int) = 1); omega)).symm)⟩ (mz_lt _) _ _ _ hP hD hS (lv_sub hl [1, 4] rfl)
      · skip
        have hln := hI.ln_in hi0 c54
        have hmm := mulb (a := ln (σ 0) i1) (b := σ 0 6) (A := 64000) (B := 200000) (by omega) (by omega) (by omega) (by omega)
        have hbi := b0_in hI hi0 c54
        have hsp := hb0p i1.toNat (by omega)
        have hsp2 := sumN_pos (f := b0_ (σ 0)) i1.toNat (fun k k0 k1 => (b0_in hI k0 (by omega)).1)
        refine lv_aload_n hex hbc dX3_shareFreely_57 rfl (lv_at hl 4 rfl) ?_
        refine va_get (v := .ref (a 3)) hex hbc hts hin3 hown hK hP 14 rfl rfl 0 (by decide) (hts _ (List.mem_of_getElem? (i := 1) rfl)) (fun _ h => h) rfl dX3_shareFreely_58 ?_
        refine lv_iload hex hbc dX3_shareFreely_61 (lv_at hl 0 rfl) ?_
        refine g_calli [.int (iI i1)] ⟨hex, hbc, hml, hown, hts⟩ (mX2_lengthOf l G cx a (sc (sc σ 19 w9) 20 w0) i1 (show 0 ≤ i1 ∧ i1 < σ 0 74 from by omega) hI) (cwV 1 hts gX3_shareFreely_X2_lengthOf rfl rfl rfl (by decide +kernel) ⟨Nat.le_of_ble_eq_true rfl, Nat.le_of_ble_eq_true rfl⟩) hK hP hD hS (fun _ h => h) 3 2 rfl rfl rfl rfl hl.1 (Nat.le_of_ble_eq_true rfl) dX3_shareFreely_63 ⟨Nat.zero_le _, Nat.zero_le _⟩ (fun r_63 u_63 H locs hw_63 hP hD hS hz_63 hk_63 => ?_)
        obtain ⟨rfl, rfl⟩ := hw_63
        refine zt_i2l (a := (ln (σ 0) i1)) hex hbc (by omega) dX3_shareFreely_66 ?_
        refine lv_lload_n hex hbc dX3_shareFreely_67 rfl (lv_at hl 3 rfl) ?_
        refine zt_lmul hex hbc dX3_shareFreely_68 ?_
        refine lv_lstore (lv' := [(7, .long (lI ((ln (σ 0) i1) * (σ 0 6)))), (6, .int (iI i1)), (5, .int (iI l1)), (3, .long (lI ((σ 0 0) * (σ 0 1)))), (1, .long (lI (σ 0 6))), (0, .ref (a 14))]) hex hbc dX3_shareFreely_69 hl (by decide) rfl (fun ls hl => ?_)
        refine lv_aload_n hex hbc dX3_shareFreely_71 rfl (lv_at hl 5 rfl) ?_
        refine va_get (v := .ref (a 15)) hex hbc hts hin3 hown hK hP 14 rfl rfl 2 (by decide) (hts _ (List.mem_of_getElem? (i := 5) rfl)) (fun _ h => h) rfl dX3_shareFreely_72 ?_
        refine lv_iload hex hbc dX3_shareFreely_75 (lv_at hl 1 rfl) ?_
        refine lv_lload hex hbc dX3_shareFreely_77 (lv_at hl 0 rfl) ?_
        refine lv_lload_n hex hbc dX3_shareFreely_79 rfl (lv_at hl 3 rfl) ?_
        refine zt_ldiv (a := ((ln (σ 0) i1) * (σ 0 6))) (b := ((σ 0 0) * (σ 0 1))) hex hbc (by omega) dX3_shareFreely_80 ?_
        refine zt_l2i hex hbc dX3_shareFreely_81 ?_
        have hi_82 : (0 : Int) ≤ i1 ∧ i1 < (16 : Int) := (by omega)
        refine g_iast (σ := (sc (sc σ 19 w9) 20 w0)) (f := w9) (i := i1) (v := (((ln (σ 0) i1) * (σ 0 6)) / ((σ 0 0) * (σ 0 1)))) (τ := st (sc (sc σ 19 w9) 20 w0) 19 i1 (((ln (σ 0) i1) * (σ 0 6)) / ((σ 0 0) * (σ 0 1)))) hex hbc hK hP hD hS 15 0 rfl rfl (by decide) hi_82 dX3_shareFreely_82 (wx_up_15 hi_82) (fun H locs hP hD hS => ?_)
        obtain ⟨f19_82, ef19_82⟩ : ∃ z : Int → Int, z = ups w9 i1 (((ln (σ 0) i1) * (σ 0 6)) / ((σ 0 0) * (σ 0 1))) := ⟨_, rfl⟩
        have hP : va_P G vwCl (wx cx a (sc (sc σ 19 f19_82) 20 w0)) H := by rw [ef19_82]; exact hP
        have hD : va_D (XA a) (wx cx a (sc (sc σ 19 f19_82) 20 w0)) := by rw [ef19_82]; exact hD
        refine lv_aload_n hex hbc dX3_shareFreely_83 rfl (lv_at hl 5 rfl) ?_
        refine va_get (v := .ref (a 16)) hex hbc hts hin3 hown hK hP 14 rfl rfl 3 (by decide) (hts _ (List.mem_of_getElem? (i := 6) rfl)) (fun _ h => h) rfl dX3_shareFreely_84 ?_
        refine lv_iload hex hbc dX3_shareFreely_87 (lv_at hl 1 rfl) ?_
        refine lv_lload hex hbc dX3_shareFreely_89 (lv_at hl 0 rfl) ?_
        refine lv_lload_n hex hbc dX3_shareFreely_91 rfl (lv_at hl 3 rfl) ?_
        refine zt_lrem (a := ((ln (σ 0) i1) * (σ 0 6))) (b := ((σ 0 0) * (σ 0 1))) hex hbc (by omega) dX3_shareFreely_92 ?_
        have hi_93 : (0 : Int) ≤ i1 ∧ i1 < (16 : Int) := (by omega)
        refine g_last (σ := (sc (sc σ 19 f19_82) 20 w0)) (f := w0) (i := i1) (v := (((ln (σ 0) i1) * (σ 0 6)) % ((σ 0 0) * (σ 0 1)))) (τ := st (sc (sc σ 19 f19_82) 20 w0) 20 i1 (((ln (σ 0) i1) * (σ 0 6)) % ((σ 0 0) * (σ 0 1)))) hex hbc hK hP hD hS 16 1 rfl rfl (by decide) hi_93 dX3_shareFreely_93 (wx_up_16 hi_93) (fun H locs hP hD hS => ?_)
        obtain ⟨f20_93, ef20_93⟩ : ∃ z : Int → Int, z = ups w0 i1 (((ln (σ 0) i1) * (σ 0 6)) % ((σ 0 0) * (σ 0 1))) := ⟨_, rfl⟩
        have hP : va_P G vwCl (wx cx a (sc (sc σ 19 f19_82) 20 f20_93)) H := by rw [ef20_93]; exact hP
        have hD : va_D (XA a) (wx cx a (sc (sc σ 19 f19_82) 20 f20_93)) := by rw [ef20_93]; exact hD
        refine lv_iload hex hbc dX3_shareFreely_94 (lv_at hl 2 rfl) ?_
        refine lv_aload_n hex hbc dX3_shareFreely_96 rfl (lv_at hl 5 rfl) ?_
        refine va_get (v := .ref (a 15)) hex hbc hts hin3 hown hK hP 14 rfl rfl 2 (by decide) (hts _ (List.mem_of_getElem? (i := 5) rfl)) (fun _ h => h) rfl dX3_shareFreely_97 ?_
        refine lv_iload hex hbc dX3_shareFreely_100 (lv_at hl 1 rfl) ?_
        refine g_iald (f := f19_82) (v := (f19_82 i1)) (i := i1) hex hbc hK hP 15 0 rfl rfl (by decide) (by omega) rfl dX3_shareFreely_102 ?_
        refine zt_nm (a := (f19_82 i1)) (b := (b0_ (σ 0) i1)) (by rw [ef19_82, ups_s]; rfl) ?_
        refine zt_isub hex hbc dX3_shareFreely_103 ?_
        refine lv_istore (lv' := [(5, .int (iI (l1 - (b0_ (σ 0) i1)))), (7, .long (lI ((ln (σ 0) i1) * (σ 0 6)))), (6, .int (iI i1)), (3, .long (lI ((σ 0 0) * (σ 0 1)))), (1, .long (lI (σ 0 6))), (0, .ref (a 14))]) hex hbc dX3_shareFreely_104 hl (by decide) rfl (fun ls hl => ?_)
        refine lv_iinc (v := iI (i1 + 1)) (lv' := [(6, .int (iI (i1 + 1))), (5, .int (iI (l1 - (b0_ (σ 0) i1)))), (7, .long (lI ((ln (σ 0) i1) * (σ 0 6)))), (3, .long (lI ((σ 0 0) * (σ 0 1)))), (1, .long (lI (σ 0 6))), (0, .ref (a 14))]) hex hbc dX3_shareFreely_106 hl (k := 2) rfl (iI_add _ _) (by decide) rfl (fun ls hl => ?_)
        refine lv_goto (tgt := 45) hex hbc dX3_shareFreely_109 (by decide) ?_
        exact ih_45 (i1 + 1) (l1 - (b0_ (σ 0) i1)) f19_82 f20_93 ⟨by omega, by omega, by rw [sumN_at hi0]; omega, fun k k0 k1 => (if hq : k = i1 then (by rw [ef19_82, hq, ups_s]; rfl) else (by rw [ef19_82, ups_n _ _ hq]; exact hw9 k k0 (by omega))), fun k k0 k1 => (if hq : k = i1 then (by rw [ef20_93, hq, ups_s]; rfl) else (by rw [ef20_93, ups_n _ _ hq]; exact hw0 k k0 (by omega)))⟩ (by omega) _ _ _ hP hD hS (lv_sub hl [0, 1, 3, 4, 5] rfl)
  exact loop_45 _ 0 (σ 0 6) (σ 19) (σ 20) ⟨by omega, by omega, by simp [sumN], fun k k0 k1 => by omega, fun k k0 k1 => by omega⟩ (mz_lt _) _ _ _ hP hD hS (lv_sub hl [0, 1, 2, 3, 4] rfl)
theorem iX3_lay_X2 : ∀ w ∈ wsX20, w ∈ wsX3_lay := fun _ h => List.mem_cons_of_mem _ (List.mem_append_left _ (List.mem_append_right _ h))
theorem iX3_lay_X3 : ∀ w ∈ wsX30, w ∈ wsX3_lay := fun _ h => List.mem_cons_of_mem _ (List.mem_append_left _ (List.mem_append_left _ (List.mem_append_right _ h)))
set_option maxHeartbeats 4000000 in
set_option maxRecDepth 100000 in
theorem mX3_lay (l : Launch) (G : va_G) (cx a : Nat → Nat) (σ : Nat → Int → Int)   (hI : Inv (σ 0)) : Met l yX3_lay wsX3_lay ({ frames := 5, cells := 0, slots := 0, locals := 129 }) (va_Pc [.ref (a 14)] (gW G (tx cx) (XA a) (wx cx a) σ)) (va_Qi (fun r u => (∃ v, iI v = r ∧ ((lay_ (σ 0) ∧ v = 1) ∨ (¬ lay_ (σ 0) ∧ v = 0))) ∧ ∃ f14 f15 f16 f17 f18 f19 f20 f21, (lay_ (σ 0) → ∀ k, 0 ≤ k → k < σ 0 74 → f19 k = bud (σ 0) k) ∧ (lay_ (σ 0) → σ 0 8 ≠ 0 → ∀ k, 0 ≤ k → k < σ 0 74 → f18 k = stp (σ 0) (σ 0 6) (σ 0 7) k) ∧ sc (sc (sc (sc (sc (sc (sc (sc σ 14 f14) 15 f15) 16 f16) 17 f17) 18 f18) 19 f19) 20 f20) 21 f21 = u) (gW G (tx cx) (XA a) (wx cx a)) (XA a)) 0 0 (XA a) := by
  refine Met.ofW (cc := cX3_lay) (maxL := 2) (ret := some .boolean) (by decide) rfl ?_
  intro p e s m args below meth c s₁ B hml hv
  obtain ⟨rfl, hP, hK, hD⟩ := hv
  have hex := B.exec
  have hbc := B.bytes
  have hrt := B.returns
  have hts := atoms_spec (ws := wsX3_lay) B.pre
  have hown : s.vm.findClass RX3 = some m.cls := findClass_of_methodNamed B.named
  have hlocks := B.notSynchronized
  have hS : va_S (XA a) s.heap s.heap [] := va_S.rf
  have hin2 := iX3_lay_X2
  have hin3 := iX3_lay_X3
  have hl := lv_entry ([.ref (a 14)]) (n := 2) (Nat.le_of_ble_eq_true rfl)
  rw [lg_entry_eq]
  generalize (lg_sl ([.ref (a 14)]) ++ List.replicate (2 - (lg_sl ([.ref (a 14)])).length) Slot.unset).toArray = ls at hl ⊢
  have hl : lv_has ls 2 [(0, .ref (a 14))] := hl
  obtain ⟨hB, hEn, hMk, hAs, hPm⟩ := id hI
  refine lv_aload_n hex hbc dX3_lay_0 rfl (lv_at hl 0 rfl) ?_
  refine va_get (v := .ref (a 3)) hex hbc hts hin3 hown hK hP 14 rfl rfl 0 (by decide) (hts _ (List.mem_of_getElem? (i := 1) rfl)) (fun _ h => h) rfl dX3_lay_1 ?_
  refine g_calli [] ⟨hex, hbc, hml, hown, hts⟩ (mX2_isFree l G cx a σ  hI) (cwV 0 hts gX3_lay_X2_isFree rfl rfl rfl (by decide +kernel) ⟨Nat.le_of_ble_eq_true rfl, Nat.le_of_ble_eq_true rfl⟩) hK hP hD hS (fun _ h => h) 3 2 rfl rfl rfl rfl hl.1 (Nat.le_of_ble_eq_true rfl) dX3_lay_4 ⟨Nat.zero_le _, Nat.zero_le _⟩ (fun r_4 u_4 H locs hw_4 hP hD hS hz_4 hk_4 => ?_)
  obtain ⟨rfl, vb4, rfl, hv4⟩ := hw_4
  refine zt_ifb_eq (P := (σ 0 8 = 0)) (tgt := 16) hex hbc hv4 dX3_lay_7 (by decide) (fun c7 => ?_) (fun c7 => ?_)
  · skip
    refine lv_aload_n hex hbc dX3_lay_16 rfl (lv_at hl 0 rfl) ?_
    refine va_get (v := .ref (a 8)) hex hbc hts hin3 hown hK hP 14 rfl rfl 1 (by decide) (hts _ (List.mem_of_getElem? (i := 2) rfl)) (fun _ h => h) rfl dX3_lay_17 ?_
    refine g_calli [] ⟨hex, hbc, hml, hown, hts⟩ (mX0_draw l G cx a σ  hI) (cwV 0 hts gX3_lay_X0_draw rfl rfl rfl (by decide +kernel) ⟨Nat.le_of_ble_eq_true rfl, Nat.le_of_ble_eq_true rfl⟩) hK hP hD hS (fun _ h => h) 8 0 rfl rfl rfl rfl hl.1 (Nat.le_of_ble_eq_true rfl) dX3_lay_20 ⟨Nat.zero_le _, Nat.zero_le _⟩ (fun r_20 u_20 H locs hw_20 hP hD hS hz_20 hk_20 => ?_)
    obtain ⟨⟨vb20, rfl, hv20⟩, f14_20, f15_20, f16_20, f17_20, f18_20, f21_20, hdr_20, rfl⟩ := hw_20
    have hP : va_P G vwCl (wx cx a (sc (sc (sc (sc (sc (sc σ 14 f14_20) 15 f15_20) 16 f16_20) 17 f17_20) 18 f18_20) 21 f21_20)) H := hP
    have hD : va_D (XA a) (wx cx a (sc (sc (sc (sc (sc (sc σ 14 f14_20) 15 f15_20) 16 f16_20) 17 f17_20) 18 f18_20) 21 f21_20)) := hD
    refine zt_ifb_ne (P := (can_ (σ 0) (σ 0 6) (σ 0 7))) (tgt := 28) hex hbc hv20 dX3_lay_23 (by decide) (fun c23 => ?_) (fun c23 => ?_)
    · skip
      obtain ⟨hpos, hstp⟩ := hdr_20 c23
      have hcan : can_ (σ 0) (σ 0 6) (σ 0 7) := c23
      refine lv_iconst (v := iI 0) hex hbc dX3_lay_28 rfl ?_
      refine lv_istore_n (lv' := [(1, .int (iI 0)), (0, .ref (a 14))]) hex hbc dX3_lay_29 rfl hl (by decide) rfl (fun ls hl => ?_)
      have loop_30 : ∀ (N : Nat) (i1 : Int) (w9 : Int → Int), (0 ≤ i1 ∧ i1 ≤ σ 0 74 ∧ ∀ k, 0 ≤ k → k < i1 → w9 k = gbu (σ 0) (σ 0 6) (σ 0 7) k) → (σ 0 74 - i1) < (N : Int) → ∀ (H : Heap) (locs : List Loc) (ls : Array Slot), va_P G vwCl (wx cx a (sc (sc (sc (sc (sc (sc (sc σ 14 f14_20) 15 f15_20) 16 f16_20) 17 f17_20) 18 f18_20) 19 w9) 21 f21_20)) H → va_D (XA a) (wx cx a (sc (sc (sc (sc (sc (sc (sc σ 14 f14_20) 15 f15_20) 16 f16_20) 17 f17_20) 18 f18_20) 19 w9) 21 f21_20)) → va_S (XA a) s.heap H locs → lv_has ls 2 [(1, .int (iI i1)), (0, .ref (a 14))] → W p l e (headSpec wsX3_lay ({ frames := 5, cells := 0, slots := 0, locals := 129 })).room s m ([.ref (a 14)] : List Value).toArray below meth c H locs 0 0 (MQ below (va_Qi (fun r u => (∃ v, iI v = r ∧ ((lay_ (σ 0) ∧ v = 1) ∨ (¬ lay_ (σ 0) ∧ v = 0))) ∧ ∃ f14 f15 f16 f17 f18 f19 f20 f21, (lay_ (σ 0) → ∀ k, 0 ≤ k → k < σ 0 74 → f19 k = bud (σ 0) k) ∧ (lay_ (σ 0) → σ 0 8 ≠ 0 → ∀ k, 0 ≤ k → k < σ 0 74 → f18 k = stp (σ 0) (σ 0 6) (σ 0 7) k) ∧ sc (sc (sc (sc (sc (sc (sc (sc σ 14 f14) 15 f15) 16 f16) 17 f17) 18 f18) 19 f19) 20 f20) 21 f21 = u) (gW G (tx cx) (XA a) (wx cx a)) (XA a)) ([.ref (a 14)] : List Value).toArray s 0 0 (XA a)) (F0 m 30 ls []) := by
        intro N
        induction N with
        | zero => intro i1 w9 hinv hlt; exfalso; omega
        | succ N ih_30 =>
          intro i1 w9 ⟨hi0, hi1, hw⟩ hlt_30 H locs ls hP hD hS hl
          refine lv_iload_n hex hbc dX3_lay_30 rfl (lv_at hl 0 rfl) ?_
          refine lv_aload_n hex hbc dX3_lay_31 rfl (lv_at hl 1 rfl) ?_
          refine va_get (v := .ref (a 3)) hex hbc hts hin3 hown hK hP 14 rfl rfl 0 (by decide) (hts _ (List.mem_of_getElem? (i := 1) rfl)) (fun _ h => h) rfl dX3_lay_32 ?_
          refine va_get (v := .int (iI (σ 0 74))) hex hbc hts hin2 hown hK hP 3 rfl rfl 1 (by decide) (hts _ (List.mem_of_getElem? (i := 3) rfl)) (fun _ h => h) rfl dX3_lay_35 ?_
          refine zt_icmp_ge (a := i1) (b := (σ 0 74)) (tgt := 61) hex hbc (by omega) dX3_lay_38 (by decide) (fun c38 => ?_) (fun c38 => ?_)
          · skip
            refine lv_iconst (v := iI 1) hex hbc dX3_lay_61 rfl ?_
            exact g_zret hex hbc hrt hlocks rfl hK hP hD hS ⟨⟨1, rfl, Or.inl ⟨Or.inr c23, rfl⟩⟩, f14_20, f15_20, f16_20, f17_20, f18_20, w9, σ 20, f21_20, fun _ k k0 k1 => (by rw [hw k k0 (by omega)]; unfold bud; rw [if_neg c7]), fun _ _ k k0 k1 => hstp k k0 (by omega), sc_self1⟩ dX3_lay_62
          · skip
            refine lv_aload_n hex hbc dX3_lay_41 rfl (lv_at hl 1 rfl) ?_
            refine va_get (v := .ref (a 15)) hex hbc hts hin3 hown hK hP 14 rfl rfl 2 (by decide) (hts _ (List.mem_of_getElem? (i := 4) rfl)) (fun _ h => h) rfl dX3_lay_42 ?_
            refine lv_iload_n hex hbc dX3_lay_45 rfl (lv_at hl 0 rfl) ?_
            refine lv_aload_n hex hbc dX3_lay_46 rfl (lv_at hl 1 rfl) ?_
            refine va_get (v := .ref (a 8)) hex hbc hts hin3 hown hK hP 14 rfl rfl 1 (by decide) (hts _ (List.mem_of_getElem? (i := 2) rfl)) (fun _ h => h) rfl dX3_lay_47 ?_
            refine lv_iload_n hex hbc dX3_lay_50 rfl (lv_at hl 0 rfl) ?_
            refine g_calli [.int (iI i1)] ⟨hex, hbc, hml, hown, hts⟩ (mX0_budgetOf l G cx a (sc (sc (sc (sc (sc (sc (sc σ 14 f14_20) 15 f15_20) 16 f16_20) 17 f17_20) 18 f18_20) 19 w9) 21 f21_20) (σ 0 6) (σ 0 7) i1 (show 0 ≤ i1 ∧ i1 < σ 0 74 from by omega) (show 1 ≤ (σ 0 6) ∧ (σ 0 6) ≤ 200000 from by omega) (show 1 ≤ (σ 0 7) ∧ (σ 0 7) ≤ 32 from by omega) hcan hpos hstp hI) (cwV 1 hts gX3_lay_X0_budgetOf rfl rfl rfl (by decide +kernel) ⟨Nat.le_of_ble_eq_true rfl, Nat.le_of_ble_eq_true rfl⟩) hK hP hD hS (fun _ h => h) 8 0 rfl rfl rfl rfl hl.1 (Nat.le_of_ble_eq_true rfl) dX3_lay_51 ⟨Nat.zero_le _, Nat.zero_le _⟩ (fun r_51 u_51 H locs hw_51 hP hD hS hz_51 hk_51 => ?_)
            obtain ⟨rfl, rfl⟩ := hw_51
            have hi_54 : (0 : Int) ≤ i1 ∧ i1 < (16 : Int) := (by omega)
            refine g_iast (σ := (sc (sc (sc (sc (sc (sc (sc σ 14 f14_20) 15 f15_20) 16 f16_20) 17 f17_20) 18 f18_20) 19 w9) 21 f21_20)) (f := w9) (i := i1) (v := (gbu (σ 0) (σ 0 6) (σ 0 7) i1)) (τ := st (sc (sc (sc (sc (sc (sc (sc σ 14 f14_20) 15 f15_20) 16 f16_20) 17 f17_20) 18 f18_20) 19 w9) 21 f21_20) 19 i1 (gbu (σ 0) (σ 0 6) (σ 0 7) i1)) hex hbc hK hP hD hS 15 0 rfl rfl (by decide) hi_54 dX3_lay_54 (wx_up_15 hi_54) (fun H locs hP hD hS => ?_)
            obtain ⟨f19_54, ef19_54⟩ : ∃ z : Int → Int, z = ups w9 i1 (gbu (σ 0) (σ 0 6) (σ 0 7) i1) := ⟨_, rfl⟩
            have hP : va_P G vwCl (wx cx a (sc (sc (sc (sc (sc (sc (sc σ 14 f14_20) 15 f15_20) 16 f16_20) 17 f17_20) 18 f18_20) 19 f19_54) 21 f21_20)) H := by rw [ef19_54]; exact hP
            have hD : va_D (XA a) (wx cx a (sc (sc (sc (sc (sc (sc (sc σ 14 f14_20) 15 f15_20) 16 f16_20) 17 f17_20) 18 f18_20) 19 f19_54) 21 f21_20)) := by rw [ef19_54]; exact hD
            refine lv_iinc (v := iI (i1 + 1)) (lv' := [(1, .int (iI (i1 + 1))), (0, .ref (a 14))]) hex hbc dX3_lay_55 hl (k := 0) rfl (iI_add _ _) (by decide) rfl (fun ls hl => ?_)
            refine lv_goto (tgt := 30) hex hbc dX3_lay_58 (by decide) ?_
            exact ih_30 (i1 + 1) f19_54 ⟨by omega, by omega, fun k k0 k1 => (if hq : k = i1 then (by rw [ef19_54, hq, ups_s]) else (by rw [ef19_54, ups_n _ _ hq]; exact hw k k0 (by omega)))⟩ (by omega) _ _ _ hP hD hS (lv_sub hl [0, 1] rfl)
      exact loop_30 _ 0 (σ 19) ⟨by omega, by omega, fun k k0 k1 => by omega⟩ (mz_lt _) _ _ _ hP hD hS (lv_sub hl [0, 1] rfl)
    · skip
      refine lv_iconst (v := iI 0) hex hbc dX3_lay_26 rfl ?_
      exact g_zret hex hbc hrt hlocks rfl hK hP hD hS ⟨⟨0, rfl, Or.inr ⟨fun h => h.elim c7 c23, rfl⟩⟩, f14_20, f15_20, f16_20, f17_20, f18_20, σ 19, σ 20, f21_20, fun h => absurd h (fun h => h.elim c7 c23), fun h => absurd h (fun h => h.elim c7 c23), sc_self2⟩ dX3_lay_27
  · skip
    refine lv_aload_n hex hbc dX3_lay_10 rfl (lv_at hl 0 rfl) ?_
    refine g_callv [] ⟨hex, hbc, hml, hown, hts⟩ (mX3_shareFreely l G cx a σ  hI) (cwV 0 hts gX3_lay_X3_shareFreely rfl rfl rfl (by decide +kernel) ⟨Nat.le_of_ble_eq_true rfl, Nat.le_of_ble_eq_true rfl⟩) hK hP hD hS (fun _ h => h) 14 3 rfl rfl rfl rfl hl.1 (Nat.le_of_ble_eq_true rfl) dX3_lay_11 ⟨Nat.zero_le _, Nat.zero_le _⟩ (fun u_11 H locs hw_11 hP hD hS hz_11 hk_11 => ?_)
    obtain ⟨f19_11, f20_11, hfb_11, rfl⟩ := hw_11
    have hP : va_P G vwCl (wx cx a (sc (sc σ 19 f19_11) 20 f20_11)) H := hP
    have hD : va_D (XA a) (wx cx a (sc (sc σ 19 f19_11) 20 f20_11)) := hD
    refine lv_iconst (v := iI 1) hex hbc dX3_lay_14 rfl ?_
    exact g_zret hex hbc hrt hlocks rfl hK hP hD hS ⟨⟨1, rfl, Or.inl ⟨Or.inl c7, rfl⟩⟩, σ 14, σ 15, σ 16, σ 17, σ 18, f19_11, f20_11, σ 21, fun _ k k0 k1 => (by rw [hfb_11 k k0 k1]; unfold bud; rw [if_pos c7]), fun _ h => absurd c7 h, (by rw [sc_self, sc_self, sc_self, sc_self, sc_self]; exact sc_self (sc (sc σ 19 f19_11) 20 f20_11) 21)⟩ dX3_lay_15
theorem iX3_countBeyondLimits_X2 : ∀ w ∈ wsX20, w ∈ wsX3_countBeyondLimits := fun _ h => List.mem_cons_of_mem _ (List.mem_append_right _ h)
theorem iX3_countBeyondLimits_X3 : ∀ w ∈ wsX30, w ∈ wsX3_countBeyondLimits := fun _ h => List.mem_cons_of_mem _ (List.mem_append_left _ (List.mem_append_right _ h))
set_option maxHeartbeats 4000000 in
set_option maxRecDepth 100000 in
theorem mX3_countBeyondLimits (l : Launch) (G : va_G) (cx a : Nat → Nat) (σ : Nat → Int → Int)   (hlay : lay_ (σ 0)) (hbud : ∀ k, 0 ≤ k → k < σ 0 74 → σ 19 k = bud (σ 0) k) (hI : Inv (σ 0)) : Met l yX3_countBeyondLimits wsX3_countBeyondLimits ({ frames := 2, cells := 0, slots := 0, locals := 42 }) (va_Pc [.ref (a 14)] (gW G (tx cx) (XA a) (wx cx a) σ)) (va_Qi (fun r u => σ = u ∧ iI (sumN (bey (σ 0) (bud (σ 0))) (σ 0 74).toNat) = r) (gW G (tx cx) (XA a) (wx cx a)) (XA a)) 0 0 (XA a) := by
  refine Met.ofW (cc := cX3_countBeyondLimits) (maxL := 5) (ret := some .int) (by decide) rfl ?_
  intro p e s m args below meth c s₁ B hml hv
  obtain ⟨rfl, hP, hK, hD⟩ := hv
  have hex := B.exec
  have hbc := B.bytes
  have hrt := B.returns
  have hts := atoms_spec (ws := wsX3_countBeyondLimits) B.pre
  have hown : s.vm.findClass RX3 = some m.cls := findClass_of_methodNamed B.named
  have hlocks := B.notSynchronized
  have hS : va_S (XA a) s.heap s.heap [] := va_S.rf
  have hin2 := iX3_countBeyondLimits_X2
  have hin3 := iX3_countBeyondLimits_X3
  have hl := lv_entry ([.ref (a 14)]) (n := 5) (Nat.le_of_ble_eq_true rfl)
  rw [lg_entry_eq]
  generalize (lg_sl ([.ref (a 14)]) ++ List.replicate (5 - (lg_sl ([.ref (a 14)])).length) Slot.unset).toArray = ls at hl ⊢
  have hl : lv_has ls 5 [(0, .ref (a 14))] := hl
  obtain ⟨hB, hEn, hMk, hAs, hPm⟩ := id hI
  refine lv_iconst (v := iI 0) hex hbc dX3_countBeyondLimits_0 rfl ?_
  refine lv_istore_n (lv' := [(1, .int (iI 0)), (0, .ref (a 14))]) hex hbc dX3_countBeyondLimits_1 rfl hl (by decide) rfl (fun ls hl => ?_)
  refine lv_iconst (v := iI 0) hex hbc dX3_countBeyondLimits_2 rfl ?_
  refine lv_istore_n (lv' := [(2, .int (iI 0)), (1, .int (iI 0)), (0, .ref (a 14))]) hex hbc dX3_countBeyondLimits_3 rfl hl (by decide) rfl (fun ls hl => ?_)
  have loop_4 : ∀ (N : Nat) (i1 : Int) (n1 : Int), (0 ≤ i1 ∧ i1 ≤ σ 0 74 ∧ n1 = sumN (bey (σ 0) (bud (σ 0))) i1.toNat) → (σ 0 74 - i1) < (N : Int) → ∀ (H : Heap) (locs : List Loc) (ls : Array Slot), va_P G vwCl (wx cx a σ) H → va_D (XA a) (wx cx a σ) → va_S (XA a) s.heap H locs → lv_has ls 5 [(2, .int (iI i1)), (1, .int (iI n1)), (0, .ref (a 14))] → W p l e (headSpec wsX3_countBeyondLimits ({ frames := 2, cells := 0, slots := 0, locals := 42 })).room s m ([.ref (a 14)] : List Value).toArray below meth c H locs 0 0 (MQ below (va_Qi (fun r u => σ = u ∧ iI (sumN (bey (σ 0) (bud (σ 0))) (σ 0 74).toNat) = r) (gW G (tx cx) (XA a) (wx cx a)) (XA a)) ([.ref (a 14)] : List Value).toArray s 0 0 (XA a)) (F0 m 4 ls []) := by
    intro N
    induction N with
    | zero => intro i1 n1 hinv hlt; exfalso; omega
    | succ N ih_4 =>
      intro i1 n1 ⟨hi0, hi1, hn1⟩ hlt_4 H locs ls hP hD hS hl
      refine lv_iload_n hex hbc dX3_countBeyondLimits_4 rfl (lv_at hl 0 rfl) ?_
      refine lv_aload_n hex hbc dX3_countBeyondLimits_5 rfl (lv_at hl 2 rfl) ?_
      refine va_get (v := .ref (a 3)) hex hbc hts hin3 hown hK hP 14 rfl rfl 0 (by decide) (hts _ (List.mem_of_getElem? (i := 1) rfl)) (fun _ h => h) rfl dX3_countBeyondLimits_6 ?_
      refine va_get (v := .int (iI (σ 0 74))) hex hbc hts hin2 hown hK hP 3 rfl rfl 1 (by decide) (hts _ (List.mem_of_getElem? (i := 2) rfl)) (fun _ h => h) rfl dX3_countBeyondLimits_9 ?_
      refine zt_icmp_ge (a := i1) (b := (σ 0 74)) (tgt := 79) hex hbc (by omega) dX3_countBeyondLimits_12 (by decide) (fun c12 => ?_) (fun c12 => ?_)
      · skip
        refine lv_iload_n hex hbc dX3_countBeyondLimits_79 rfl (lv_at hl 1 rfl) ?_
        exact g_iret hex hbc hrt hlocks hK hP hD hS ⟨rfl, congrArg iI (by rw [hn1, show i1 = σ 0 74 by omega])⟩ dX3_countBeyondLimits_80
      · skip
        have hln := hI.ln_in hi0 c12
        have hbi := bud_in hI hlay hi0 c12
        have hm4 := mulb (a := ln (σ 0) i1) (b := σ 0 4) (A := 64000) (B := 100) (by omega) (by omega) (by omega) (by omega)
        have hm5 := mulb (a := ln (σ 0) i1) (b := σ 0 5) (A := 64000) (B := 1000) (by omega) (by omega) (by omega) (by omega)
        refine lv_aload_n hex hbc dX3_countBeyondLimits_15 rfl (lv_at hl 2 rfl) ?_
        refine va_get (v := .ref (a 3)) hex hbc hts hin3 hown hK hP 14 rfl rfl 0 (by decide) (hts _ (List.mem_of_getElem? (i := 1) rfl)) (fun _ h => h) rfl dX3_countBeyondLimits_16 ?_
        refine lv_iload_n hex hbc dX3_countBeyondLimits_19 rfl (lv_at hl 0 rfl) ?_
        refine g_calli [.int (iI i1)] ⟨hex, hbc, hml, hown, hts⟩ (mX2_lengthOf l G cx a σ i1 (by omega) hI) (cwV 1 hts gX3_countBeyondLimits_X2_lengthOf rfl rfl rfl (by decide +kernel) ⟨Nat.le_of_ble_eq_true rfl, Nat.le_of_ble_eq_true rfl⟩) hK hP hD hS (fun _ h => h) 3 2 rfl rfl rfl rfl hl.1 (Nat.le_of_ble_eq_true rfl) dX3_countBeyondLimits_20 ⟨Nat.zero_le _, Nat.zero_le _⟩ (fun r_20 u_20 H locs hw_20 hP hD hS hz_20 hk_20 => ?_)
        obtain ⟨rfl, rfl⟩ := hw_20
        refine lv_istore_n (lv' := [(3, .int (iI (ln (σ 0) i1))), (2, .int (iI i1)), (1, .int (iI n1)), (0, .ref (a 14))]) hex hbc dX3_countBeyondLimits_23 rfl hl (by decide) rfl (fun ls hl => ?_)
        refine lv_aload_n hex hbc dX3_countBeyondLimits_24 rfl (lv_at hl 3 rfl) ?_
        refine va_get (v := .ref (a 15)) hex hbc hts hin3 hown hK hP 14 rfl rfl 2 (by decide) (hts _ (List.mem_of_getElem? (i := 3) rfl)) (fun _ h => h) rfl dX3_countBeyondLimits_25 ?_
        refine lv_iload_n hex hbc dX3_countBeyondLimits_28 rfl (lv_at hl 1 rfl) ?_
        refine g_iald (f := (σ 19)) (v := (σ 19 i1)) (i := i1) hex hbc hK hP 15 0 rfl rfl (by decide) (by omega) rfl dX3_countBeyondLimits_29 ?_
        refine zt_nm (a := (σ 19 i1)) (b := (bud (σ 0) i1)) (hbud i1 hi0 c12) ?_
        refine lv_aload_n hex hbc dX3_countBeyondLimits_30 rfl (lv_at hl 3 rfl) ?_
        refine va_get (v := .ref (a 3)) hex hbc hts hin3 hown hK hP 14 rfl rfl 0 (by decide) (hts _ (List.mem_of_getElem? (i := 1) rfl)) (fun _ h => h) rfl dX3_countBeyondLimits_31 ?_
        refine lv_iload_n hex hbc dX3_countBeyondLimits_34 rfl (lv_at hl 0 rfl) ?_
        refine g_calli [.int (iI (ln (σ 0) i1))] ⟨hex, hbc, hml, hown, hts⟩ (mX2_leastBudget l G cx a σ (ln (σ 0) i1) (by omega) hI) (cwV 1 hts gX3_countBeyondLimits_X2_leastBudget rfl rfl rfl (by decide +kernel) ⟨Nat.le_of_ble_eq_true rfl, Nat.le_of_ble_eq_true rfl⟩) hK hP hD hS (fun _ h => h) 3 2 rfl rfl rfl rfl hl.1 (Nat.le_of_ble_eq_true rfl) dX3_countBeyondLimits_35 ⟨Nat.zero_le _, Nat.zero_le _⟩ (fun r_35 u_35 H locs hw_35 hP hD hS hz_35 hk_35 => ?_)
        obtain ⟨rfl, rfl⟩ := hw_35
        refine zt_icmp_ge (a := (bud (σ 0) i1)) (b := ((ln (σ 0) i1) * σ 0 4 / 100)) (tgt := 45) hex hbc (by omega) dX3_countBeyondLimits_38 (by decide) (fun c38 => ?_) (fun c38 => ?_)
        · skip
          refine lv_iconst (v := iI 0) hex hbc dX3_countBeyondLimits_45 rfl ?_
          refine lv_istore (lv' := [(4, .int (iI 0)), (3, .int (iI (ln (σ 0) i1))), (2, .int (iI i1)), (1, .int (iI n1)), (0, .ref (a 14))]) hex hbc dX3_countBeyondLimits_46 hl (by decide) rfl (fun ls hl => ?_)
          refine lv_iload hex hbc dX3_countBeyondLimits_48 (lv_at hl 0 rfl) ?_
          refine zt_if_ne (a := 0) (tgt := 70) hex hbc (by decide) dX3_countBeyondLimits_50 (by decide) (fun h => absurd h (by decide)) (fun _ => ?_)
          refine lv_aload_n hex hbc dX3_countBeyondLimits_53 rfl (lv_at hl 4 rfl) ?_
          refine va_get (v := .ref (a 15)) hex hbc hts hin3 hown hK hP 14 rfl rfl 2 (by decide) (hts _ (List.mem_of_getElem? (i := 3) rfl)) (fun _ h => h) rfl dX3_countBeyondLimits_54 ?_
          refine lv_iload_n hex hbc dX3_countBeyondLimits_57 rfl (lv_at hl 2 rfl) ?_
          refine g_iald (f := (σ 19)) (v := (σ 19 i1)) (i := i1) hex hbc hK hP 15 0 rfl rfl (by decide) (by omega) rfl dX3_countBeyondLimits_58 ?_
          refine zt_nm (a := (σ 19 i1)) (b := (bud (σ 0) i1)) (hbud i1 hi0 c12) ?_
          refine lv_aload_n hex hbc dX3_countBeyondLimits_59 rfl (lv_at hl 4 rfl) ?_
          refine va_get (v := .ref (a 3)) hex hbc hts hin3 hown hK hP 14 rfl rfl 0 (by decide) (hts _ (List.mem_of_getElem? (i := 1) rfl)) (fun _ h => h) rfl dX3_countBeyondLimits_60 ?_
          refine lv_iload_n hex hbc dX3_countBeyondLimits_63 rfl (lv_at hl 1 rfl) ?_
          refine g_calli [.int (iI (ln (σ 0) i1))] ⟨hex, hbc, hml, hown, hts⟩ (mX2_mostBudget l G cx a σ (ln (σ 0) i1) (by omega) hI) (cwV 1 hts gX3_countBeyondLimits_X2_mostBudget rfl rfl rfl (by decide +kernel) ⟨Nat.le_of_ble_eq_true rfl, Nat.le_of_ble_eq_true rfl⟩) hK hP hD hS (fun _ h => h) 3 2 rfl rfl rfl rfl hl.1 (Nat.le_of_ble_eq_true rfl) dX3_countBeyondLimits_64 ⟨Nat.zero_le _, Nat.zero_le _⟩ (fun r_64 u_64 H locs hw_64 hP hD hS hz_64 hk_64 => ?_)
          obtain ⟨rfl, rfl⟩ := hw_64
          refine zt_icmp_le (a := (bud (σ 0) i1)) (b := ((ln (σ 0) i1) * σ 0 5 / 100)) (tgt := 73) hex hbc (by omega) dX3_countBeyondLimits_67 (by decide) (fun c67 => ?_) (fun c67 => ?_)
          · skip
            refine lv_iinc (v := iI (i1 + 1)) (lv' := [(2, .int (iI (i1 + 1))), (4, .int (iI 0)), (3, .int (iI (ln (σ 0) i1))), (1, .int (iI n1)), (0, .ref (a 14))]) hex hbc dX3_countBeyondLimits_73 hl (k := 2) rfl (iI_add _ _) (by decide) rfl (fun ls hl => ?_)
            refine lv_goto (tgt := 4) hex hbc dX3_countBeyondLimits_76 (by decide) ?_
            exact ih_4 (i1 + 1) n1 ⟨by omega, by omega, by rw [sumN_at hi0, ← hn1]; unfold bey; first | rw [if_pos (by omega)] | (rw [if_neg (by omega)]; omega)⟩ (by omega) _ _ _ hP hD hS (lv_sub hl [0, 3, 4] rfl)
          · skip
            refine lv_iinc (v := iI (n1 + 1)) (lv' := [(1, .int (iI (n1 + 1))), (4, .int (iI 0)), (3, .int (iI (ln (σ 0) i1))), (2, .int (iI i1)), (0, .ref (a 14))]) hex hbc dX3_countBeyondLimits_70 hl (k := 3) rfl (iI_add _ _) (by decide) rfl (fun ls hl => ?_)
            refine lv_iinc (v := iI (i1 + 1)) (lv' := [(2, .int (iI (i1 + 1))), (1, .int (iI (n1 + 1))), (4, .int (iI 0)), (3, .int (iI (ln (σ 0) i1))), (0, .ref (a 14))]) hex hbc dX3_countBeyondLimits_73 hl (k := 3) rfl (iI_add _ _) (by decide) rfl (fun ls hl => ?_)
            refine lv_goto (tgt := 4) hex hbc dX3_countBeyondLimits_76 (by decide) ?_
            exact ih_4 (i1 + 1) (n1 + 1) ⟨by omega, by omega, by rw [sumN_at hi0, ← hn1]; unfold bey; first | rw [if_pos (by omega)] | (rw [if_neg (by omega)]; omega)⟩ (by omega) _ _ _ hP hD hS (lv_sub hl [0, 1, 4] rfl)
        · skip
          refine lv_iconst (v := iI 1) hex hbc dX3_countBeyondLimits_41 rfl ?_
          refine lv_goto (tgt := 46) hex hbc dX3_countBeyondLimits_42 (by decide) ?_
          refine lv_istore (lv' := [(4, .int (iI 1)), (3, .int (iI (ln (σ 0) i1))), (2, .int (iI i1)), (1, .int (iI n1)), (0, .ref (a 14))]) hex hbc dX3_countBeyondLimits_46 hl (by decide) rfl (fun ls hl => ?_)
          refine lv_iload hex hbc dX3_countBeyondLimits_48 (lv_at hl 0 rfl) ?_
          refine zt_if_ne (a := 1) (tgt := 70) hex hbc (by decide) dX3_countBeyondLimits_50 (by decide) (fun _ => ?_) (fun h => absurd h (by decide))
          refine lv_iinc (v := iI (n1 + 1)) (lv' := [(1, .int (iI (n1 + 1))), (4, .int (iI 1)), (3, .int (iI (ln (σ 0) i1))), (2, .int (iI i1)), (0, .ref (a 14))]) hex hbc dX3_countBeyondLimits_70 hl (k := 3) rfl (iI_add _ _) (by decide) rfl (fun ls hl => ?_)
          refine lv_iinc (v := iI (i1 + 1)) (lv' := [(2, .int (iI (i1 + 1))), (1, .int (iI (n1 + 1))), (4, .int (iI 1)), (3, .int (iI (ln (σ 0) i1))), (0, .ref (a 14))]) hex hbc dX3_countBeyondLimits_73 hl (k := 3) rfl (iI_add _ _) (by decide) rfl (fun ls hl => ?_)
          refine lv_goto (tgt := 4) hex hbc dX3_countBeyondLimits_76 (by decide) ?_
          exact ih_4 (i1 + 1) (n1 + 1) ⟨by omega, by omega, by rw [sumN_at hi0, ← hn1]; unfold bey; first | rw [if_pos (by omega)] | (rw [if_neg (by omega)]; omega)⟩ (by omega) _ _ _ hP hD hS (lv_sub hl [0, 1, 4] rfl)
  exact loop_4 _ 0 0 ⟨by omega, by omega, rfl⟩ (mz_lt _) _ _ _ hP hD hS (lv_sub hl [0, 1, 2] rfl)
theorem iX3_fadeAt_X2 : ∀ w ∈ wsX20, w ∈ wsX3_fadeAt := fun _ h => List.mem_cons_of_mem _ (List.mem_append_right _ h)
theorem iX3_fadeAt_X3 : ∀ w ∈ wsX30, w ∈ wsX3_fadeAt := fun _ h => List.mem_cons_of_mem _ (List.mem_append_left _ (List.mem_append_right _ h))
set_option maxHeartbeats 4000000 in
set_option maxRecDepth 100000 in
theorem mX3_fadeAt (l : Launch) (G : va_G) (cx a : Nat → Nat) (σ : Nat → Int → Int)  (x : Int) (hx : 0 ≤ x ∧ x < σ 0 74) (hlay : lay_ (σ 0)) (hbud : ∀ k, 0 ≤ k → k < σ 0 74 → σ 19 k = bud (σ 0) k) (hI : Inv (σ 0)) : Met l yX3_fadeAt wsX3_fadeAt ({ frames := 1, cells := 0, slots := 0, locals := 30 }) (va_Pc [.ref (a 14), .int (iI x)] (gW G (tx cx) (XA a) (wx cx a) σ)) (va_Qi (fun r u => σ = u ∧ iI (fad (σ 0) (bud (σ 0)) x) = r) (gW G (tx cx) (XA a) (wx cx a)) (XA a)) 0 0 (XA a) := by
  refine Met.ofW (cc := cX3_fadeAt) (maxL := 5) (ret := some .int) (by decide) rfl ?_
  intro p e s m args below meth c s₁ B hml hv
  obtain ⟨rfl, hP, hK, hD⟩ := hv
  have hex := B.exec
  have hbc := B.bytes
  have hrt := B.returns
  have hts := atoms_spec (ws := wsX3_fadeAt) B.pre
  have hown : s.vm.findClass RX3 = some m.cls := findClass_of_methodNamed B.named
  have hlocks := B.notSynchronized
  have hS : va_S (XA a) s.heap s.heap [] := va_S.rf
  have hin2 := iX3_fadeAt_X2
  have hin3 := iX3_fadeAt_X3
  have hl := lv_entry ([.ref (a 14), .int (iI x)]) (n := 5) (Nat.le_of_ble_eq_true rfl)
  rw [lg_entry_eq]
  generalize (lg_sl ([.ref (a 14), .int (iI x)]) ++ List.replicate (5 - (lg_sl ([.ref (a 14), .int (iI x)])).length) Slot.unset).toArray = ls at hl ⊢
  have hl : lv_has ls 5 [(0, .ref (a 14)), (1, .int (iI x))] := hl
  obtain ⟨hB, hEn, hMk, hAs, hPm⟩ := id hI
  have hO := hPm.1
  have ho1 := hO x hx.1 hx.2
  have hb1 := bud_in hI hlay ho1.1 ho1.2
  refine lv_iload_n hex hbc dX3_fadeAt_0 rfl (lv_at hl 1 rfl) ?_
  refine lv_iconst (v := iI 1) hex hbc dX3_fadeAt_1 rfl ?_
  refine zt_iadd hex hbc dX3_fadeAt_2 ?_
  refine lv_aload_n hex hbc dX3_fadeAt_3 rfl (lv_at hl 0 rfl) ?_
  refine va_get (v := .ref (a 3)) hex hbc hts hin3 hown hK hP 14 rfl rfl 0 (by decide) (hts _ (List.mem_of_getElem? (i := 1) rfl)) (fun _ h => h) rfl dX3_fadeAt_4 ?_
  refine va_get (v := .int (iI (σ 0 74))) hex hbc hts hin2 hown hK hP 3 rfl rfl 1 (by decide) (hts _ (List.mem_of_getElem? (i := 2) rfl)) (fun _ h => h) rfl dX3_fadeAt_7 ?_
  refine zt_icmp_ge (a := (x + 1)) (b := (σ 0 74)) (tgt := 19) hex hbc (by omega) dX3_fadeAt_10 (by decide) (fun c10 => ?_) (fun c10 => ?_)
  · skip
    have ho2 : 0 ≤ σ 0 91 ∧ σ 0 91 < σ 0 74 := hO 0 (by omega) (by omega)
    have hb2 := bud_in hI hlay ho2.1 ho2.2
    have hfd : fad (σ 0) (bud (σ 0)) x = min (σ 0 9) (min (bud (σ 0) (σ 0 (91 + x)) / 4) (bud (σ 0) (σ 0 91) / 4)) := by unfold fad; rw [if_neg (by omega)]; rfl
    refine lv_iconst (v := iI 0) hex hbc dX3_fadeAt_19 rfl ?_
    refine lv_istore_n (lv' := [(2, .int (iI 0)), (0, .ref (a 14)), (1, .int (iI x))]) hex hbc dX3_fadeAt_20 rfl hl (by decide) rfl (fun ls hl => ?_)
    refine lv_aload_n hex hbc dX3_fadeAt_21 rfl (lv_at hl 1 rfl) ?_
    refine va_get (v := .ref (a 15)) hex hbc hts hin3 hown hK hP 14 rfl rfl 2 (by decide) (hts _ (List.mem_of_getElem? (i := 3) rfl)) (fun _ h => h) rfl dX3_fadeAt_22 ?_
    refine lv_aload_n hex hbc dX3_fadeAt_25 rfl (lv_at hl 1 rfl) ?_
    refine va_get (v := .ref (a 3)) hex hbc hts hin3 hown hK hP 14 rfl rfl 0 (by decide) (hts _ (List.mem_of_getElem? (i := 1) rfl)) (fun _ h => h) rfl dX3_fadeAt_26 ?_
    refine va_get (v := .ref (a 7)) hex hbc hts hin2 hown hK hP 3 rfl rfl 5 (by decide) (hts _ (List.mem_of_getElem? (i := 4) rfl)) (fun _ h => h) rfl dX3_fadeAt_29 ?_
    refine lv_iload_n hex hbc dX3_fadeAt_32 rfl (lv_at hl 2 rfl) ?_
    refine g_iald (f := (fun k => (σ 0 (91 + k)))) (v := (σ 0 (91 + x))) (i := x) hex hbc hK hP 7 0 rfl rfl (by decide) (by omega) rfl dX3_fadeAt_33 ?_
    refine g_iald (f := (σ 19)) (v := (σ 19 (σ 0 (91 + x)))) (i := (σ 0 (91 + x))) hex hbc hK hP 15 0 rfl rfl (by decide) (by omega) rfl dX3_fadeAt_34 ?_
    refine zt_nm (a := (σ 19 (σ 0 (91 + x)))) (b := (bud (σ 0) (σ 0 (91 + x)))) (hbud _ ho1.1 ho1.2) ?_
    refine lv_iconst (v := iI 4) hex hbc dX3_fadeAt_35 rfl ?_
    refine zt_idiv (a := (bud (σ 0) (σ 0 (91 + x)))) (b := 4) hex hbc (by omega) dX3_fadeAt_36 ?_
    refine lv_istore_n (lv' := [(3, .int (iI ((bud (σ 0) (σ 0 (91 + x))) / 4))), (2, .int (iI 0)), (0, .ref (a 14)), (1, .int (iI x))]) hex hbc dX3_fadeAt_37 rfl hl (by decide) rfl (fun ls hl => ?_)
    refine lv_aload_n hex hbc dX3_fadeAt_38 rfl (lv_at hl 2 rfl) ?_
    refine va_get (v := .ref (a 15)) hex hbc hts hin3 hown hK hP 14 rfl rfl 2 (by decide) (hts _ (List.mem_of_getElem? (i := 3) rfl)) (fun _ h => h) rfl dX3_fadeAt_39 ?_
    refine lv_aload_n hex hbc dX3_fadeAt_42 rfl (lv_at hl 2 rfl) ?_
    refine va_get (v := .ref (a 3)) hex hbc hts hin3 hown hK hP 14 rfl rfl 0 (by decide) (hts _ (List.mem_of_getElem? (i := 1) rfl)) (fun _ h => h) rfl dX3_fadeAt_43 ?_
    refine va_get (v := .ref (a 7)) hex hbc hts hin2 hown hK hP 3 rfl rfl 5 (by decide) (hts _ (List.mem_of_getElem? (i := 4) rfl)) (fun _ h => h) rfl dX3_fadeAt_46 ?_
    refine lv_iload_n hex hbc dX3_fadeAt_49 rfl (lv_at hl 1 rfl) ?_
    refine g_iald (f := (fun k => (σ 0 (91 + k)))) (v := (σ 0 91)) (i := 0) hex hbc hK hP 7 0 rfl rfl (by decide) (by omega) rfl dX3_fadeAt_50 ?_
    refine g_iald (f := (σ 19)) (v := (σ 19 (σ 0 91))) (i := (σ 0 91)) hex hbc hK hP 15 0 rfl rfl (by decide) (by omega) rfl dX3_fadeAt_51 ?_
    refine zt_nm (a := (σ 19 (σ 0 91))) (b := (bud (σ 0) (σ 0 91))) (hbud _ ho2.1 ho2.2) ?_
    refine lv_iconst (v := iI 4) hex hbc dX3_fadeAt_52 rfl ?_
    refine zt_idiv (a := (bud (σ 0) (σ 0 91))) (b := 4) hex hbc (by omega) dX3_fadeAt_53 ?_
    refine lv_istore (lv' := [(4, .int (iI ((bud (σ 0) (σ 0 91)) / 4))), (3, .int (iI ((bud (σ 0) (σ 0 (91 + x))) / 4))), (2, .int (iI 0)), (0, .ref (a 14)), (1, .int (iI x))]) hex hbc dX3_fadeAt_54 hl (by decide) rfl (fun ls hl => ?_)
    refine lv_aload_n hex hbc dX3_fadeAt_56 rfl (lv_at hl 3 rfl) ?_
    refine va_get (v := .ref (a 3)) hex hbc hts hin3 hown hK hP 14 rfl rfl 0 (by decide) (hts _ (List.mem_of_getElem? (i := 1) rfl)) (fun _ h => h) rfl dX3_fadeAt_57 ?_
    refine va_get (v := .ref (a 5)) hex hbc hts hin2 hown hK hP 3 rfl rfl 3 (by decide) (hts _ (List.mem_of_getElem? (i := 5) rfl)) (fun _ h => h) rfl dX3_fadeAt_60 ?_
    refine lv_bipush (v := iI 8) hex hbc dX3_fadeAt_63 (by decide) ?_
    refine g_iald (f := (fun k => (σ 0 (1 + k)))) (v := (σ 0 9)) (i := 8) hex hbc hK hP 5 0 rfl rfl (by decide) (by omega) rfl dX3_fadeAt_65 ?_
    refine lv_iload_n hex hbc dX3_fadeAt_66 rfl (lv_at hl 1 rfl) ?_
    refine lv_iload hex hbc dX3_fadeAt_67 (lv_at hl 0 rfl) ?_
    refine va_mmin hex hbc (hml.trans hl.1.symm) hown (hts _ (List.mem_of_getElem? (i := 6) rfl)) (hts _ (List.mem_of_getElem? (i := 7) rfl)) (hts _ (List.mem_of_getElem? (i := 8) rfl)) (hts _ (List.mem_of_getElem? (i := 9) rfl)) (Nat.le_of_ble_eq_true rfl) (Nat.le_of_ble_eq_true rfl) (Nat.zero_le _) (Nat.zero_le _) dX3_fadeAt_69 ?_
    rw [iI_min2 (a := ((bud (σ 0) (σ 0 (91 + x))) / 4)) (b := ((bud (σ 0) (σ 0 91)) / 4)) (by omega)]
    refine va_mmin hex hbc (hml.trans hl.1.symm) hown (hts _ (List.mem_of_getElem? (i := 6) rfl)) (hts _ (List.mem_of_getElem? (i := 7) rfl)) (hts _ (List.mem_of_getElem? (i := 8) rfl)) (hts _ (List.mem_of_getElem? (i := 9) rfl)) (Nat.le_of_ble_eq_true rfl) (Nat.le_of_ble_eq_true rfl) (Nat.zero_le _) (Nat.zero_le _) dX3_fadeAt_72 ?_
    rw [iI_min2 (a := (σ 0 9)) (b := (min ((bud (σ 0) (σ 0 (91 + x))) / 4) ((bud (σ 0) (σ 0 91)) / 4))) (by omega)]
    exact g_iret hex hbc hrt hlocks hK hP hD hS ⟨rfl, congrArg iI hfd⟩ dX3_fadeAt_75
  · skip
    have ho2 := hO (x + 1) (by omega) (by omega)
    have hb2 := bud_in hI hlay ho2.1 ho2.2
    have hfd : fad (σ 0) (bud (σ 0)) x = min (σ 0 9) (min (bud (σ 0) (σ 0 (91 + x)) / 4) (bud (σ 0) (σ 0 (91 + (x + 1))) / 4)) := by unfold fad; rw [if_pos (by omega)]
    refine lv_iload_n hex hbc dX3_fadeAt_13 rfl (lv_at hl 1 rfl) ?_
    refine lv_iconst (v := iI 1) hex hbc dX3_fadeAt_14 rfl ?_
    refine zt_iadd hex hbc dX3_fadeAt_15 ?_
    refine lv_goto (tgt := 20) hex hbc dX3_fadeAt_16 (by decide) ?_
    refine lv_istore_n (lv' := [(2, .int (iI (x + 1))), (0, .ref (a 14)), (1, .int (iI x))]) hex hbc dX3_fadeAt_20 rfl hl (by decide) rfl (fun ls hl => ?_)
    refine lv_aload_n hex hbc dX3_fadeAt_21 rfl (lv_at hl 1 rfl) ?_
    refine va_get (v := .ref (a 15)) hex hbc hts hin3 hown hK hP 14 rfl rfl 2 (by decide) (hts _ (List.mem_of_getElem? (i := 3) rfl)) (fun _ h => h) rfl dX3_fadeAt_22 ?_
    refine lv_aload_n hex hbc dX3_fadeAt_25 rfl (lv_at hl 1 rfl) ?_
    refine va_get (v := .ref (a 3)) hex hbc hts hin3 hown hK hP 14 rfl rfl 0 (by decide) (hts _ (List.mem_of_getElem? (i := 1) rfl)) (fun _ h => h) rfl dX3_fadeAt_26 ?_
    refine va_get (v := .ref (a 7)) hex hbc hts hin2 hown hK hP 3 rfl rfl 5 (by decide) (hts _ (List.mem_of_getElem? (i := 4) rfl)) (fun _ h => h) rfl dX3_fadeAt_29 ?_
    refine lv_iload_n hex hbc dX3_fadeAt_32 rfl (lv_at hl 2 rfl) ?_
    refine g_iald (f := (fun k => (σ 0 (91 + k)))) (v := (σ 0 (91 + x))) (i := x) hex hbc hK hP 7 0 rfl rfl (by decide) (by omega) rfl dX3_fadeAt_33 ?_
    refine g_iald (f := (σ 19)) (v := (σ 19 (σ 0 (91 + x)))) (i := (σ 0 (91 + x))) hex hbc hK hP 15 0 rfl rfl (by decide) (by omega) rfl dX3_fadeAt_34 ?_
    refine zt_nm (a := (σ 19 (σ 0 (91 + x)))) (b := (bud (σ 0) (σ 0 (91 + x)))) (hbud _ ho1.1 ho1.2) ?_
    refine lv_iconst (v := iI 4) hex hbc dX3_fadeAt_35 rfl ?_
    refine zt_idiv (a := (bud (σ 0) (σ 0 (91 + x)))) (b := 4) hex hbc (by omega) dX3_fadeAt_36 ?_
    refine lv_istore_n (lv' := [(3, .int (iI ((bud (σ 0) (σ 0 (91 + x))) / 4))), (2, .int (iI (x + 1))), (0, .ref (a 14)), (1, .int (iI x))]) hex hbc dX3_fadeAt_37 rfl hl (by decide) rfl (fun ls hl => ?_)
    refine lv_aload_n hex hbc dX3_fadeAt_38 rfl (lv_at hl 2 rfl) ?_
    refine va_get (v := .ref (a 15)) hex hbc hts hin3 hown hK hP 14 rfl rfl 2 (by decide) (hts _ (List.mem_of_getElem? (i := 3) rfl)) (fun _ h => h) rfl dX3_fadeAt_39 ?_
    refine lv_aload_n hex hbc dX3_fadeAt_42 rfl (lv_at hl 2 rfl) ?_
    refine va_get (v := .ref (a 3)) hex hbc hts hin3 hown hK hP 14 rfl rfl 0 (by decide) (hts _ (List.mem_of_getElem? (i := 1) rfl)) (fun _ h => h) rfl dX3_fadeAt_43 ?_
    refine va_get (v := .ref (a 7)) hex hbc hts hin2 hown hK hP 3 rfl rfl 5 (by decide) (hts _ (List.mem_of_getElem? (i := 4) rfl)) (fun _ h => h) rfl dX3_fadeAt_46 ?_
    refine lv_iload_n hex hbc dX3_fadeAt_49 rfl (lv_at hl 1 rfl) ?_
    refine g_iald (f := (fun k => (σ 0 (91 + k)))) (v := (σ 0 (91 + (x + 1)))) (i := (x + 1)) hex hbc hK hP 7 0 rfl rfl (by decide) (by omega) rfl dX3_fadeAt_50 ?_
    refine g_iald (f := (σ 19)) (v := (σ 19 (σ 0 (91 + (x + 1))))) (i := (σ 0 (91 + (x + 1)))) hex hbc hK hP 15 0 rfl rfl (by decide) (by omega) rfl dX3_fadeAt_51 ?_
    refine zt_nm (a := (σ 19 (σ 0 (91 + (x + 1))))) (b := (bud (σ 0) (σ 0 (91 + (x + 1))))) (hbud _ ho2.1 ho2.2) ?_
    refine lv_iconst (v := iI 4) hex hbc dX3_fadeAt_52 rfl ?_
    refine zt_idiv (a := (bud (σ 0) (σ 0 (91 + (x + 1))))) (b := 4) hex hbc (by omega) dX3_fadeAt_53 ?_
    refine lv_istore (lv' := [(4, .int (iI ((bud (σ 0) (σ 0 (91 + (x + 1)))) / 4))), (3, .int (iI ((bud (σ 0) (σ 0 (91 + x))) / 4))), (2, .int (iI (x + 1))), (0, .ref (a 14)), (1, .int (iI x))]) hex hbc dX3_fadeAt_54 hl (by decide) rfl (fun ls hl => ?_)
    refine lv_aload_n hex hbc dX3_fadeAt_56 rfl (lv_at hl 3 rfl) ?_
    refine va_get (v := .ref (a 3)) hex hbc hts hin3 hown hK hP 14 rfl rfl 0 (by decide) (hts _ (List.mem_of_getElem? (i := 1) rfl)) (fun _ h => h) rfl dX3_fadeAt_57 ?_
    refine va_get (v := .ref (a 5)) hex hbc hts hin2 hown hK hP 3 rfl rfl 3 (by decide) (hts _ (List.mem_of_getElem? (i := 5) rfl)) (fun _ h => h) rfl dX3_fadeAt_60 ?_
    refine lv_bipush (v := iI 8) hex hbc dX3_fadeAt_63 (by decide) ?_
    refine g_iald (f := (fun k => (σ 0 (1 + k)))) (v := (σ 0 9)) (i := 8) hex hbc hK hP 5 0 rfl rfl (by decide) (by omega) rfl dX3_fadeAt_65 ?_
    refine lv_iload_n hex hbc dX3_fadeAt_66 rfl (lv_at hl 1 rfl) ?_
    refine lv_iload hex hbc dX3_fadeAt_67 (lv_at hl 0 rfl) ?_
    refine va_mmin hex hbc (hml.trans hl.1.symm) hown (hts _ (List.mem_of_getElem? (i := 6) rfl)) (hts _ (List.mem_of_getElem? (i := 7) rfl)) (hts _ (List.mem_of_getElem? (i := 8) rfl)) (hts _ (List.mem_of_getElem? (i := 9) rfl)) (Nat.le_of_ble_eq_true rfl) (Nat.le_of_ble_eq_true rfl) (Nat.zero_le _) (Nat.zero_le _) dX3_fadeAt_69 ?_
    rw [iI_min2 (a := ((bud (σ 0) (σ 0 (91 + x))) / 4)) (b := ((bud (σ 0) (σ 0 (91 + (x + 1)))) / 4)) (by omega)]
    refine va_mmin hex hbc (hml.trans hl.1.symm) hown (hts _ (List.mem_of_getElem? (i := 6) rfl)) (hts _ (List.mem_of_getElem? (i := 7) rfl)) (hts _ (List.mem_of_getElem? (i := 8) rfl)) (hts _ (List.mem_of_getElem? (i := 9) rfl)) (Nat.le_of_ble_eq_true rfl) (Nat.le_of_ble_eq_true rfl) (Nat.zero_le _) (Nat.zero_le _) dX3_fadeAt_72 ?_
    rw [iI_min2 (a := (σ 0 9)) (b := (min ((bud (σ 0) (σ 0 (91 + x))) / 4) ((bud (σ 0) (σ 0 (91 + (x + 1)))) / 4))) (by omega)]
    exact g_iret hex hbc hrt hlocks hK hP hD hS ⟨rfl, congrArg iI hfd⟩ dX3_fadeAt_75
theorem iX3_sumFades_X2 : ∀ w ∈ wsX20, w ∈ wsX3_sumFades := fun _ h => List.mem_cons_of_mem _ (List.mem_append_right _ h)
theorem iX3_sumFades_X3 : ∀ w ∈ wsX30, w ∈ wsX3_sumFades := fun _ h => List.mem_cons_of_mem _ (List.mem_append_left _ (List.mem_append_right _ h))
set_option maxHeartbeats 4000000 in
set_option maxRecDepth 100000 in
theorem mX3_sumFades (l : Launch) (G : va_G) (cx a : Nat → Nat) (σ : Nat → Int → Int)   (hlay : lay_ (σ 0)) (hbud : ∀ k, 0 ≤ k → k < σ 0 74 → σ 19 k = bud (σ 0) k) (hI : Inv (σ 0)) : Met l yX3_sumFades wsX3_sumFades ({ frames := 2, cells := 0, slots := 0, locals := 54 }) (va_Pc [.ref (a 14)] (gW G (tx cx) (XA a) (wx cx a) σ)) (va_Qi (fun r u => σ = u ∧ iI (sumN (fad (σ 0) (bud (σ 0))) (σ 0 74).toNat) = r) (gW G (tx cx) (XA a) (wx cx a)) (XA a)) 0 0 (XA a) := by
  refine Met.ofW (cc := cX3_sumFades) (maxL := 3) (ret := some .int) (by decide) rfl ?_
  intro p e s m args below meth c s₁ B hml hv
  obtain ⟨rfl, hP, hK, hD⟩ := hv
  have hex := B.exec
  have hbc := B.bytes
  have hrt := B.returns
  have hts := atoms_spec (ws := wsX3_sumFades) B.pre
  have hown : s.vm.findClass RX3 = some m.cls := findClass_of_methodNamed B.named
  have hlocks := B.notSynchronized
  have hS : va_S (XA a) s.heap s.heap [] := va_S.rf
  have hin2 := iX3_sumFades_X2
  have hin3 := iX3_sumFades_X3
  have hl := lv_entry ([.ref (a 14)]) (n := 3) (Nat.le_of_ble_eq_true rfl)
  rw [lg_entry_eq]
  generalize (lg_sl ([.ref (a 14)]) ++ List.replicate (3 - (lg_sl ([.ref (a 14)])).length) Slot.unset).toArray = ls at hl ⊢
  have hl : lv_has ls 3 [(0, .ref (a 14))] := hl
  obtain ⟨hB, hEn, hMk, hAs, hPm⟩ := id hI
  refine lv_iconst (v := iI 0) hex hbc dX3_sumFades_0 rfl ?_
  refine lv_istore_n (lv' := [(1, .int (iI 0)), (0, .ref (a 14))]) hex hbc dX3_sumFades_1 rfl hl (by decide) rfl (fun ls hl => ?_)
  refine lv_iconst (v := iI 0) hex hbc dX3_sumFades_2 rfl ?_
  refine lv_istore_n (lv' := [(2, .int (iI 0)), (1, .int (iI 0)), (0, .ref (a 14))]) hex hbc dX3_sumFades_3 rfl hl (by decide) rfl (fun ls hl => ?_)
  have loop_4 : ∀ (N : Nat) (i1 : Int) (n1 : Int), (0 ≤ i1 ∧ i1 ≤ σ 0 74 ∧ n1 = sumN (fad (σ 0) (bud (σ 0))) i1.toNat) → (σ 0 74 - i1) < (N : Int) → ∀ (H : Heap) (locs : List Loc) (ls : Array Slot), va_P G vwCl (wx cx a σ) H → va_D (XA a) (wx cx a σ) → va_S (XA a) s.heap H locs → lv_has ls 3 [(2, .int (iI i1)), (1, .int (iI n1)), (0, .ref (a 14))] → W p l e (headSpec wsX3_sumFades ({ frames := 2, cells := 0, slots := 0, locals := 54 })).room s m ([.ref (a 14)] : List Value).toArray below meth c H locs 0 0 (MQ below (va_Qi (fun r u => σ = u ∧ iI (sumN (fad (σ 0) (bud (σ 0))) (σ 0 74).toNat) = r) (gW G (tx cx) (XA a) (wx cx a)) (XA a)) ([.ref (a 14)] : List Value).toArray s 0 0 (XA a)) (F0 m 4 ls []) := by
    intro N
    induction N with
    | zero => intro i1 n1 hinv hlt; exfalso; omega
    | succ N ih_4 =>
      intro i1 n1 ⟨hi0, hi1, hn1⟩ hlt_4 H locs ls hP hD hS hl
      refine lv_iload_n hex hbc dX3_sumFades_4 rfl (lv_at hl 0 rfl) ?_
      refine lv_aload_n hex hbc dX3_sumFades_5 rfl (lv_at hl 2 rfl) ?_
      refine va_get (v := .ref (a 3)) hex hbc hts hin3 hown hK hP 14 rfl rfl 0 (by decide) (hts _ (List.mem_of_getElem? (i := 1) rfl)) (fun _ h => h) rfl dX3_sumFades_6 ?_
      refine va_get (v := .int (iI (σ 0 74))) hex hbc hts hin2 hown hK hP 3 rfl rfl 1 (by decide) (hts _ (List.mem_of_getElem? (i := 2) rfl)) (fun _ h => h) rfl dX3_sumFades_9 ?_
      refine zt_icmp_ge (a := i1) (b := (σ 0 74)) (tgt := 29) hex hbc (by omega) dX3_sumFades_12 (by decide) (fun c12 => ?_) (fun c12 => ?_)
      · skip
        refine lv_iload_n hex hbc dX3_sumFades_29 rfl (lv_at hl 1 rfl) ?_
        exact g_iret hex hbc hrt hlocks hK hP hD hS ⟨rfl, congrArg iI (by rw [hn1, show i1 = σ 0 74 by omega])⟩ dX3_sumFades_30
      · skip
        refine lv_iload_n hex hbc dX3_sumFades_15 rfl (lv_at hl 1 rfl) ?_
        refine lv_aload_n hex hbc dX3_sumFades_16 rfl (lv_at hl 2 rfl) ?_
        refine lv_iload_n hex hbc dX3_sumFades_17 rfl (lv_at hl 0 rfl) ?_
        refine g_calli [.int (iI i1)] ⟨hex, hbc, hml, hown, hts⟩ (mX3_fadeAt l G cx a σ i1 (by omega) hlay hbud hI) (cwV 1 hts gX3_sumFades_X3_fadeAt rfl rfl rfl (by decide +kernel) ⟨Nat.le_of_ble_eq_true rfl, Nat.le_of_ble_eq_true rfl⟩) hK hP hD hS (fun _ h => h) 14 3 rfl rfl rfl rfl hl.1 (Nat.le_of_ble_eq_true rfl) dX3_sumFades_18 ⟨Nat.zero_le _, Nat.zero_le _⟩ (fun r_18 u_18 H locs hw_18 hP hD hS hz_18 hk_18 => ?_)
        obtain ⟨rfl, rfl⟩ := hw_18
        refine zt_iadd hex hbc dX3_sumFades_21 ?_
        refine lv_istore_n (lv' := [(1, .int (iI (n1 + (fad (σ 0) (bud (σ 0)) i1)))), (2, .int (iI i1)), (0, .ref (a 14))]) hex hbc dX3_sumFades_22 rfl hl (by decide) rfl (fun ls hl => ?_)
        refine lv_iinc (v := iI (i1 + 1)) (lv' := [(2, .int (iI (i1 + 1))), (1, .int (iI (n1 + (fad (σ 0) (bud (σ 0)) i1)))), (0, .ref (a 14))]) hex hbc dX3_sumFades_23 hl (k := 1) rfl (iI_add _ _) (by decide) rfl (fun ls hl => ?_)
        refine lv_goto (tgt := 4) hex hbc dX3_sumFades_26 (by decide) ?_
        exact ih_4 (i1 + 1) (n1 + (fad (σ 0) (bud (σ 0)) i1)) ⟨by omega, by omega, by rw [sumN_at hi0, ← hn1]⟩ (by omega) _ _ _ hP hD hS (lv_sub hl [0, 1, 2] rfl)
  exact loop_4 _ 0 0 ⟨by omega, by omega, rfl⟩ (mz_lt _) _ _ _ hP hD hS (lv_sub hl [0, 1, 2] rfl)
theorem iX3_beginOf_X2 : ∀ w ∈ wsX20, w ∈ wsX3_beginOf := fun _ h => List.mem_cons_of_mem _ (List.mem_append_right _ h)
theorem iX3_beginOf_X3 : ∀ w ∈ wsX30, w ∈ wsX3_beginOf := fun _ h => List.mem_cons_of_mem _ (List.mem_append_left _ (List.mem_append_right _ h))
set_option maxHeartbeats 4000000 in
set_option maxRecDepth 100000 in
theorem mX3_beginOf (l : Launch) (G : va_G) (cx a : Nat → Nat) (σ : Nat → Int → Int)  (x : Int) (hx : 0 ≤ x ∧ x < σ 0 74) (hlay : lay_ (σ 0)) (hbud : ∀ k, 0 ≤ k → k < σ 0 74 → σ 19 k = bud (σ 0) k) (hI : Inv (σ 0)) : Met l yX3_beginOf wsX3_beginOf ({ frames := 1, cells := 0, slots := 0, locals := 22 }) (va_Pc [.ref (a 14), .int (iI x)] (gW G (tx cx) (XA a) (wx cx a) σ)) (va_Qi (fun r u => σ = u ∧ ∃ p, Plc (σ 0) x p ∧ iI (sumN (fun k => bud (σ 0) (σ 0 (91 + k))) p.toNat) = r) (gW G (tx cx) (XA a) (wx cx a)) (XA a)) 0 0 (XA a) := by
  refine Met.ofW (cc := cX3_beginOf) (maxL := 5) (ret := some .int) (by decide) rfl ?_
  intro p e s m args below meth c s₁ B hml hv
  obtain ⟨rfl, hP, hK, hD⟩ := hv
  have hex := B.exec
  have hbc := B.bytes
  have hrt := B.returns
  have hts := atoms_spec (ws := wsX3_beginOf) B.pre
  have hown : s.vm.findClass RX3 = some m.cls := findClass_of_methodNamed B.named
  have hlocks := B.notSynchronized
  have hS : va_S (XA a) s.heap s.heap [] := va_S.rf
  have hin2 := iX3_beginOf_X2
  have hin3 := iX3_beginOf_X3
  have hl := lv_entry ([.ref (a 14), .int (iI x)]) (n := 5) (Nat.le_of_ble_eq_true rfl)
  rw [lg_entry_eq]
  generalize (lg_sl ([.ref (a 14), .int (iI x)]) ++ List.replicate (5 - (lg_sl ([.ref (a 14), .int (iI x)])).length) Slot.unset).toArray = ls at hl ⊢
  have hl : lv_has ls 5 [(0, .ref (a 14)), (1, .int (iI x))] := hl
  obtain ⟨hB, hEn, hMk, hAs, hPm⟩ := id hI
  have hO := hPm.1
  have hpl := hI.plc hx
  refine lv_iconst (v := iI 0) hex hbc dX3_beginOf_0 rfl ?_
  refine lv_istore_n (lv' := [(2, .int (iI 0)), (0, .ref (a 14)), (1, .int (iI x))]) hex hbc dX3_beginOf_1 rfl hl (by decide) rfl (fun ls hl => ?_)
  refine lv_aload_n hex hbc dX3_beginOf_2 rfl (lv_at hl 1 rfl) ?_
  refine va_get (v := .ref (a 3)) hex hbc hts hin3 hown hK hP 14 rfl rfl 0 (by decide) (hts _ (List.mem_of_getElem? (i := 1) rfl)) (fun _ h => h) rfl dX3_beginOf_3 ?_
  refine lv_iload_n hex hbc dX3_beginOf_6 rfl (lv_at hl 2 rfl) ?_
  refine g_calli [.int (iI x)] ⟨hex, hbc, hml, hown, hts⟩ (mX2_placeOf l G cx a σ x (by omega) hI hpl) (cwV 1 hts gX3_beginOf_X2_placeOf rfl rfl rfl (by decide +kernel) ⟨Nat.le_of_ble_eq_true rfl, Nat.le_of_ble_eq_true rfl⟩) hK hP hD hS (fun _ h => h) 3 2 rfl rfl rfl rfl hl.1 (Nat.le_of_ble_eq_true rfl) dX3_beginOf_7 ⟨Nat.zero_le _, Nat.zero_le _⟩ (fun r_7 u_7 H locs hw_7 hP hD hS hz_7 hk_7 => ?_)
  obtain ⟨rfl, p7, rfl, hp7⟩ := hw_7
  refine lv_istore_n (lv' := [(3, .int (iI p7)), (2, .int (iI 0)), (0, .ref (a 14)), (1, .int (iI x))]) hex hbc dX3_beginOf_10 rfl hl (by decide) rfl (fun ls hl => ?_)
  have hp74 := hp7.2.1
  refine lv_iconst (v := iI 0) hex hbc dX3_beginOf_11 rfl ?_
  refine lv_istore (lv' := [(4, .int (iI 0)), (3, .int (iI p7)), (2, .int (iI 0)), (0, .ref (a 14)), (1, .int (iI x))]) hex hbc dX3_beginOf_12 hl (by decide) rfl (fun ls hl => ?_)
  have loop_14 : ∀ (N : Nat) (i1 : Int) (n1 : Int), (0 ≤ i1 ∧ i1 ≤ p7 ∧ n1 = sumN (fun k => bud (σ 0) (σ 0 (91 + k))) i1.toNat) → (p7 - i1) < (N : Int) → ∀ (H : Heap) (locs : List Loc) (ls : Array Slot), va_P G vwCl (wx cx a σ) H → va_D (XA a) (wx cx a σ) → va_S (XA a) s.heap H locs → lv_has ls 5 [(4, .int (iI i1)), (2, .int (iI n1)), (3, .int (iI p7)), (0, .ref (a 14))] → W p l e (headSpec wsX3_beginOf ({ frames := 1, cells := 0, slots := 0, locals := 22 })).room s m ([.ref (a 14), .int (iI x)] : List Value).toArray below meth c H locs 0 0 (MQ below (va_Qi (fun r u => σ = u ∧ ∃ p, Plc (σ 0) x p ∧ iI (sumN (fun k => bud (σ 0) (σ 0 (91 + k))) p.toNat) = r) (gW G (tx cx) (XA a) (wx cx a)) (XA a)) ([.ref (a 14), .int (iI x)] : List Value).toArray s 0 0 (XA a)) (F0 m 14 ls []) := by
    intro N
    induction N with
    | zero => intro i1 n1 hinv hlt; exfalso; omega
    | succ N ih_14 =>
      intro i1 n1 ⟨hi0, hi1, hn1⟩ hlt_14 H locs ls hP hD hS hl
      refine lv_iload hex hbc dX3_beginOf_14 (lv_at hl 0 rfl) ?_
      refine lv_iload_n hex hbc dX3_beginOf_16 rfl (lv_at hl 2 rfl) ?_
      refine zt_icmp_ge (a := i1) (b := p7) (tgt := 44) hex hbc (by omega) dX3_beginOf_17 (by decide) (fun c17 => ?_) (fun c17 => ?_)
      · skip
        refine lv_iload_n hex hbc dX3_beginOf_44 rfl (lv_at hl 1 rfl) ?_
        exact g_iret hex hbc hrt hlocks hK hP hD hS ⟨rfl, p7, hp7, congrArg iI (by rw [hn1, show i1 = p7 by omega])⟩ dX3_beginOf_45
      · skip
        have ho1 := hO i1 hi0 (by omega)
        have hb1 := bud_in hI hlay ho1.1 ho1.2
        refine lv_iload_n hex hbc dX3_beginOf_20 rfl (lv_at hl 1 rfl) ?_
        refine lv_aload_n hex hbc dX3_beginOf_21 rfl (lv_at hl 3 rfl) ?_
        refine va_get (v := .ref (a 15)) hex hbc hts hin3 hown hK hP 14 rfl rfl 2 (by decide) (hts _ (List.mem_of_getElem? (i := 2) rfl)) (fun _ h => h) rfl dX3_beginOf_22 ?_
        refine lv_aload_n hex hbc dX3_beginOf_25 rfl (lv_at hl 3 rfl) ?_
        refine va_get (v := .ref (a 3)) hex hbc hts hin3 hown hK hP 14 rfl rfl 0 (by decide) (hts _ (List.mem_of_getElem? (i := 1) rfl)) (fun _ h => h) rfl dX3_beginOf_26 ?_
        refine va_get (v := .ref (a 7)) hex hbc hts hin2 hown hK hP 3 rfl rfl 5 (by decide) (hts _ (List.mem_of_getElem? (i := 3) rfl)) (fun _ h => h) rfl dX3_beginOf_29 ?_
        refine lv_iload hex hbc dX3_beginOf_32 (lv_at hl 0 rfl) ?_
        refine g_iald (f := (fun k => (σ 0 (91 + k)))) (v := (σ 0 (91 + i1))) (i := i1) hex hbc hK hP 7 0 rfl rfl (by decide) (by omega) rfl dX3_beginOf_34 ?_
        refine g_iald (f := (σ 19)) (v := (σ 19 (σ 0 (91 + i1)))) (i := (σ 0 (91 + i1))) hex hbc hK hP 15 0 rfl rfl (by decide) (by omega) rfl dX3_beginOf_35 ?_
        refine zt_nm (a := (σ 19 (σ 0 (91 + i1)))) (b := (bud (σ 0) (σ 0 (91 + i1)))) (hbud _ ho1.1 ho1.2) ?_
        refine zt_iadd hex hbc dX3_beginOf_36 ?_
        refine lv_istore_n (lv' := [(2, .int (iI (n1 + (bud (σ 0) (σ 0 (91 + i1)))))), (4, .int (iI i1)), (3, .int (iI p7)), (0, .ref (a 14))]) hex hbc dX3_beginOf_37 rfl hl (by decide) rfl (fun ls hl => ?_)
        refine lv_iinc (v := iI (i1 + 1)) (lv' := [(4, .int (iI (i1 + 1))), (2, .int (iI (n1 + (bud (σ 0) (σ 0 (91 + i1)))))), (3, .int (iI p7)), (0, .ref (a 14))]) hex hbc dX3_beginOf_38 hl (k := 1) rfl (iI_add _ _) (by decide) rfl (fun ls hl => ?_)
        refine lv_goto (tgt := 14) hex hbc dX3_beginOf_41 (by decide) ?_
        exact ih_14 (i1 + 1) (n1 + (bud (σ 0) (σ 0 (91 + i1)))) ⟨by omega, by omega, by rw [sumN_at hi0, ← hn1]⟩ (by omega) _ _ _ hP hD hS (lv_sub hl [0, 1, 2, 3] rfl)
  exact loop_14 _ 0 0 ⟨by omega, hp7.1, rfl⟩ (mz_lt _) _ _ _ hP hD hS (lv_sub hl [0, 2, 1, 3] rfl)
theorem iX3_loopSample_X3 : ∀ w ∈ wsX30, w ∈ wsX3_loopSample := fun _ h => List.mem_cons_of_mem _ (List.mem_append_left _ (List.mem_append_right _ h))
set_option maxHeartbeats 4000000 in
set_option maxRecDepth 100000 in
theorem mX3_loopSample (l : Launch) (G : va_G) (cx a : Nat → Nat) (σ : Nat → Int → Int)  (x1 : Int) (x2 : Int) (h1 : 0 ≤ x1 ∧ x1 < σ 0 74) (h2 : 0 ≤ x2 ∧ x2 < 200001) (hlay : lay_ (σ 0)) (hbud : ∀ k, 0 ≤ k → k < σ 0 74 → σ 19 k = bud (σ 0) k) (hI : Inv (σ 0)) : Met l yX3_loopSample wsX3_loopSample ({ frames := 2, cells := 0, slots := 0, locals := 42 }) (va_Pc [.ref (a 14), .int (iI x1), .int (iI x2)] (gW G (tx cx) (XA a) (wx cx a) σ)) (va_Qi (fun r u => σ = u ∧ iI (if 0 < bud (σ 0) x1 then x2 * ln (σ 0) x1 / bud (σ 0) x1 else 0) = r) (gW G (tx cx) (XA a) (wx cx a)) (XA a)) 0 0 (XA a) := by
  refine Met.ofW (cc := cX3_loopSample) (maxL := 5) (ret := some .int) (by decide) rfl ?_
  intro p e s m args below meth c s₁ B hml hv
  obtain ⟨rfl, hP, hK, hD⟩ := hv
  have hex := B.exec
  have hbc := B.bytes
  have hrt := B.returns
  have hts := atoms_spec (ws := wsX3_loopSample) B.pre
  have hown : s.vm.findClass RX3 = some m.cls := findClass_of_methodNamed B.named
  have hlocks := B.notSynchronized
  have hS : va_S (XA a) s.heap s.heap [] := va_S.rf
  have hin3 := iX3_loopSample_X3
  have hl := lv_entry ([.ref (a 14), .int (iI x1), .int (iI x2)]) (n := 5) (Nat.le_of_ble_eq_true rfl)
  rw [lg_entry_eq]
  generalize (lg_sl ([.ref (a 14), .int (iI x1), .int (iI x2)]) ++ List.replicate (5 - (lg_sl ([.ref (a 14), .int (iI x1), .int (iI x2)])).length) Slot.unset).toArray = ls at hl ⊢
  have hl : lv_has ls 5 [(0, .ref (a 14)), (1, .int (iI x1)), (2, .int (iI x2))] := hl
  obtain ⟨hB, hEn, hMk, hAs, hPm⟩ := id hI
  have hln := hI.ln_in h1.1 h1.2
  have hb1 := bud_in hI hlay h1.1 h1.2
  have hmm := mulb (a := x2) (b := ln (σ 0) x1) (A := 200001) (B := 64000) (by omega) (by omega) (by omega) (by omega)
  refine lv_iload_n hex hbc dX3_loopSample_0 rfl (lv_at hl 2 rfl) ?_
  refine zt_i2l (a := x2) hex hbc (by omega) dX3_loopSample_1 ?_
  refine lv_aload_n hex hbc dX3_loopSample_2 rfl (lv_at hl 0 rfl) ?_
  refine va_get (v := .ref (a 3)) hex hbc hts hin3 hown hK hP 14 rfl rfl 0 (by decide) (hts _ (List.mem_of_getElem? (i := 1) rfl)) (fun _ h => h) rfl dX3_loopSample_3 ?_
  refine lv_iload_n hex hbc dX3_loopSample_6 rfl (lv_at hl 1 rfl) ?_
  refine g_calli [.int (iI x1)] ⟨hex, hbc, hml, hown, hts⟩ (mX2_lengthOf l G cx a σ x1 (by omega) hI) (cwV 1 hts gX3_loopSample_X2_lengthOf rfl rfl rfl (by decide +kernel) ⟨Nat.le_of_ble_eq_true rfl, Nat.le_of_ble_eq_true rfl⟩) hK hP hD hS (fun _ h => h) 3 2 rfl rfl rfl rfl hl.1 (Nat.le_of_ble_eq_true rfl) dX3_loopSample_7 ⟨Nat.zero_le _, Nat.zero_le _⟩ (fun r_7 u_7 H locs hw_7 hP hD hS hz_7 hk_7 => ?_)
  obtain ⟨rfl, rfl⟩ := hw_7
  refine zt_i2l (a := (ln (σ 0) x1)) hex hbc (by omega) dX3_loopSample_10 ?_
  refine zt_lmul hex hbc dX3_loopSample_11 ?_
  refine lv_lstore_n (lv' := [(3, .long (lI (x2 * (ln (σ 0) x1)))), (0, .ref (a 14)), (1, .int (iI x1)), (2, .int (iI x2))]) hex hbc dX3_loopSample_12 rfl hl (by decide) rfl (fun ls hl => ?_)
  refine lv_aload_n hex hbc dX3_loopSample_13 rfl (lv_at hl 1 rfl) ?_
  refine va_get (v := .ref (a 15)) hex hbc hts hin3 hown hK hP 14 rfl rfl 2 (by decide) (hts _ (List.mem_of_getElem? (i := 2) rfl)) (fun _ h => h) rfl dX3_loopSample_14 ?_
  refine lv_iload_n hex hbc dX3_loopSample_17 rfl (lv_at hl 2 rfl) ?_
  refine g_iald (f := (σ 19)) (v := (σ 19 x1)) (i := x1) hex hbc hK hP 15 0 rfl rfl (by decide) (by omega) rfl dX3_loopSample_18 ?_
  refine zt_nm (a := (σ 19 x1)) (b := (bud (σ 0) x1)) (hbud x1 h1.1 h1.2) ?_
  refine zt_if_le (a := (bud (σ 0) x1)) (tgt := 35) hex hbc (by omega) dX3_loopSample_19 (by decide) (fun c19 => ?_) (fun c19 => ?_)
  · skip
    refine lv_iconst (v := iI 0) hex hbc dX3_loopSample_35 rfl ?_
    exact g_iret hex hbc hrt hlocks hK hP hD hS ⟨rfl, congrArg iI (by first | exact if_pos c19 | exact if_neg (by omega))⟩ dX3_loopSample_36
  · skip
    refine lv_lload_n hex hbc dX3_loopSample_22 rfl (lv_at hl 0 rfl) ?_
    refine lv_aload_n hex hbc dX3_loopSample_23 rfl (lv_at hl 1 rfl) ?_
    refine va_get (v := .ref (a 15)) hex hbc hts hin3 hown hK hP 14 rfl rfl 2 (by decide) (hts _ (List.mem_of_getElem? (i := 2) rfl)) (fun _ h => h) rfl dX3_loopSample_24 ?_
    refine lv_iload_n hex hbc dX3_loopSample_27 rfl (lv_at hl 2 rfl) ?_
    refine g_iald (f := (σ 19)) (v := (σ 19 x1)) (i := x1) hex hbc hK hP 15 0 rfl rfl (by decide) (by omega) rfl dX3_loopSample_28 ?_
    refine zt_nm (a := (σ 19 x1)) (b := (bud (σ 0) x1)) (hbud x1 h1.1 h1.2) ?_
    refine zt_i2l (a := (bud (σ 0) x1)) hex hbc (by omega) dX3_loopSample_29 ?_
    refine zt_ldiv (a := (x2 * (ln (σ 0) x1))) (b := (bud (σ 0) x1)) hex hbc (by omega) dX3_loopSample_30 ?_
    refine zt_l2i hex hbc dX3_loopSample_31 ?_
    refine lv_goto (tgt := 36) hex hbc dX3_loopSample_32 (by decide) ?_
    exact g_iret hex hbc hrt hlocks hK hP hD hS ⟨rfl, congrArg iI (by first | exact if_pos c19 | exact if_neg (by omega))⟩ dX3_loopSample_36
theorem iX3_originOf_X2 : ∀ w ∈ wsX20, w ∈ wsX3_originOf := fun _ h => List.mem_cons_of_mem _ (List.mem_append_right _ h)
theorem iX3_originOf_X3 : ∀ w ∈ wsX30, w ∈ wsX3_originOf := fun _ h => List.mem_cons_of_mem _ (List.mem_append_left _ (List.mem_append_right _ h))
set_option maxHeartbeats 4000000 in
set_option maxRecDepth 100000 in
theorem mX3_originOf (l : Launch) (G : va_G) (cx a : Nat → Nat) (σ : Nat → Int → Int)  (x1 : Int) (x2 : Int) (x3 : Int) (h1 : 0 ≤ x1 ∧ x1 < σ 0 74) (h2 : 0 ≤ x2 ∧ x2 < bud (σ 0) (σ 0 (91 + x1))) (h3 : 0 ≤ x3 ∧ x3 ≤ 2) (hlay : lay_ (σ 0)) (hbud : ∀ k, 0 ≤ k → k < σ 0 74 → σ 19 k = bud (σ 0) k) (hI : Inv (σ 0)) : Met l yX3_originOf wsX3_originOf ({ frames := 3, cells := 0, slots := 0, locals := 66 }) (va_Pc [.ref (a 14), .int (iI x1), .int (iI x2), .int (iI x3)] (gW G (tx cx) (XA a) (wx cx a) σ)) (va_Qi (fun r u => σ = u ∧ iI (if x3 = 0 then σ 0 (91 + x1) else if x3 = 1 then org (σ 0) (bud (σ 0)) (σ 0 (91 + x1)) x2 else if bud (σ 0) (σ 0 (91 + x1)) - fad (σ 0) (bud (σ 0)) x1 ≤ x2 then 1 else 0) = r) (gW G (tx cx) (XA a) (wx cx a)) (XA a)) 0 0 (XA a) := by
  refine Met.ofW (cc := cX3_originOf) (maxL := 5) (ret := some .int) (by decide) rfl ?_
  intro p e s m args below meth c s₁ B hml hv
  obtain ⟨rfl, hP, hK, hD⟩ := hv
  have hex := B.exec
  have hbc := B.bytes
  have hrt := B.returns
  have hts := atoms_spec (ws := wsX3_originOf) B.pre
  have hown : s.vm.findClass RX3 = some m.cls := findClass_of_methodNamed B.named
  have hlocks := B.notSynchronized
  have hS : va_S (XA a) s.heap s.heap [] := va_S.rf
  have hin2 := iX3_originOf_X2
  have hin3 := iX3_originOf_X3
  have hl := lv_entry ([.ref (a 14), .int (iI x1), .int (iI x2), .int (iI x3)]) (n := 5) (Nat.le_of_ble_eq_true rfl)
  rw [lg_entry_eq]
  generalize (lg_sl ([.ref (a 14), .int (iI x1), .int (iI x2), .int (iI x3)]) ++ List.replicate (5 - (lg_sl ([.ref (a 14), .int (iI x1), .int (iI x2), .int (iI x3)])).length) Slot.unset).toArray = ls at hl ⊢
  have hl : lv_has ls 5 [(0, .ref (a 14)), (1, .int (iI x1)), (2, .int (iI x2)), (3, .int (iI x3))] := hl
  obtain ⟨hB, hEn, hMk, hAs, hPm⟩ := id hI
  have hO := hPm.1
  have ho1 := hO x1 h1.1 h1.2
  have hb1 := bud_in hI hlay ho1.1 ho1.2
  have hfr := hI.fr_in ho1.1
  have hm1 := hMk (σ 0 (91 + x1)) ho1.1 ho1.2
  have hmf : fr (σ 0) (σ 0 (91 + x1)) = σ 0 (75 + σ 0 (91 + x1)) := fr_lt ho1.2
  have hfd : 0 ≤ fad (σ 0) (bud (σ 0)) x1 ∧ fad (σ 0) (bud (σ 0)) x1 ≤ 500 := by unfold fad; have hz : ∀ p, 0 ≤ p → p < σ 0 74 → 0 ≤ bud (σ 0) (σ 0 (91 + p)) := fun p p0 p1 => (bud_in hI hlay (hO p p0 p1).1 (hO p p0 p1).2).1; have h5 := hz x1 h1.1 h1.2; have h6 := hz (if x1 + 1 < σ 0 74 then x1 + 1 else 0) (by split <;> omega) (by split <;> omega); omega
  refine lv_aload_n hex hbc dX3_originOf_0 rfl (lv_at hl 0 rfl) ?_
  refine va_get (v := .ref (a 3)) hex hbc hts hin3 hown hK hP 14 rfl rfl 0 (by decide) (hts _ (List.mem_of_getElem? (i := 1) rfl)) (fun _ h => h) rfl dX3_originOf_1 ?_
  refine va_get (v := .ref (a 7)) hex hbc hts hin2 hown hK hP 3 rfl rfl 5 (by decide) (hts _ (List.mem_of_getElem? (i := 2) rfl)) (fun _ h => h) rfl dX3_originOf_4 ?_
  refine lv_iload_n hex hbc dX3_originOf_7 rfl (lv_at hl 1 rfl) ?_
  refine g_iald (f := (fun k => (σ 0 (91 + k)))) (v := (σ 0 (91 + x1))) (i := x1) hex hbc hK hP 7 0 rfl rfl (by decide) (by omega) rfl dX3_originOf_8 ?_
  refine lv_istore (lv' := [(4, .int (iI (σ 0 (91 + x1)))), (0, .ref (a 14)), (1, .int (iI x1)), (2, .int (iI x2)), (3, .int (iI x3))]) hex hbc dX3_originOf_9 hl (by decide) rfl (fun ls hl => ?_)
  refine lv_iload_n hex hbc dX3_originOf_11 rfl (lv_at hl 4 rfl) ?_
  refine zt_if_ne (a := x3) (tgt := 18) hex hbc (by omega) dX3_originOf_12 (by decide) (fun c12 => ?_) (fun c12 => ?_)
  · skip
    refine lv_iload_n hex hbc dX3_originOf_18 rfl (lv_at hl 4 rfl) ?_
    refine lv_iconst (v := iI 1) hex hbc dX3_originOf_19 rfl ?_
    refine zt_icmp_ne (a := x3) (b := 1) (tgt := 52) hex hbc (by omega) dX3_originOf_20 (by decide) (fun c20 => ?_) (fun c20 => ?_)
    · skip
      refine lv_iload_n hex hbc dX3_originOf_52 rfl (lv_at hl 3 rfl) ?_
      refine lv_aload_n hex hbc dX3_originOf_53 rfl (lv_at hl 1 rfl) ?_
      refine va_get (v := .ref (a 15)) hex hbc hts hin3 hown hK hP 14 rfl rfl 2 (by decide) (hts _ (List.mem_of_getElem? (i := 5) rfl)) (fun _ h => h) rfl dX3_originOf_54 ?_
      refine lv_iload hex hbc dX3_originOf_57 (lv_at hl 0 rfl) ?_
      refine g_iald (f := (σ 19)) (v := (σ 19 (σ 0 (91 + x1)))) (i := (σ 0 (91 + x1))) hex hbc hK hP 15 0 rfl rfl (by decide) (by omega) rfl dX3_originOf_59 ?_
      refine zt_nm (a := (σ 19 (σ 0 (91 + x1)))) (b := (bud (σ 0) (σ 0 (91 + x1)))) (hbud _ ho1.1 ho1.2) ?_
      refine lv_aload_n hex hbc dX3_originOf_60 rfl (lv_at hl 1 rfl) ?_
      refine lv_iload_n hex hbc dX3_originOf_61 rfl (lv_at hl 2 rfl) ?_
      refine g_calli [.int (iI x1)] ⟨hex, hbc, hml, hown, hts⟩ (mX3_fadeAt l G cx a σ x1 (by omega) hlay hbud hI) (cwV 1 hts gX3_originOf_X3_fadeAt rfl rfl rfl (by decide +kernel) ⟨Nat.le_of_ble_eq_true rfl, Nat.le_of_ble_eq_true rfl⟩) hK hP hD hS (fun _ h => h) 14 3 rfl rfl rfl rfl hl.1 (Nat.le_of_ble_eq_true rfl) dX3_originOf_62 ⟨Nat.zero_le _, Nat.zero_le _⟩ (fun r_62 u_62 H locs hw_62 hP hD hS hz_62 hk_62 => ?_)
      obtain ⟨rfl, rfl⟩ := hw_62
      refine zt_isub hex hbc dX3_originOf_65 ?_
      refine zt_icmp_lt (a := x2) (b := ((bud (σ 0) (σ 0 (91 + x1))) - (fad (σ 0) (bud (σ 0)) x1))) (tgt := 73) hex hbc (by omega) dX3_originOf_66 (by decide) (fun c66 => ?_) (fun c66 => ?_)
      · skip
        refine lv_iconst (v := iI 0) hex hbc dX3_originOf_73 rfl ?_
        exact g_iret hex hbc hrt hlocks hK hP hD hS ⟨rfl, congrArg iI (by rw [if_neg c12, if_neg c20]; first | exact if_pos (by omega) | exact if_neg (by omega))⟩ dX3_originOf_74
      · skip
        refine lv_iconst (v := iI 1) hex hbc dX3_originOf_69 rfl ?_
        refine lv_goto (tgt := 74) hex hbc dX3_originOf_70 (by decide) ?_
        exact g_iret hex hbc hrt hlocks hK hP hD hS ⟨rfl, congrArg iI (by rw [if_neg c12, if_neg c20]; first | exact if_pos (by omega) | exact if_neg (by omega))⟩ dX3_originOf_74
    · skip
      refine lv_aload_n hex hbc dX3_originOf_23 rfl (lv_at hl 1 rfl) ?_
      refine va_get (v := .ref (a 3)) hex hbc hts hin3 hown hK hP 14 rfl rfl 0 (by decide) (hts _ (List.mem_of_getElem? (i := 1) rfl)) (fun _ h => h) rfl dX3_originOf_24 ?_
      refine va_get (v := .ref (a 6)) hex hbc hts hin2 hown hK hP 3 rfl rfl 4 (by decide) (hts _ (List.mem_of_getElem? (i := 3) rfl)) (fun _ h => h) rfl dX3_originOf_27 ?_
      refine lv_iload hex hbc dX3_originOf_30 (lv_at hl 0 rfl) ?_
      refine g_iald (f := (fun k => (σ 0 (75 + k)))) (v := (σ 0 (75 + (σ 0 (91 + x1))))) (i := (σ 0 (91 + x1))) hex hbc hK hP 6 0 rfl rfl (by decide) (by omega) rfl dX3_originOf_32 ?_
      refine zt_nm (a := (σ 0 (75 + (σ 0 (91 + x1))))) (b := (fr (σ 0) (σ 0 (91 + x1)))) hmf.symm ?_
      refine lv_aload_n hex hbc dX3_originOf_33 rfl (lv_at hl 1 rfl) ?_
      refine va_get (v := .ref (a 3)) hex hbc hts hin3 hown hK hP 14 rfl rfl 0 (by decide) (hts _ (List.mem_of_getElem? (i := 1) rfl)) (fun _ h => h) rfl dX3_originOf_34 ?_
      refine va_get (v := .ref (a 5)) hex hbc hts hin2 hown hK hP 3 rfl rfl 3 (by decide) (hts _ (List.mem_of_getElem? (i := 4) rfl)) (fun _ h => h) rfl dX3_originOf_37 ?_
      refine lv_iconst (v := iI 0) hex hbc dX3_originOf_40 rfl ?_
      refine g_iald (f := (fun k => (σ 0 (1 + k)))) (v := (σ 0 1)) (i := 0) hex hbc hK hP 5 0 rfl rfl (by decide) (by omega) rfl dX3_originOf_41 ?_
      refine zt_imul hex hbc dX3_originOf_42 ?_
      refine lv_aload_n hex hbc dX3_originOf_43 rfl (lv_at hl 1 rfl) ?_
      refine lv_iload hex hbc dX3_originOf_44 (lv_at hl 0 rfl) ?_
      refine lv_iload_n hex hbc dX3_originOf_46 rfl (lv_at hl 3 rfl) ?_
      refine g_calli [.int (iI (σ 0 (91 + x1))), .int (iI x2)] ⟨hex, hbc, hml, hown, hts⟩ (mX3_loopSample l G cx a σ (σ 0 (91 + x1)) x2 (by omega) (by omega) hlay hbud hI) (cwV 2 hts gX3_originOf_X3_loopSample rfl rfl rfl (by decide +kernel) ⟨Nat.le_of_ble_eq_true rfl, Nat.le_of_ble_eq_true rfl⟩) hK hP hD hS (fun _ h => h) 14 3 rfl rfl rfl rfl hl.1 (Nat.le_of_ble_eq_true rfl) dX3_originOf_47 ⟨Nat.zero_le _, Nat.zero_le _⟩ (fun r_47 u_47 H locs hw_47 hP hD hS hz_47 hk_47 => ?_)
      obtain ⟨rfl, rfl⟩ := hw_47
      refine zt_iadd hex hbc dX3_originOf_50 ?_
      exact g_iret hex hbc hrt hlocks hK hP hD hS ⟨rfl, congrArg iI (by rw [if_neg c12, if_pos c20]; rfl)⟩ dX3_originOf_51
  · skip
    refine lv_iload hex hbc dX3_originOf_15 (lv_at hl 0 rfl) ?_
    exact g_iret hex hbc hrt hlocks hK hP hD hS ⟨rfl, congrArg iI (if_pos c12)⟩ dX3_originOf_17
