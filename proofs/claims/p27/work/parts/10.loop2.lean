/-! the program: changes of a loop, and questions with a walk along it (rows laid by wip/gen) -/
theorem iX2_resetSequence_X2 : ∀ w ∈ wsX20, w ∈ wsX2_resetSequence := fun _ h => List.mem_cons_of_mem _ (List.mem_append_right _ h)
set_option maxHeartbeats 4000000 in
set_option maxRecDepth 100000 in
theorem mX2_resetSequence (l : Launch) (G : va_G) (cx a : Nat → Nat) (σ : Nat → Int → Int)    : Met l yX2_resetSequence wsX2_resetSequence ({ frames := 0, cells := 0, slots := 0, locals := 0 }) (va_Pc [.ref (a 3)] (gW G (tx cx) (XA a) (wx cx a) σ)) (va_Qv (fun u => sc σ 0 (spo (σ 0)) = u) (gW G (tx cx) (XA a) (wx cx a)) (XA a)) 0 0 (XA a) := by
  refine Met.ofW (cc := cX2_resetSequence) (maxL := 2) (ret := none) (by decide) rfl ?_
  intro p e s m args below meth c s₁ B hml hv
  obtain ⟨rfl, hP, hK, hD⟩ := hv
  have hex := B.exec
  have hbc := B.bytes
  have hrt := B.returns
  have hts := atoms_spec (ws := wsX2_resetSequence) B.pre
  have hown : s.vm.findClass RX2 = some m.cls := findClass_of_methodNamed B.named
  have hlocks := B.notSynchronized
  have hS : va_S (XA a) s.heap s.heap [] := va_S.rf
  have hin2 := iX2_resetSequence_X2
  have hl := lv_entry ([.ref (a 3)]) (n := 2) (Nat.le_of_ble_eq_true rfl)
  rw [lg_entry_eq]
  generalize (lg_sl ([.ref (a 3)]) ++ List.replicate (2 - (lg_sl ([.ref (a 3)])).length) Slot.unset).toArray = ls at hl ⊢
  have hl : lv_has ls 2 [(0, .ref (a 3))] := hl
  refine lv_iconst (v := iI 0) hex hbc dX2_resetSequence_0 rfl ?_
  refine lv_istore_n (lv' := [(1, .int (iI 0)), (0, .ref (a 3))]) hex hbc dX2_resetSequence_1 rfl hl (by decide) rfl (fun ls hl => ?_)
  have loop_2 : ∀ (N : Nat) (i1 : Int) (w1 : Int → Int), (0 ≤ i1 ∧ i1 ≤ 16 ∧ ∀ k, w1 k = if 91 ≤ k ∧ k < 91 + i1 then k - 91 else σ 0 k) → (16 - i1) < (N : Int) → ∀ (H : Heap) (locs : List Loc) (ls : Array Slot), va_P G vwCl (wx cx a (sc σ 0 w1)) H → va_D (XA a) (wx cx a (sc σ 0 w1)) → va_S (XA a) s.heap H locs → lv_has ls 2 [(1, .int (iI i1)), (0, .ref (a 3))] → W p l e (headSpec wsX2_resetSequence ({ frames := 0, cells := 0, slots := 0, locals := 0 })).room s m ([.ref (a 3)] : List Value).toArray below meth c H locs 0 0 (MQ below (va_Qv (fun u => sc σ 0 (spo (σ 0)) = u) (gW G (tx cx) (XA a) (wx cx a)) (XA a)) ([.ref (a 3)] : List Value).toArray s 0 0 (XA a)) (F0 m 2 ls []) := by
    intro N
    induction N with
    | zero => intro i1 w1 hinv hlt; exfalso; omega
    | succ N ih_2 =>
      intro i1 w1 ⟨hi0, hi1, hw⟩ hlt_2 H locs ls hP hD hS hl
      refine lv_iload_n hex hbc dX2_resetSequence_2 rfl (lv_at hl 0 rfl) ?_
      refine lv_bipush (v := iI 16) hex hbc dX2_resetSequence_3 (by decide) ?_
      refine zt_icmp_ge (a := i1) (b := 16) (tgt := 21) hex hbc (by omega) dX2_resetSequence_5 (by decide) (fun c5 => ?_) (fun c5 => ?_)
      · skip
        exact g_vret hex hbc hrt hlocks hK hP hD hS (congrArg (sc σ 0) (funext fun k => by rw [hw k]; unfold spo; (repeat' split) <;> first | omega | exact congrArg _ (by omega))) dX2_resetSequence_21
      · skip
        refine lv_aload_n hex hbc dX2_resetSequence_8 rfl (lv_at hl 1 rfl) ?_
        refine va_get (v := .ref (a 7)) hex hbc hts hin2 hown hK hP 3 rfl rfl 5 (by decide) (hts _ (List.mem_of_getElem? (i := 1) rfl)) (fun _ h => h) rfl dX2_resetSequence_9 ?_
        refine lv_iload_n hex hbc dX2_resetSequence_12 rfl (lv_at hl 0 rfl) ?_
        refine lv_iload_n hex hbc dX2_resetSequence_13 rfl (lv_at hl 0 rfl) ?_
        have hi_14 : (0 : Int) ≤ i1 ∧ i1 < (16 : Int) := (by omega)
        refine g_iast (σ := (sc σ 0 w1)) (f := (fun k => (w1 (91 + k)))) (i := i1) (v := i1) (τ := st (sc σ 0 w1) 0 (91 + i1) i1) hex hbc hK hP hD hS 7 0 rfl rfl (by decide) hi_14 dX2_resetSequence_14 (wx_up_7 hi_14) (fun H locs hP hD hS => ?_)
        obtain ⟨f0_14, ef0_14⟩ : ∃ z : Int → Int, z = ups w1 (91 + i1) i1 := ⟨_, rfl⟩
        have hP : va_P G vwCl (wx cx a (sc σ 0 f0_14)) H := by rw [ef0_14]; exact hP
        have hD : va_D (XA a) (wx cx a (sc σ 0 f0_14)) := by rw [ef0_14]; exact hD
        refine lv_iinc (v := iI (i1 + 1)) (lv' := [(1, .int (iI (i1 + 1))), (0, .ref (a 3))]) hex hbc dX2_resetSequence_15 hl (k := 0) rfl (iI_add _ _) (by decide) rfl (fun ls hl => ?_)
        refine lv_goto (tgt := 2) hex hbc dX2_resetSequence_18 (by decide) ?_
        exact ih_2 (i1 + 1) f0_14 ⟨by omega, by omega, fun k => by rw [ef0_14]; unfold ups; rw [hw k]; (repeat' split) <;> first | omega | exact congrArg _ (by omega)⟩ (by omega) _ _ _ hP hD hS (lv_sub hl [0, 1] rfl)
  exact loop_2 _ 0 (σ 0) ⟨by omega, by omega, fun k => by rw [if_neg (by omega)]⟩ (mz_lt _) _ _ _ hP hD hS (lv_sub hl [0, 1] rfl)
theorem iX2_clear_X2 : ∀ w ∈ wsX20, w ∈ wsX2_clear := fun _ h => List.mem_cons_of_mem _ (List.mem_append_right _ h)
set_option maxHeartbeats 4000000 in
set_option maxRecDepth 100000 in
theorem mX2_clear (l : Launch) (G : va_G) (cx a : Nat → Nat) (σ : Nat → Int → Int)  (x : Int) (hI : Inv (σ 0)) : Met l yX2_clear wsX2_clear ({ frames := 1, cells := 0, slots := 0, locals := 21 }) (va_Pc [.ref (a 3), .int (iI x)] (gW G (tx cx) (XA a) (wx cx a) σ)) (va_Qv (fun u => sc σ 0 (spc (σ 0) x) = u) (gW G (tx cx) (XA a) (wx cx a)) (XA a)) 0 0 (XA a) := by
  refine Met.ofW (cc := cX2_clear) (maxL := 3) (ret := none) (by decide) rfl ?_
  intro p e s m args below meth c s₁ B hml hv
  obtain ⟨rfl, hP, hK, hD⟩ := hv
  have hex := B.exec
  have hbc := B.bytes
  have hrt := B.returns
  have hts := atoms_spec (ws := wsX2_clear) B.pre
  have hown : s.vm.findClass RX2 = some m.cls := findClass_of_methodNamed B.named
  have hlocks := B.notSynchronized
  have hS : va_S (XA a) s.heap s.heap [] := va_S.rf
  have hin2 := iX2_clear_X2
  have hl := lv_entry ([.ref (a 3), .int (iI x)]) (n := 3) (Nat.le_of_ble_eq_true rfl)
  rw [lg_entry_eq]
  generalize (lg_sl ([.ref (a 3), .int (iI x)]) ++ List.replicate (3 - (lg_sl ([.ref (a 3), .int (iI x)])).length) Slot.unset).toArray = ls at hl ⊢
  have hl : lv_has ls 3 [(0, .ref (a 3)), (1, .int (iI x))] := hl
  obtain ⟨hB, hEn, hMk, hAs, hPm⟩ := id hI
  have h75 : ∀ k, k = 75 → σ 0 k = 0 := fun k h => by rw [h]; exact hB.2.2.2.2.2.2.2.2.2.2.2
  refine lv_aload_n hex hbc dX2_clear_0 rfl (lv_at hl 0 rfl) ?_
  refine lv_iload_n hex hbc dX2_clear_1 rfl (lv_at hl 1 rfl) ?_
  refine va_put hex hbc hts hin2 tyX2 tyX2_ok nmX2 hown hK hP hD hS 3 rfl rfl 0 (by decide) (hts _ (List.mem_of_getElem? (i := 1) rfl)) (fun _ h => h) rfl (tyX2_ok 0 (by decide)) rfl rfl (Nat.le_of_ble_eq_true rfl) dX2_clear_2 (fun H locs hP hD hS => ?_)
  have hP := leW_P (wx_pf_3_0 (G := G) (cx := cx) (a := a) (σ := σ)) hP
  have hD := leW_D (wx_pf_3_0 (G := G) (cx := cx) (a := a) (σ := σ)) hD
  obtain ⟨f0_2, ef0_2⟩ : ∃ z : Int → Int, z = ups (σ 0) 0 x := ⟨_, rfl⟩
  have hP : va_P G vwCl (wx cx a (sc σ 0 f0_2)) H := by rw [ef0_2]; exact hP
  have hD : va_D (XA a) (wx cx a (sc σ 0 f0_2)) := by rw [ef0_2]; exact hD
  refine lv_iconst (v := iI 0) hex hbc dX2_clear_5 rfl ?_
  refine lv_istore_n (lv' := [(2, .int (iI 0)), (0, .ref (a 3)), (1, .int (iI x))]) hex hbc dX2_clear_6 rfl hl (by decide) rfl (fun ls hl => ?_)
  have loop_7 : ∀ (N : Nat) (i1 : Int) (w1 : Int → Int), (0 ≤ i1 ∧ i1 ≤ 64 ∧ ∀ k, w1 k = if k = 0 then x else if 10 ≤ k ∧ k < 10 + i1 then 0 else σ 0 k) → (64 - i1) < (N : Int) → ∀ (H : Heap) (locs : List Loc) (ls : Array Slot), va_P G vwCl (wx cx a (sc σ 0 w1)) H → va_D (XA a) (wx cx a (sc σ 0 w1)) → va_S (XA a) s.heap H locs → lv_has ls 3 [(2, .int (iI i1)), (0, .ref (a 3))] → W p l e (headSpec wsX2_clear ({ frames := 1, cells := 0, slots := 0, locals := 21 })).room s m ([.ref (a 3), .int (iI x)] : List Value).toArray below meth c H locs 0 0 (MQ below (va_Qv (fun u => sc σ 0 (spc (σ 0) x) = u) (gW G (tx cx) (XA a) (wx cx a)) (XA a)) ([.ref (a 3), .int (iI x)] : List Value).toArray s 0 0 (XA a)) (F0 m 7 ls []) := by
    intro N
    induction N with
    | zero => intro i1 w1 hinv hlt; exfalso; omega
    | succ N ih_7 =>
      intro i1 w1 ⟨hi0, hi1, hw⟩ hlt_7 H locs ls hP hD hS hl
      refine lv_iload_n hex hbc dX2_clear_7 rfl (lv_at hl 0 rfl) ?_
      refine lv_bipush (v := iI 64) hex hbc dX2_clear_8 (by decide) ?_
      refine zt_icmp_ge (a := i1) (b := 64) (tgt := 26) hex hbc (by omega) dX2_clear_10 (by decide) (fun c10 => ?_) (fun c10 => ?_)
      · skip
        refine lv_aload_n hex hbc dX2_clear_26 rfl (lv_at hl 1 rfl) ?_
        refine lv_iconst (v := iI 1) hex hbc dX2_clear_27 rfl ?_
        refine va_put hex hbc hts hin2 tyX2 tyX2_ok nmX2 hown hK hP hD hS 3 rfl rfl 1 (by decide) (hts _ (List.mem_of_getElem? (i := 3) rfl)) (fun _ h => h) rfl (tyX2_ok 1 (by decide)) rfl rfl (Nat.le_of_ble_eq_true rfl) dX2_clear_28 (fun H locs hP hD hS => ?_)
        have hP := leW_P (wx_pf_3_1 (G := G) (cx := cx) (a := a) (σ := (sc σ 0 w1))) hP
        have hD := leW_D (wx_pf_3_1 (G := G) (cx := cx) (a := a) (σ := (sc σ 0 w1))) hD
        obtain ⟨f0_28, ef0_28⟩ : ∃ z : Int → Int, z = ups w1 74 1 := ⟨_, rfl⟩
        have hP : va_P G vwCl (wx cx a (sc σ 0 f0_28)) H := by rw [ef0_28]; exact hP
        have hD : va_D (XA a) (wx cx a (sc σ 0 f0_28)) := by rw [ef0_28]; exact hD
        refine lv_aload_n hex hbc dX2_clear_31 rfl (lv_at hl 1 rfl) ?_
        refine g_callv [] ⟨hex, hbc, hml, hown, hts⟩ (mX2_resetSequence l G cx a (sc σ 0 f0_28)  ) (cwV 0 hts gX2_clear_X2_resetSequence rfl rfl rfl (by decide +kernel) ⟨Nat.le_of_ble_eq_true rfl, Nat.le_of_ble_eq_true rfl⟩) hK hP hD hS (fun _ h => h) 3 2 rfl rfl rfl rfl hl.1 (Nat.le_of_ble_eq_true rfl) dX2_clear_32 ⟨Nat.zero_le _, Nat.zero_le _⟩ (fun u_32 H locs hw_32 hP hD hS hz_32 hk_32 => ?_)
        obtain rfl := hw_32
        have hP : va_P G vwCl (wx cx a (sc σ 0 (spo (f0_28)))) H := hP
        have hD : va_D (XA a) (wx cx a (sc σ 0 (spo (f0_28)))) := hD
        exact g_vret hex hbc hrt hlocks hK hP hD hS (congrArg (sc σ 0) (funext fun k => by unfold spo spc; rw [ef0_28]; unfold ups; rw [hw k]; (repeat' split) <;> first | omega | exact congrArg _ (by omega) | (have := h75 k (by omega); omega))) dX2_clear_35
      · skip
        refine lv_aload_n hex hbc dX2_clear_13 rfl (lv_at hl 1 rfl) ?_
        refine va_get (v := .ref (a 4)) hex hbc hts hin2 hown hK hP 3 rfl rfl 2 (by decide) (hts _ (List.mem_of_getElem? (i := 2) rfl)) (fun _ h => h) rfl dX2_clear_14 ?_
        refine lv_iload_n hex hbc dX2_clear_17 rfl (lv_at hl 0 rfl) ?_
        refine lv_iconst (v := iI 0) hex hbc dX2_clear_18 rfl ?_
        have hi_19 : (0 : Int) ≤ i1 ∧ i1 < (64 : Int) := (by omega)
        refine g_iast (σ := (sc σ 0 w1)) (f := (fun k => (w1 (10 + k)))) (i := i1) (v := 0) (τ := st (sc σ 0 w1) 0 (10 + i1) 0) hex hbc hK hP hD hS 4 0 rfl rfl (by decide) hi_19 dX2_clear_19 (wx_up_4 hi_19) (fun H locs hP hD hS => ?_)
        obtain ⟨f0_19, ef0_19⟩ : ∃ z : Int → Int, z = ups w1 (10 + i1) 0 := ⟨_, rfl⟩
        have hP : va_P G vwCl (wx cx a (sc σ 0 f0_19)) H := by rw [ef0_19]; exact hP
        have hD : va_D (XA a) (wx cx a (sc σ 0 f0_19)) := by rw [ef0_19]; exact hD
        refine lv_iinc (v := iI (i1 + 1)) (lv' := [(2, .int (iI (i1 + 1))), (0, .ref (a 3))]) hex hbc dX2_clear_20 hl (k := 0) rfl (iI_add _ _) (by decide) rfl (fun ls hl => ?_)
        refine lv_goto (tgt := 7) hex hbc dX2_clear_23 (by decide) ?_
        exact ih_7 (i1 + 1) f0_19 ⟨by omega, by omega, fun k => by rw [ef0_19]; unfold ups; rw [hw k]; (repeat' split) <;> first | omega | exact congrArg _ (by omega)⟩ (by omega) _ _ _ hP hD hS (lv_sub hl [0, 1] rfl)
  exact loop_7 _ 0 f0_2 ⟨by omega, by omega, fun k => by rw [ef0_2]; unfold ups; (repeat' split) <;> first | omega | exact congrArg _ (by omega)⟩ (mz_lt _) _ _ _ hP hD hS (lv_sub hl [0, 1] rfl)
theorem iX2_placeOf_X2 : ∀ w ∈ wsX20, w ∈ wsX2_placeOf := fun _ h => List.mem_cons_of_mem _ (List.mem_append_right _ h)
set_option maxHeartbeats 4000000 in
set_option maxRecDepth 100000 in
theorem mX2_placeOf (l : Launch) (G : va_G) (cx a : Nat → Nat) (σ : Nat → Int → Int)  (x : Int) (hx : -2147483648 ≤ x ∧ x < 2147483648) (hI : Inv (σ 0)) (hq : ∃ p, 0 ≤ p ∧ p < σ 0 74 ∧ σ 0 (91 + p) = x) : Met l yX2_placeOf wsX2_placeOf ({ frames := 0, cells := 0, slots := 0, locals := 0 }) (va_Pc [.ref (a 3), .int (iI x)] (gW G (tx cx) (XA a) (wx cx a) σ)) (va_Qi (fun r u => σ = u ∧ ∃ p, iI p = r ∧ Plc (σ 0) x p) (gW G (tx cx) (XA a) (wx cx a)) (XA a)) 0 0 (XA a) := by
  refine Met.ofW (cc := cX2_placeOf) (maxL := 3) (ret := some .int) (by decide) rfl ?_
  intro p e s m args below meth c s₁ B hml hv
  obtain ⟨rfl, hP, hK, hD⟩ := hv
  have hex := B.exec
  have hbc := B.bytes
  have hrt := B.returns
  have hts := atoms_spec (ws := wsX2_placeOf) B.pre
  have hown : s.vm.findClass RX2 = some m.cls := findClass_of_methodNamed B.named
  have hlocks := B.notSynchronized
  have hS : va_S (XA a) s.heap s.heap [] := va_S.rf
  have hin2 := iX2_placeOf_X2
  have hl := lv_entry ([.ref (a 3), .int (iI x)]) (n := 3) (Nat.le_of_ble_eq_true rfl)
  rw [lg_entry_eq]
  generalize (lg_sl ([.ref (a 3), .int (iI x)]) ++ List.replicate (3 - (lg_sl ([.ref (a 3), .int (iI x)])).length) Slot.unset).toArray = ls at hl ⊢
  have hl : lv_has ls 3 [(0, .ref (a 3)), (1, .int (iI x))] := hl
  obtain ⟨hB, hEn, hMk, hAs, hPm⟩ := id hI
  obtain ⟨q0, hq0, hq1, hq2⟩ := hq
  have hO := hPm.1
  refine lv_iconst (v := iI 0) hex hbc dX2_placeOf_0 rfl ?_
  refine lv_istore_n (lv' := [(2, .int (iI 0)), (0, .ref (a 3)), (1, .int (iI x))]) hex hbc dX2_placeOf_1 rfl hl (by decide) rfl (fun ls hl => ?_)
  have loop_2 : ∀ (N : Nat) (i1 : Int), (0 ≤ i1 ∧ i1 ≤ σ 0 74 - 1 ∧ ∀ k, 0 ≤ k → k < i1 → σ 0 (91 + k) ≠ x) → (16 - i1) < (N : Int) → ∀ (H : Heap) (locs : List Loc) (ls : Array Slot), va_P G vwCl (wx cx a σ) H → va_D (XA a) (wx cx a σ) → va_S (XA a) s.heap H locs → lv_has ls 3 [(2, .int (iI i1)), (0, .ref (a 3)), (1, .int (iI x))] → W p l e (headSpec wsX2_placeOf ({ frames := 0, cells := 0, slots := 0, locals := 0 })).room s m ([.ref (a 3), .int (iI x)] : List Value).toArray below meth c H locs 0 0 (MQ below (va_Qi (fun r u => σ = u ∧ ∃ p, iI p = r ∧ Plc (σ 0) x p) (gW G (tx cx) (XA a) (wx cx a)) (XA a)) ([.ref (a 3), .int (iI x)] : List Value).toArray s 0 0 (XA a)) (F0 m 2 ls []) := by
    intro N
    induction N with
    | zero => intro i1 hinv hlt; exfalso; omega
    | succ N ih_2 =>
      intro i1 ⟨hi0, hi1, hw⟩ hlt_2 H locs ls hP hD hS hl
      have ho := hO i1 hi0 (by omega)
      refine lv_iload_n hex hbc dX2_placeOf_2 rfl (lv_at hl 0 rfl) ?_
      refine lv_aload_n hex hbc dX2_placeOf_3 rfl (lv_at hl 1 rfl) ?_
      refine va_get (v := .int (iI (σ 0 74))) hex hbc hts hin2 hown hK hP 3 rfl rfl 1 (by decide) (hts _ (List.mem_of_getElem? (i := 1) rfl)) (fun _ h => h) rfl dX2_placeOf_4 ?_
      refine lv_iconst (v := iI 1) hex hbc dX2_placeOf_7 rfl ?_
      refine zt_isub hex hbc dX2_placeOf_8 ?_
      refine zt_icmp_ge (a := i1) (b := ((σ 0 74) - 1)) (tgt := 28) hex hbc (by omega) dX2_placeOf_9 (by decide) (fun c9 => ?_) (fun c9 => ?_)
      · skip
        refine lv_iload_n hex hbc dX2_placeOf_28 rfl (lv_at hl 0 rfl) ?_
        exact g_iret hex hbc hrt hlocks hK hP hD hS ⟨rfl, i1, rfl, hi0, by omega, hw, by first | exact c19 | exact plc_last hw hq0 hq1 hq2 c9⟩ dX2_placeOf_29
      · skip
        refine lv_aload_n hex hbc dX2_placeOf_12 rfl (lv_at hl 1 rfl) ?_
        refine va_get (v := .ref (a 7)) hex hbc hts hin2 hown hK hP 3 rfl rfl 5 (by decide) (hts _ (List.mem_of_getElem? (i := 2) rfl)) (fun _ h => h) rfl dX2_placeOf_13 ?_
        refine lv_iload_n hex hbc dX2_placeOf_16 rfl (lv_at hl 0 rfl) ?_
        refine g_iald (f := (fun k => (σ 0 (91 + k)))) (v := (σ 0 (91 + i1))) (i := i1) hex hbc hK hP 7 0 rfl rfl (by decide) (by omega) rfl dX2_placeOf_17 ?_
        refine lv_iload_n hex hbc dX2_placeOf_18 rfl (lv_at hl 2 rfl) ?_
        refine zt_icmp_eq (a := (σ 0 (91 + i1))) (b := x) (tgt := 28) hex hbc (by omega) dX2_placeOf_19 (by decide) (fun c19 => ?_) (fun c19 => ?_)
        · skip
          refine lv_iload_n hex hbc dX2_placeOf_28 rfl (lv_at hl 0 rfl) ?_
          exact g_iret hex hbc hrt hlocks hK hP hD hS ⟨rfl, i1, rfl, hi0, by omega, hw, by first | exact c19 | exact plc_last hw hq0 hq1 hq2 c9⟩ dX2_placeOf_29
        · skip
          refine lv_iinc (v := iI (i1 + 1)) (lv' := [(2, .int (iI (i1 + 1))), (0, .ref (a 3)), (1, .int (iI x))]) hex hbc dX2_placeOf_22 hl (k := 0) rfl (iI_add _ _) (by decide) rfl (fun ls hl => ?_)
          refine lv_goto (tgt := 2) hex hbc dX2_placeOf_25 (by decide) ?_
          exact ih_2 (i1 + 1) ⟨by omega, by omega, fun k h1 h2 => if hk : k = i1 then by subst hk; exact c19 else hw k h1 (by omega)⟩ (by omega) _ _ _ hP hD hS (lv_sub hl [0, 1, 2] rfl)
  exact loop_2 _ 0 ⟨by omega, by omega, fun k h1 h2 => by omega⟩ (mz_lt _) _ _ _ hP hD hS (lv_sub hl [0, 1, 2] rfl)
theorem iX2_exchange_X2 : ∀ w ∈ wsX20, w ∈ wsX2_exchange := fun _ h => List.mem_cons_of_mem _ (List.mem_append_right _ h)
set_option maxHeartbeats 4000000 in
set_option maxRecDepth 100000 in
theorem mX2_exchange (l : Launch) (G : va_G) (cx a : Nat → Nat) (σ : Nat → Int → Int)  (x1 : Int) (x2 : Int) (h1 : 0 ≤ x1 ∧ x1 < 16) (h2 : 0 ≤ x2 ∧ x2 < 16) : Met l yX2_exchange wsX2_exchange ({ frames := 0, cells := 0, slots := 0, locals := 0 }) (va_Pc [.ref (a 3), .int (iI x1), .int (iI x2)] (gW G (tx cx) (XA a) (wx cx a) σ)) (va_Qv (fun u => sc σ 0 (spx (σ 0) x1 x2) = u) (gW G (tx cx) (XA a) (wx cx a)) (XA a)) 0 0 (XA a) := by
  refine Met.ofW (cc := cX2_exchange) (maxL := 4) (ret := none) (by decide) rfl ?_
  intro p e s m args below meth c s₁ B hml hv
  obtain ⟨rfl, hP, hK, hD⟩ := hv
  have hex := B.exec
  have hbc := B.bytes
  have hrt := B.returns
  have hts := atoms_spec (ws := wsX2_exchange) B.pre
  have hown : s.vm.findClass RX2 = some m.cls := findClass_of_methodNamed B.named
  have hlocks := B.notSynchronized
  have hS : va_S (XA a) s.heap s.heap [] := va_S.rf
  have hin2 := iX2_exchange_X2
  have hl := lv_entry ([.ref (a 3), .int (iI x1), .int (iI x2)]) (n := 4) (Nat.le_of_ble_eq_true rfl)
  rw [lg_entry_eq]
  generalize (lg_sl ([.ref (a 3), .int (iI x1), .int (iI x2)]) ++ List.replicate (4 - (lg_sl ([.ref (a 3), .int (iI x1), .int (iI x2)])).length) Slot.unset).toArray = ls at hl ⊢
  have hl : lv_has ls 4 [(0, .ref (a 3)), (1, .int (iI x1)), (2, .int (iI x2))] := hl
  refine lv_aload_n hex hbc dX2_exchange_0 rfl (lv_at hl 0 rfl) ?_
  refine va_get (v := .ref (a 7)) hex hbc hts hin2 hown hK hP 3 rfl rfl 5 (by decide) (hts _ (List.mem_of_getElem? (i := 1) rfl)) (fun _ h => h) rfl dX2_exchange_1 ?_
  refine lv_iload_n hex hbc dX2_exchange_4 rfl (lv_at hl 1 rfl) ?_
  refine g_iald (f := (fun k => (σ 0 (91 + k)))) (v := (σ 0 (91 + x1))) (i := x1) hex hbc hK hP 7 0 rfl rfl (by decide) (by omega) rfl dX2_exchange_5 ?_
  refine lv_istore_n (lv' := [(3, .int (iI (σ 0 (91 + x1)))), (0, .ref (a 3)), (1, .int (iI x1)), (2, .int (iI x2))]) hex hbc dX2_exchange_6 rfl hl (by decide) rfl (fun ls hl => ?_)
  refine lv_aload_n hex hbc dX2_exchange_7 rfl (lv_at hl 1 rfl) ?_
  refine va_get (v := .ref (a 7)) hex hbc hts hin2 hown hK hP 3 rfl rfl 5 (by decide) (hts _ (List.mem_of_getElem? (i := 1) rfl)) (fun _ h => h) rfl dX2_exchange_8 ?_
  refine lv_iload_n hex hbc dX2_exchange_11 rfl (lv_at hl 2 rfl) ?_
  refine lv_aload_n hex hbc dX2_exchange_12 rfl (lv_at hl 1 rfl) ?_
  refine va_get (v := .ref (a 7)) hex hbc hts hin2 hown hK hP 3 rfl rfl 5 (by decide) (hts _ (List.mem_of_getElem? (i := 1) rfl)) (fun _ h => h) rfl dX2_exchange_13 ?_
  refine lv_iload_n hex hbc dX2_exchange_16 rfl (lv_at hl 3 rfl) ?_
  refine g_iald (f := (fun k => (σ 0 (91 + k)))) (v := (σ 0 (91 + x2))) (i := x2) hex hbc hK hP 7 0 rfl rfl (by decide) (by omega) rfl dX2_exchange_17 ?_
  have hi_18 : (0 : Int) ≤ x1 ∧ x1 < (16 : Int) := (by omega)
  refine g_iast (σ := σ) (f := (fun k => (σ 0 (91 + k)))) (i := x1) (v := (σ 0 (91 + x2))) (τ := st σ 0 (91 + x1) (σ 0 (91 + x2))) hex hbc hK hP hD hS 7 0 rfl rfl (by decide) hi_18 dX2_exchange_18 (wx_up_7 hi_18) (fun H locs hP hD hS => ?_)
  obtain ⟨f0_18, ef0_18⟩ : ∃ z : Int → Int, z = ups (σ 0) (91 + x1) (σ 0 (91 + x2)) := ⟨_, rfl⟩
  have hP : va_P G vwCl (wx cx a (sc σ 0 f0_18)) H := by rw [ef0_18]; exact hP
  have hD : va_D (XA a) (wx cx a (sc σ 0 f0_18)) := by rw [ef0_18]; exact hD
  refine lv_aload_n hex hbc dX2_exchange_19 rfl (lv_at hl 1 rfl) ?_
  refine va_get (v := .ref (a 7)) hex hbc hts hin2 hown hK hP 3 rfl rfl 5 (by decide) (hts _ (List.mem_of_getElem? (i := 1) rfl)) (fun _ h => h) rfl dX2_exchange_20 ?_
  refine lv_iload_n hex hbc dX2_exchange_23 rfl (lv_at hl 3 rfl) ?_
  refine lv_iload_n hex hbc dX2_exchange_24 rfl (lv_at hl 0 rfl) ?_
  have hi_25 : (0 : Int) ≤ x2 ∧ x2 < (16 : Int) := (by omega)
  refine g_iast (σ := (sc σ 0 f0_18)) (f := (fun k => (f0_18 (91 + k)))) (i := x2) (v := (σ 0 (91 + x1))) (τ := st (sc σ 0 f0_18) 0 (91 + x2) (σ 0 (91 + x1))) hex hbc hK hP hD hS 7 0 rfl rfl (by decide) hi_25 dX2_exchange_25 (wx_up_7 hi_25) (fun H locs hP hD hS => ?_)
  obtain ⟨f0_25, ef0_25⟩ : ∃ z : Int → Int, z = ups f0_18 (91 + x2) (σ 0 (91 + x1)) := ⟨_, rfl⟩
  have hP : va_P G vwCl (wx cx a (sc σ 0 f0_25)) H := by rw [ef0_25]; exact hP
  have hD : va_D (XA a) (wx cx a (sc σ 0 f0_25)) := by rw [ef0_25]; exact hD
  exact g_vret hex hbc hrt hlocks hK hP hD hS (congrArg (sc σ 0) (by rw [ef0_25, ef0_18]; rfl)) dX2_exchange_26
theorem iX2_marksBefore_X2 : ∀ w ∈ wsX20, w ∈ wsX2_marksBefore := fun _ h => List.mem_cons_of_mem _ (List.mem_append_right _ h)
set_option maxHeartbeats 4000000 in
set_option maxRecDepth 100000 in
theorem mX2_marksBefore (l : Launch) (G : va_G) (cx a : Nat → Nat) (σ : Nat → Int → Int)  (x : Int) (hx : -2147483648 ≤ x ∧ x < 2147483648) (hI : Inv (σ 0)) : Met l yX2_marksBefore wsX2_marksBefore ({ frames := 0, cells := 0, slots := 0, locals := 0 }) (va_Pc [.ref (a 3), .int (iI x)] (gW G (tx cx) (XA a) (wx cx a) σ)) (va_Qi (fun r u => σ = u ∧ ∃ p, iI p = r ∧ Bef (σ 0) x p) (gW G (tx cx) (XA a) (wx cx a)) (XA a)) 0 0 (XA a) := by
  refine Met.ofW (cc := cX2_marksBefore) (maxL := 3) (ret := some .int) (by decide) rfl ?_
  intro p e s m args below meth c s₁ B hml hv
  obtain ⟨rfl, hP, hK, hD⟩ := hv
  have hex := B.exec
  have hbc := B.bytes
  have hrt := B.returns
  have hts := atoms_spec (ws := wsX2_marksBefore) B.pre
  have hown : s.vm.findClass RX2 = some m.cls := findClass_of_methodNamed B.named
  have hlocks := B.notSynchronized
  have hS : va_S (XA a) s.heap s.heap [] := va_S.rf
  have hin2 := iX2_marksBefore_X2
  have hl := lv_entry ([.ref (a 3), .int (iI x)]) (n := 3) (Nat.le_of_ble_eq_true rfl)
  rw [lg_entry_eq]
  generalize (lg_sl ([.ref (a 3), .int (iI x)]) ++ List.replicate (3 - (lg_sl ([.ref (a 3), .int (iI x)])).length) Slot.unset).toArray = ls at hl ⊢
  have hl : lv_has ls 3 [(0, .ref (a 3)), (1, .int (iI x))] := hl
  obtain ⟨hB, hEn, hMk, hAs, hPm⟩ := id hI
  refine lv_iconst (v := iI 0) hex hbc dX2_marksBefore_0 rfl ?_
  refine lv_istore_n (lv' := [(2, .int (iI 0)), (0, .ref (a 3)), (1, .int (iI x))]) hex hbc dX2_marksBefore_1 rfl hl (by decide) rfl (fun ls hl => ?_)
  have loop_2 : ∀ (N : Nat) (i1 : Int), (0 ≤ i1 ∧ i1 ≤ σ 0 74 ∧ ∀ k, 0 ≤ k → k < i1 → σ 0 (75 + k) < x) → (16 - i1) < (N : Int) → ∀ (H : Heap) (locs : List Loc) (ls : Array Slot), va_P G vwCl (wx cx a σ) H → va_D (XA a) (wx cx a σ) → va_S (XA a) s.heap H locs → lv_has ls 3 [(2, .int (iI i1)), (0, .ref (a 3)), (1, .int (iI x))] → W p l e (headSpec wsX2_marksBefore ({ frames := 0, cells := 0, slots := 0, locals := 0 })).room s m ([.ref (a 3), .int (iI x)] : List Value).toArray below meth c H locs 0 0 (MQ below (va_Qi (fun r u => σ = u ∧ ∃ p, iI p = r ∧ Bef (σ 0) x p) (gW G (tx cx) (XA a) (wx cx a)) (XA a)) ([.ref (a 3), .int (iI x)] : List Value).toArray s 0 0 (XA a)) (F0 m 2 ls []) := by
    intro N
    induction N with
    | zero => intro i1 hinv hlt; exfalso; omega
    | succ N ih_2 =>
      intro i1 ⟨hi0, hi1, hw⟩ hlt_2 H locs ls hP hD hS hl
      refine lv_iload_n hex hbc dX2_marksBefore_2 rfl (lv_at hl 0 rfl) ?_
      refine lv_aload_n hex hbc dX2_marksBefore_3 rfl (lv_at hl 1 rfl) ?_
      refine va_get (v := .int (iI (σ 0 74))) hex hbc hts hin2 hown hK hP 3 rfl rfl 1 (by decide) (hts _ (List.mem_of_getElem? (i := 1) rfl)) (fun _ h => h) rfl dX2_marksBefore_4 ?_
      refine zt_icmp_ge (a := i1) (b := (σ 0 74)) (tgt := 26) hex hbc (by omega) dX2_marksBefore_7 (by decide) (fun c7 => ?_) (fun c7 => ?_)
      · skip
        refine lv_iload_n hex hbc dX2_marksBefore_26 rfl (lv_at hl 0 rfl) ?_
        exact g_iret hex hbc hrt hlocks hK hP hD hS ⟨rfl, i1, rfl, hi0, hi1, hw, fun h => by omega⟩ dX2_marksBefore_27
      · skip
        have hm := hMk i1 hi0 (by omega)
        refine lv_aload_n hex hbc dX2_marksBefore_10 rfl (lv_at hl 1 rfl) ?_
        refine va_get (v := .ref (a 6)) hex hbc hts hin2 hown hK hP 3 rfl rfl 4 (by decide) (hts _ (List.mem_of_getElem? (i := 2) rfl)) (fun _ h => h) rfl dX2_marksBefore_11 ?_
        refine lv_iload_n hex hbc dX2_marksBefore_14 rfl (lv_at hl 0 rfl) ?_
        refine g_iald (f := (fun k => (σ 0 (75 + k)))) (v := (σ 0 (75 + i1))) (i := i1) hex hbc hK hP 6 0 rfl rfl (by decide) (by omega) rfl dX2_marksBefore_15 ?_
        refine lv_iload_n hex hbc dX2_marksBefore_16 rfl (lv_at hl 2 rfl) ?_
        refine zt_icmp_ge (a := (σ 0 (75 + i1))) (b := x) (tgt := 26) hex hbc (by omega) dX2_marksBefore_17 (by decide) (fun c17 => ?_) (fun c17 => ?_)
        · skip
          refine lv_iload_n hex hbc dX2_marksBefore_26 rfl (lv_at hl 0 rfl) ?_
          exact g_iret hex hbc hrt hlocks hK hP hD hS ⟨rfl, i1, rfl, hi0, hi1, hw, fun h => by omega⟩ dX2_marksBefore_27
        · skip
          refine lv_iinc (v := iI (i1 + 1)) (lv' := [(2, .int (iI (i1 + 1))), (0, .ref (a 3)), (1, .int (iI x))]) hex hbc dX2_marksBefore_20 hl (k := 0) rfl (iI_add _ _) (by decide) rfl (fun ls hl => ?_)
          refine lv_goto (tgt := 2) hex hbc dX2_marksBefore_23 (by decide) ?_
          exact ih_2 (i1 + 1) ⟨by omega, by omega, fun k h1 h2 => if hk : k = i1 then by subst hk; omega else hw k h1 (by omega)⟩ (by omega) _ _ _ hP hD hS (lv_sub hl [0, 1, 2] rfl)
  exact loop_2 _ 0 ⟨by omega, by omega, fun k h1 h2 => by omega⟩ (mz_lt _) _ _ _ hP hD hS (lv_sub hl [0, 1, 2] rfl)
theorem iX2_insertMark_X2 : ∀ w ∈ wsX20, w ∈ wsX2_insertMark := fun _ h => List.mem_cons_of_mem _ (List.mem_append_right _ h)
set_option maxHeartbeats 4000000 in
set_option maxRecDepth 100000 in
theorem mX2_insertMark (l : Launch) (G : va_G) (cx a : Nat → Nat) (σ : Nat → Int → Int)  (x1 : Int) (x2 : Int) (h1 : 0 ≤ x1 ∧ x1 ≤ σ 0 74) (h2 : 1 ≤ σ 0 74 ∧ σ 0 74 < 16) : Met l yX2_insertMark wsX2_insertMark ({ frames := 1, cells := 0, slots := 0, locals := 21 }) (va_Pc [.ref (a 3), .int (iI x1), .int (iI x2)] (gW G (tx cx) (XA a) (wx cx a) σ)) (va_Qv (fun u => sc σ 0 (spi (σ 0) x1 x2) = u) (gW G (tx cx) (XA a) (wx cx a)) (XA a)) 0 0 (XA a) := by
  refine Met.ofW (cc := cX2_insertMark) (maxL := 4) (ret := none) (by decide) rfl ?_
  intro p e s m args below meth c s₁ B hml hv
  obtain ⟨rfl, hP, hK, hD⟩ := hv
  have hex := B.exec
  have hbc := B.bytes
  have hrt := B.returns
  have hts := atoms_spec (ws := wsX2_insertMark) B.pre
  have hown : s.vm.findClass RX2 = some m.cls := findClass_of_methodNamed B.named
  have hlocks := B.notSynchronized
  have hS : va_S (XA a) s.heap s.heap [] := va_S.rf
  have hin2 := iX2_insertMark_X2
  have hl := lv_entry ([.ref (a 3), .int (iI x1), .int (iI x2)]) (n := 4) (Nat.le_of_ble_eq_true rfl)
  rw [lg_entry_eq]
  generalize (lg_sl ([.ref (a 3), .int (iI x1), .int (iI x2)]) ++ List.replicate (4 - (lg_sl ([.ref (a 3), .int (iI x1), .int (iI x2)])).length) Slot.unset).toArray = ls at hl ⊢
  have hl : lv_has ls 4 [(0, .ref (a 3)), (1, .int (iI x1)), (2, .int (iI x2))] := hl
  refine lv_aload_n hex hbc dX2_insertMark_0 rfl (lv_at hl 0 rfl) ?_
  refine va_get (v := .int (iI (σ 0 74))) hex hbc hts hin2 hown hK hP 3 rfl rfl 1 (by decide) (hts _ (List.mem_of_getElem? (i := 1) rfl)) (fun _ h => h) rfl dX2_insertMark_1 ?_
  refine lv_istore_n (lv' := [(3, .int (iI (σ 0 74))), (0, .ref (a 3)), (1, .int (iI x1)), (2, .int (iI x2))]) hex hbc dX2_insertMark_4 rfl hl (by decide) rfl (fun ls hl => ?_)
  have loop_5 : ∀ (N : Nat) (i1 : Int) (w1 : Int → Int), (x1 ≤ i1 ∧ i1 ≤ σ 0 74 ∧ ∀ k, w1 k = if 75 + i1 < k ∧ k ≤ 75 + σ 0 74 then σ 0 (k - 1) else σ 0 k) → (i1 - x1) < (N : Int) → ∀ (H : Heap) (locs : List Loc) (ls : Array Slot), va_P G vwCl (wx cx a (sc σ 0 w1)) H → va_D (XA a) (wx cx a (sc σ 0 w1)) → va_S (XA a) s.heap H locs → lv_has ls 4 [(3, .int (iI i1)), (0, .ref (a 3)), (1, .int (iI x1)), (2, .int (iI x2))] → W p l e (headSpec wsX2_insertMark ({ frames := 1, cells := 0, slots := 0, locals := 21 })).room s m ([.ref (a 3), .int (iI x1), .int (iI x2)] : List Value).toArray below meth c H locs 0 0 (MQ below (va_Qv (fun u => sc σ 0 (spi (σ 0) x1 x2) = u) (gW G (tx cx) (XA a) (wx cx a)) (XA a)) ([.ref (a 3), .int (iI x1), .int (iI x2)] : List Value).toArray s 0 0 (XA a)) (F0 m 5 ls []) := by
    intro N
    induction N with
    | zero => intro i1 w1 hinv hlt; exfalso; omega
    | succ N ih_5 =>
      intro i1 w1 ⟨hi0, hi1, hw⟩ hlt_5 H locs ls hP hD hS hl
      refine lv_iload_n hex hbc dX2_insertMark_5 rfl (lv_at hl 0 rfl) ?_
      refine lv_iload_n hex hbc dX2_insertMark_6 rfl (lv_at hl 2 rfl) ?_
      refine zt_icmp_le (a := i1) (b := x1) (tgt := 30) hex hbc (by omega) dX2_insertMark_7 (by decide) (fun c7 => ?_) (fun c7 => ?_)
      · skip
        refine lv_aload_n hex hbc dX2_insertMark_30 rfl (lv_at hl 1 rfl) ?_
        refine va_get (v := .ref (a 6)) hex hbc hts hin2 hown hK hP 3 rfl rfl 4 (by decide) (hts _ (List.mem_of_getElem? (i := 2) rfl)) (fun _ h => h) rfl dX2_insertMark_31 ?_
        refine lv_iload_n hex hbc dX2_insertMark_34 rfl (lv_at hl 2 rfl) ?_
        refine lv_iload_n hex hbc dX2_insertMark_35 rfl (lv_at hl 3 rfl) ?_
        have hi_36 : (0 : Int) ≤ x1 ∧ x1 < (16 : Int) := (by omega)
        refine g_iast (σ := (sc σ 0 w1)) (f := (fun k => (w1 (75 + k)))) (i := x1) (v := x2) (τ := st (sc σ 0 w1) 0 (75 + x1) x2) hex hbc hK hP hD hS 6 0 rfl rfl (by decide) hi_36 dX2_insertMark_36 (wx_up_6 hi_36) (fun H locs hP hD hS => ?_)
        obtain ⟨f0_36, ef0_36⟩ : ∃ z : Int → Int, z = ups w1 (75 + x1) x2 := ⟨_, rfl⟩
        have hP : va_P G vwCl (wx cx a (sc σ 0 f0_36)) H := by rw [ef0_36]; exact hP
        have hD : va_D (XA a) (wx cx a (sc σ 0 f0_36)) := by rw [ef0_36]; exact hD
        refine lv_aload_n hex hbc dX2_insertMark_37 rfl (lv_at hl 1 rfl) ?_
        refine lv_dup hex hbc dX2_insertMark_38 rfl ?_
        refine va_get (v := .int (iI (f0_36 74))) hex hbc hts hin2 hown hK hP 3 rfl rfl 1 (by decide) (hts _ (List.mem_of_getElem? (i := 1) rfl)) (fun _ h => h) rfl dX2_insertMark_39 ?_
        refine zt_nm (a := (f0_36 74)) (b := (σ 0 74)) (by rw [ef0_36, ups_n _ _ (by omega), hw]; exact if_neg (by omega)) ?_
        refine lv_iconst (v := iI 1) hex hbc dX2_insertMark_42 rfl ?_
        refine zt_iadd hex hbc dX2_insertMark_43 ?_
        refine va_put hex hbc hts hin2 tyX2 tyX2_ok nmX2 hown hK hP hD hS 3 rfl rfl 1 (by decide) (hts _ (List.mem_of_getElem? (i := 1) rfl)) (fun _ h => h) rfl (tyX2_ok 1 (by decide)) rfl rfl (Nat.le_of_ble_eq_true rfl) dX2_insertMark_44 (fun H locs hP hD hS => ?_)
        have hP := leW_P (wx_pf_3_1 (G := G) (cx := cx) (a := a) (σ := (sc σ 0 f0_36))) hP
        have hD := leW_D (wx_pf_3_1 (G := G) (cx := cx) (a := a) (σ := (sc σ 0 f0_36))) hD
        obtain ⟨f0_44, ef0_44⟩ : ∃ z : Int → Int, z = ups f0_36 74 ((σ 0 74) + 1) := ⟨_, rfl⟩
        have hP : va_P G vwCl (wx cx a (sc σ 0 f0_44)) H := by rw [ef0_44]; exact hP
        have hD : va_D (XA a) (wx cx a (sc σ 0 f0_44)) := by rw [ef0_44]; exact hD
        refine lv_aload_n hex hbc dX2_insertMark_47 rfl (lv_at hl 1 rfl) ?_
        refine g_callv [] ⟨hex, hbc, hml, hown, hts⟩ (mX2_resetSequence l G cx a (sc σ 0 f0_44)  ) (cwV 0 hts gX2_insertMark_X2_resetSequence rfl rfl rfl (by decide +kernel) ⟨Nat.le_of_ble_eq_true rfl, Nat.le_of_ble_eq_true rfl⟩) hK hP hD hS (fun _ h => h) 3 2 rfl rfl rfl rfl hl.1 (Nat.le_of_ble_eq_true rfl) dX2_insertMark_48 ⟨Nat.zero_le _, Nat.zero_le _⟩ (fun u_48 H locs hw_48 hP hD hS hz_48 hk_48 => ?_)
        obtain rfl := hw_48
        have hP : va_P G vwCl (wx cx a (sc σ 0 (spo (f0_44)))) H := hP
        have hD : va_D (XA a) (wx cx a (sc σ 0 (spo (f0_44)))) := hD
        exact g_vret hex hbc hrt hlocks hK hP hD hS (congrArg (sc σ 0) (funext fun k => by unfold spo spi; rw [ef0_44]; unfold ups; rw [ef0_36]; unfold ups; rw [hw k]; (repeat' split) <;> first | omega | exact congrArg _ (by omega))) dX2_insertMark_51
      · skip
        refine lv_aload_n hex hbc dX2_insertMark_10 rfl (lv_at hl 1 rfl) ?_
        refine va_get (v := .ref (a 6)) hex hbc hts hin2 hown hK hP 3 rfl rfl 4 (by decide) (hts _ (List.mem_of_getElem? (i := 2) rfl)) (fun _ h => h) rfl dX2_insertMark_11 ?_
        refine lv_iload_n hex hbc dX2_insertMark_14 rfl (lv_at hl 0 rfl) ?_
        refine lv_aload_n hex hbc dX2_insertMark_15 rfl (lv_at hl 1 rfl) ?_
        refine va_get (v := .ref (a 6)) hex hbc hts hin2 hown hK hP 3 rfl rfl 4 (by decide) (hts _ (List.mem_of_getElem? (i := 2) rfl)) (fun _ h => h) rfl dX2_insertMark_16 ?_
        refine lv_iload_n hex hbc dX2_insertMark_19 rfl (lv_at hl 0 rfl) ?_
        refine lv_iconst (v := iI 1) hex hbc dX2_insertMark_20 rfl ?_
        refine zt_isub hex hbc dX2_insertMark_21 ?_
        refine g_iald (f := (fun k => (w1 (75 + k)))) (v := (w1 (75 + (i1 - 1)))) (i := (i1 - 1)) hex hbc hK hP 6 0 rfl rfl (by decide) (by omega) rfl dX2_insertMark_22 ?_
        refine zt_nm (a := (w1 (75 + (i1 - 1)))) (b := (σ 0 (75 + (i1 - 1)))) (by rw [hw]; exact if_neg (by omega)) ?_
        have hi_23 : (0 : Int) ≤ i1 ∧ i1 < (16 : Int) := (by omega)
        refine g_iast (σ := (sc σ 0 w1)) (f := (fun k => (w1 (75 + k)))) (i := i1) (v := (σ 0 (75 + (i1 - 1)))) (τ := st (sc σ 0 w1) 0 (75 + i1) (σ 0 (75 + (i1 - 1)))) hex hbc hK hP hD hS 6 0 rfl rfl (by decide) hi_23 dX2_insertMark_23 (wx_up_6 hi_23) (fun H locs hP hD hS => ?_)
        obtain ⟨f0_23, ef0_23⟩ : ∃ z : Int → Int, z = ups w1 (75 + i1) (σ 0 (75 + (i1 - 1))) := ⟨_, rfl⟩
        have hP : va_P G vwCl (wx cx a (sc σ 0 f0_23)) H := by rw [ef0_23]; exact hP
        have hD : va_D (XA a) (wx cx a (sc σ 0 f0_23)) := by rw [ef0_23]; exact hD
        refine lv_iinc (v := iI (i1 + (-1))) (lv' := [(3, .int (iI (i1 + (-1)))), (0, .ref (a 3)), (1, .int (iI x1)), (2, .int (iI x2))]) hex hbc dX2_insertMark_24 hl (k := 0) rfl (iI_add _ _) (by decide) rfl (fun ls hl => ?_)
        refine lv_goto (tgt := 5) hex hbc dX2_insertMark_27 (by decide) ?_
        exact ih_5 (i1 + (-1)) f0_23 ⟨by omega, by omega, fun k => by rw [ef0_23]; unfold ups; rw [hw k]; (repeat' split) <;> first | omega | exact congrArg _ (by omega)⟩ (by omega) _ _ _ hP hD hS (lv_sub hl [0, 1, 2, 3] rfl)
  exact loop_5 _ (σ 0 74) (σ 0) ⟨by omega, by omega, fun k => by rw [if_neg (by omega)]⟩ (mz_lt _) _ _ _ hP hD hS (lv_sub hl [0, 1, 2, 3] rfl)
theorem iX2_removeMark_X2 : ∀ w ∈ wsX20, w ∈ wsX2_removeMark := fun _ h => List.mem_cons_of_mem _ (List.mem_append_right _ h)
set_option maxHeartbeats 4000000 in
set_option maxRecDepth 100000 in
theorem mX2_removeMark (l : Launch) (G : va_G) (cx a : Nat → Nat) (σ : Nat → Int → Int)  (x : Int) (hx : 1 ≤ x ∧ x < σ 0 74) (h2 : σ 0 74 ≤ 16) : Met l yX2_removeMark wsX2_removeMark ({ frames := 1, cells := 0, slots := 0, locals := 21 }) (va_Pc [.ref (a 3), .int (iI x)] (gW G (tx cx) (XA a) (wx cx a) σ)) (va_Qv (fun u => sc σ 0 (spr (σ 0) x) = u) (gW G (tx cx) (XA a) (wx cx a)) (XA a)) 0 0 (XA a) := by
  refine Met.ofW (cc := cX2_removeMark) (maxL := 3) (ret := none) (by decide) rfl ?_
  intro p e s m args below meth c s₁ B hml hv
  obtain ⟨rfl, hP, hK, hD⟩ := hv
  have hex := B.exec
  have hbc := B.bytes
  have hrt := B.returns
  have hts := atoms_spec (ws := wsX2_removeMark) B.pre
  have hown : s.vm.findClass RX2 = some m.cls := findClass_of_methodNamed B.named
  have hlocks := B.notSynchronized
  have hS : va_S (XA a) s.heap s.heap [] := va_S.rf
  have hin2 := iX2_removeMark_X2
  have hl := lv_entry ([.ref (a 3), .int (iI x)]) (n := 3) (Nat.le_of_ble_eq_true rfl)
  rw [lg_entry_eq]
  generalize (lg_sl ([.ref (a 3), .int (iI x)]) ++ List.replicate (3 - (lg_sl ([.ref (a 3), .int (iI x)])).length) Slot.unset).toArray = ls at hl ⊢
  have hl : lv_has ls 3 [(0, .ref (a 3)), (1, .int (iI x))] := hl
  refine lv_iload_n hex hbc dX2_removeMark_0 rfl (lv_at hl 1 rfl) ?_
  refine lv_istore_n (lv' := [(2, .int (iI x)), (0, .ref (a 3)), (1, .int (iI x))]) hex hbc dX2_removeMark_1 rfl hl (by decide) rfl (fun ls hl => ?_)
  have loop_2 : ∀ (N : Nat) (i1 : Int) (w1 : Int → Int), (x ≤ i1 ∧ i1 ≤ σ 0 74 - 1 ∧ ∀ k, w1 k = if 75 + x ≤ k ∧ k < 75 + i1 then σ 0 (k + 1) else σ 0 k) → (σ 0 74 - i1) < (N : Int) → ∀ (H : Heap) (locs : List Loc) (ls : Array Slot), va_P G vwCl (wx cx a (sc σ 0 w1)) H → va_D (XA a) (wx cx a (sc σ 0 w1)) → va_S (XA a) s.heap H locs → lv_has ls 3 [(2, .int (iI i1)), (0, .ref (a 3))] → W p l e (headSpec wsX2_removeMark ({ frames := 1, cells := 0, slots := 0, locals := 21 })).room s m ([.ref (a 3), .int (iI x)] : List Value).toArray below meth c H locs 0 0 (MQ below (va_Qv (fun u => sc σ 0 (spr (σ 0) x) = u) (gW G (tx cx) (XA a) (wx cx a)) (XA a)) ([.ref (a 3), .int (iI x)] : List Value).toArray s 0 0 (XA a)) (F0 m 2 ls []) := by
    intro N
    induction N with
    | zero => intro i1 w1 hinv hlt; exfalso; omega
    | succ N ih_2 =>
      intro i1 w1 ⟨hi0, hi1, hw⟩ hlt_2 H locs ls hP hD hS hl
      refine lv_iload_n hex hbc dX2_removeMark_2 rfl (lv_at hl 0 rfl) ?_
      refine lv_aload_n hex hbc dX2_removeMark_3 rfl (lv_at hl 1 rfl) ?_
      refine va_get (v := .int (iI (w1 74))) hex hbc hts hin2 hown hK hP 3 rfl rfl 1 (by decide) (hts _ (List.mem_of_getElem? (i := 1) rfl)) (fun _ h => h) rfl dX2_removeMark_4 ?_
      refine zt_nm (a := (w1 74)) (b := (σ 0 74)) (by rw [hw]; exact if_neg (by omega)) ?_
      refine lv_iconst (v := iI 1) hex hbc dX2_removeMark_7 rfl ?_
      refine zt_isub hex hbc dX2_removeMark_8 ?_
      refine zt_icmp_ge (a := i1) (b := ((σ 0 74) - 1)) (tgt := 32) hex hbc (by omega) dX2_removeMark_9 (by decide) (fun c9 => ?_) (fun c9 => ?_)
      · skip
        refine lv_aload_n hex hbc dX2_removeMark_32 rfl (lv_at hl 1 rfl) ?_
        refine lv_dup hex hbc dX2_removeMark_33 rfl ?_
        refine va_get (v := .int (iI (w1 74))) hex hbc hts hin2 hown hK hP 3 rfl rfl 1 (by decide) (hts _ (List.mem_of_getElem? (i := 1) rfl)) (fun _ h => h) rfl dX2_removeMark_34 ?_
        refine zt_nm (a := (w1 74)) (b := (σ 0 74)) (by rw [hw]; exact if_neg (by omega)) ?_
        refine lv_iconst (v := iI 1) hex hbc dX2_removeMark_37 rfl ?_
        refine zt_isub hex hbc dX2_removeMark_38 ?_
        refine va_put hex hbc hts hin2 tyX2 tyX2_ok nmX2 hown hK hP hD hS 3 rfl rfl 1 (by decide) (hts _ (List.mem_of_getElem? (i := 1) rfl)) (fun _ h => h) rfl (tyX2_ok 1 (by decide)) rfl rfl (Nat.le_of_ble_eq_true rfl) dX2_removeMark_39 (fun H locs hP hD hS => ?_)
        have hP := leW_P (wx_pf_3_1 (G := G) (cx := cx) (a := a) (σ := (sc σ 0 w1))) hP
        have hD := leW_D (wx_pf_3_1 (G := G) (cx := cx) (a := a) (σ := (sc σ 0 w1))) hD
        obtain ⟨f0_39, ef0_39⟩ : ∃ z : Int → Int, z = ups w1 74 ((σ 0 74) - 1) := ⟨_, rfl⟩
        have hP : va_P G vwCl (wx cx a (sc σ 0 f0_39)) H := by rw [ef0_39]; exact hP
        have hD : va_D (XA a) (wx cx a (sc σ 0 f0_39)) := by rw [ef0_39]; exact hD
        refine lv_aload_n hex hbc dX2_removeMark_42 rfl (lv_at hl 1 rfl) ?_
        refine g_callv [] ⟨hex, hbc, hml, hown, hts⟩ (mX2_resetSequence l G cx a (sc σ 0 f0_39)  ) (cwV 0 hts gX2_removeMark_X2_resetSequence rfl rfl rfl (by decide +kernel) ⟨Nat.le_of_ble_eq_true rfl, Nat.le_of_ble_eq_true rfl⟩) hK hP hD hS (fun _ h => h) 3 2 rfl rfl rfl rfl hl.1 (Nat.le_of_ble_eq_true rfl) dX2_removeMark_43 ⟨Nat.zero_le _, Nat.zero_le _⟩ (fun u_43 H locs hw_43 hP hD hS hz_43 hk_43 => ?_)
        obtain rfl := hw_43
        have hP : va_P G vwCl (wx cx a (sc σ 0 (spo (f0_39)))) H := hP
        have hD : va_D (XA a) (wx cx a (sc σ 0 (spo (f0_39)))) := hD
        exact g_vret hex hbc hrt hlocks hK hP hD hS (congrArg (sc σ 0) (funext fun k => by unfold spo spr; rw [ef0_39]; unfold ups; rw [hw k]; (repeat' split) <;> first | omega | exact congrArg _ (by omega))) dX2_removeMark_46
      · skip
        refine lv_aload_n hex hbc dX2_removeMark_12 rfl (lv_at hl 1 rfl) ?_
        refine va_get (v := .ref (a 6)) hex hbc hts hin2 hown hK hP 3 rfl rfl 4 (by decide) (hts _ (List.mem_of_getElem? (i := 2) rfl)) (fun _ h => h) rfl dX2_removeMark_13 ?_
        refine lv_iload_n hex hbc dX2_removeMark_16 rfl (lv_at hl 0 rfl) ?_
        refine lv_aload_n hex hbc dX2_removeMark_17 rfl (lv_at hl 1 rfl) ?_
        refine va_get (v := .ref (a 6)) hex hbc hts hin2 hown hK hP 3 rfl rfl 4 (by decide) (hts _ (List.mem_of_getElem? (i := 2) rfl)) (fun _ h => h) rfl dX2_removeMark_18 ?_
        refine lv_iload_n hex hbc dX2_removeMark_21 rfl (lv_at hl 0 rfl) ?_
        refine lv_iconst (v := iI 1) hex hbc dX2_removeMark_22 rfl ?_
        refine zt_iadd hex hbc dX2_removeMark_23 ?_
        refine g_iald (f := (fun k => (w1 (75 + k)))) (v := (w1 (75 + (i1 + 1)))) (i := (i1 + 1)) hex hbc hK hP 6 0 rfl rfl (by decide) (by omega) rfl dX2_removeMark_24 ?_
        refine zt_nm (a := (w1 (75 + (i1 + 1)))) (b := (σ 0 (75 + (i1 + 1)))) (by rw [hw]; exact if_neg (by omega)) ?_
        have hi_25 : (0 : Int) ≤ i1 ∧ i1 < (16 : Int) := (by omega)
        refine g_iast (σ := (sc σ 0 w1)) (f := (fun k => (w1 (75 + k)))) (i := i1) (v := (σ 0 (75 + (i1 + 1)))) (τ := st (sc σ 0 w1) 0 (75 + i1) (σ 0 (75 + (i1 + 1)))) hex hbc hK hP hD hS 6 0 rfl rfl (by decide) hi_25 dX2_removeMark_25 (wx_up_6 hi_25) (fun H locs hP hD hS => ?_)
        obtain ⟨f0_25, ef0_25⟩ : ∃ z : Int → Int, z = ups w1 (75 + i1) (σ 0 (75 + (i1 + 1))) := ⟨_, rfl⟩
        have hP : va_P G vwCl (wx cx a (sc σ 0 f0_25)) H := by rw [ef0_25]; exact hP
        have hD : va_D (XA a) (wx cx a (sc σ 0 f0_25)) := by rw [ef0_25]; exact hD
        refine lv_iinc (v := iI (i1 + 1)) (lv' := [(2, .int (iI (i1 + 1))), (0, .ref (a 3))]) hex hbc dX2_removeMark_26 hl (k := 0) rfl (iI_add _ _) (by decide) rfl (fun ls hl => ?_)
        refine lv_goto (tgt := 2) hex hbc dX2_removeMark_29 (by decide) ?_
        exact ih_2 (i1 + 1) f0_25 ⟨by omega, by omega, fun k => by rw [ef0_25]; unfold ups; rw [hw k]; (repeat' split) <;> first | omega | exact congrArg _ (by omega)⟩ (by omega) _ _ _ hP hD hS (lv_sub hl [0, 1] rfl)
  exact loop_2 _ x (σ 0) ⟨by omega, by omega, fun k => by rw [if_neg (by omega)]⟩ (mz_lt _) _ _ _ hP hD hS (lv_sub hl [0, 1] rfl)
theorem iX2_loudestFrame_X2 : ∀ w ∈ wsX20, w ∈ wsX2_loudestFrame := fun _ h => List.mem_cons_of_mem _ (List.mem_append_right _ h)
set_option maxHeartbeats 4000000 in
set_option maxRecDepth 100000 in
theorem mX2_loudestFrame (l : Launch) (G : va_G) (cx a : Nat → Nat) (σ : Nat → Int → Int)  (x : Int) (hx : 0 ≤ x ∧ x < σ 0 74) (hI : Inv (σ 0)) : Met l yX2_loudestFrame wsX2_loudestFrame ({ frames := 1, cells := 0, slots := 0, locals := 21 }) (va_Pc [.ref (a 3), .int (iI x)] (gW G (tx cx) (XA a) (wx cx a) σ)) (va_Qi (fun r u => σ = u ∧ iI (ldn (σ 0) (fr (σ 0) x) (fr (σ 0) (x + 1) - fr (σ 0) x - 1).toNat) = r) (gW G (tx cx) (XA a) (wx cx a)) (XA a)) 0 0 (XA a) := by
  refine Met.ofW (cc := cX2_loudestFrame) (maxL := 5) (ret := some .int) (by decide) rfl ?_
  intro p e s m args below meth c s₁ B hml hv
  obtain ⟨rfl, hP, hK, hD⟩ := hv
  have hex := B.exec
  have hbc := B.bytes
  have hrt := B.returns
  have hts := atoms_spec (ws := wsX2_loudestFrame) B.pre
  have hown : s.vm.findClass RX2 = some m.cls := findClass_of_methodNamed B.named
  have hlocks := B.notSynchronized
  have hS : va_S (XA a) s.heap s.heap [] := va_S.rf
  have hin2 := iX2_loudestFrame_X2
  have hl := lv_entry ([.ref (a 3), .int (iI x)]) (n := 5) (Nat.le_of_ble_eq_true rfl)
  rw [lg_entry_eq]
  generalize (lg_sl ([.ref (a 3), .int (iI x)]) ++ List.replicate (5 - (lg_sl ([.ref (a 3), .int (iI x)])).length) Slot.unset).toArray = ls at hl ⊢
  have hl : lv_has ls 5 [(0, .ref (a 3)), (1, .int (iI x))] := hl
  obtain ⟨hB, hEn, hMk, hAs, hPm⟩ := id hI
  have hm0 := hMk x hx.1 hx.2
  have hup := hI.fr_up hx.1 hx.2
  have hfi := hI.fr_in (k := x + 1) (by omega)
  have hf0 : fr (σ 0) x = σ 0 (75 + x) := fr_lt hx.2
  refine lv_aload_n hex hbc dX2_loudestFrame_0 rfl (lv_at hl 0 rfl) ?_
  refine va_get (v := .ref (a 6)) hex hbc hts hin2 hown hK hP 3 rfl rfl 4 (by decide) (hts _ (List.mem_of_getElem? (i := 1) rfl)) (fun _ h => h) rfl dX2_loudestFrame_1 ?_
  refine lv_iload_n hex hbc dX2_loudestFrame_4 rfl (lv_at hl 1 rfl) ?_
  refine g_iald (f := (fun k => (σ 0 (75 + k)))) (v := (σ 0 (75 + x))) (i := x) hex hbc hK hP 6 0 rfl rfl (by decide) (by omega) rfl dX2_loudestFrame_5 ?_
  refine lv_istore_n (lv' := [(2, .int (iI (σ 0 (75 + x)))), (0, .ref (a 3)), (1, .int (iI x))]) hex hbc dX2_loudestFrame_6 rfl hl (by decide) rfl (fun ls hl => ?_)
  refine lv_aload_n hex hbc dX2_loudestFrame_7 rfl (lv_at hl 1 rfl) ?_
  refine lv_iload_n hex hbc dX2_loudestFrame_8 rfl (lv_at hl 2 rfl) ?_
  refine g_calli [.int (iI x)] ⟨hex, hbc, hml, hown, hts⟩ (mX2_endFrame l G cx a σ x (by omega) hI) (cwV 1 hts gX2_loudestFrame_X2_endFrame rfl rfl rfl (by decide +kernel) ⟨Nat.le_of_ble_eq_true rfl, Nat.le_of_ble_eq_true rfl⟩) hK hP hD hS (fun _ h => h) 3 2 rfl rfl rfl rfl hl.1 (Nat.le_of_ble_eq_true rfl) dX2_loudestFrame_9 ⟨Nat.zero_le _, Nat.zero_le _⟩ (fun r_9 u_9 H locs hw_9 hP hD hS hz_9 hk_9 => ?_)
  obtain ⟨rfl, rfl⟩ := hw_9
  refine lv_istore_n (lv' := [(3, .int (iI (fr (σ 0) (x + 1)))), (2, .int (iI (σ 0 (75 + x)))), (0, .ref (a 3)), (1, .int (iI x))]) hex hbc dX2_loudestFrame_12 rfl hl (by decide) rfl (fun ls hl => ?_)
  refine lv_iload_n hex hbc dX2_loudestFrame_13 rfl (lv_at hl 1 rfl) ?_
  refine lv_iconst (v := iI 1) hex hbc dX2_loudestFrame_14 rfl ?_
  refine zt_iadd hex hbc dX2_loudestFrame_15 ?_
  refine lv_istore (lv' := [(4, .int (iI ((σ 0 (75 + x)) + 1))), (3, .int (iI (fr (σ 0) (x + 1)))), (2, .int (iI (σ 0 (75 + x)))), (0, .ref (a 3)), (1, .int (iI x))]) hex hbc dX2_loudestFrame_16 hl (by decide) rfl (fun ls hl => ?_)
  have loop_18 : ∀ (N : Nat) (n1 : Nat) (i1 : Int) (b1 : Int), (i1 = fr (σ 0) x + (n1 : Int) + 1 ∧ i1 ≤ fr (σ 0) (x + 1) ∧ b1 = ldn (σ 0) (fr (σ 0) x) n1) → (64 - i1) < (N : Int) → ∀ (H : Heap) (locs : List Loc) (ls : Array Slot), va_P G vwCl (wx cx a σ) H → va_D (XA a) (wx cx a σ) → va_S (XA a) s.heap H locs → lv_has ls 5 [(4, .int (iI i1)), (2, .int (iI b1)), (3, .int (iI (fr (σ 0) (x + 1)))), (0, .ref (a 3))] → W p l e (headSpec wsX2_loudestFrame ({ frames := 1, cells := 0, slots := 0, locals := 21 })).room s m ([.ref (a 3), .int (iI x)] : List Value).toArray below meth c H locs 0 0 (MQ below (va_Qi (fun r u => σ = u ∧ iI (ldn (σ 0) (fr (σ 0) x) (fr (σ 0) (x + 1) - fr (σ 0) x - 1).toNat) = r) (gW G (tx cx) (XA a) (wx cx a)) (XA a)) ([.ref (a 3), .int (iI x)] : List Value).toArray s 0 0 (XA a)) (F0 m 18 ls []) := by
    intro N
    induction N with
    | zero => intro n1 i1 b1 hinv hlt; exfalso; omega
    | succ N ih_18 =>
      intro n1 i1 b1 ⟨hi0, hi1, hb1⟩ hlt_18 H locs ls hP hD hS hl
      have hld := ldn_in (σ 0) (fr (σ 0) x) n1
      rw [← hb1] at hld
      have he1 := hEn b1 (by omega) (by omega)
      refine lv_iload hex hbc dX2_loudestFrame_18 (lv_at hl 0 rfl) ?_
      refine lv_iload_n hex hbc dX2_loudestFrame_20 rfl (lv_at hl 2 rfl) ?_
      refine zt_icmp_ge (a := i1) (b := (fr (σ 0) (x + 1))) (tgt := 49) hex hbc (by omega) dX2_loudestFrame_21 (by decide) (fun c21 => ?_) (fun c21 => ?_)
      · skip
        refine lv_iload_n hex hbc dX2_loudestFrame_49 rfl (lv_at hl 1 rfl) ?_
        exact g_iret hex hbc hrt hlocks hK hP hD hS ⟨rfl, congrArg iI (by rw [hb1, show (fr (σ 0) (x + 1) - fr (σ 0) x - 1).toNat = n1 from by omega])⟩ dX2_loudestFrame_50
      · skip
        have he2 := hEn i1 (by omega) (by omega)
        refine lv_aload_n hex hbc dX2_loudestFrame_24 rfl (lv_at hl 3 rfl) ?_
        refine va_get (v := .ref (a 4)) hex hbc hts hin2 hown hK hP 3 rfl rfl 2 (by decide) (hts _ (List.mem_of_getElem? (i := 2) rfl)) (fun _ h => h) rfl dX2_loudestFrame_25 ?_
        refine lv_iload hex hbc dX2_loudestFrame_28 (lv_at hl 0 rfl) ?_
        refine g_iald (f := (fun k => (σ 0 (10 + k)))) (v := (σ 0 (10 + i1))) (i := i1) hex hbc hK hP 4 0 rfl rfl (by decide) (by omega) rfl dX2_loudestFrame_30 ?_
        refine lv_aload_n hex hbc dX2_loudestFrame_31 rfl (lv_at hl 3 rfl) ?_
        refine va_get (v := .ref (a 4)) hex hbc hts hin2 hown hK hP 3 rfl rfl 2 (by decide) (hts _ (List.mem_of_getElem? (i := 2) rfl)) (fun _ h => h) rfl dX2_loudestFrame_32 ?_
        refine lv_iload_n hex hbc dX2_loudestFrame_35 rfl (lv_at hl 1 rfl) ?_
        refine g_iald (f := (fun k => (σ 0 (10 + k)))) (v := (σ 0 (10 + b1))) (i := b1) hex hbc hK hP 4 0 rfl rfl (by decide) (by omega) rfl dX2_loudestFrame_36 ?_
        refine zt_icmp_le (a := (σ 0 (10 + i1))) (b := (σ 0 (10 + b1))) (tgt := 43) hex hbc (by omega) dX2_loudestFrame_37 (by decide) (fun c37 => ?_) (fun c37 => ?_)
        · skip
          refine lv_iinc (v := iI (i1 + 1)) (lv' := [(4, .int (iI (i1 + 1))), (2, .int (iI b1)), (3, .int (iI (fr (σ 0) (x + 1)))), (0, .ref (a 3))]) hex hbc dX2_loudestFrame_43 hl (k := 0) rfl (iI_add _ _) (by decide) rfl (fun ls hl => ?_)
          refine lv_goto (tgt := 18) hex hbc dX2_loudestFrame_46 (by decide) ?_
          exact ih_18 (n1 + 1) (i1 + 1) b1 ⟨by omega, by omega, by unfold ldn; rw [← hb1, show fr (σ 0) x + (n1 : Int) + 1 = i1 from by omega]; first | rw [if_pos (by omega)] | rw [if_neg (by omega)]⟩ (by omega) _ _ _ hP hD hS (lv_sub hl [0, 1, 2, 3] rfl)
        · skip
          refine lv_iload hex hbc dX2_loudestFrame_40 (lv_at hl 0 rfl) ?_
          refine lv_istore_n (lv' := [(2, .int (iI i1)), (4, .int (iI i1)), (3, .int (iI (fr (σ 0) (x + 1)))), (0, .ref (a 3))]) hex hbc dX2_loudestFrame_42 rfl hl (by decide) rfl (fun ls hl => ?_)
          refine lv_iinc (v := iI (i1 + 1)) (lv' := [(4, .int (iI (i1 + 1))), (2, .int (iI i1)), (3, .int (iI (fr (σ 0) (x + 1)))), (0, .ref (a 3))]) hex hbc dX2_loudestFrame_43 hl (k := 1) rfl (iI_add _ _) (by decide) rfl (fun ls hl => ?_)
          refine lv_goto (tgt := 18) hex hbc dX2_loudestFrame_46 (by decide) ?_
          exact ih_18 (n1 + 1) (i1 + 1) i1 ⟨by omega, by omega, by unfold ldn; rw [← hb1, show fr (σ 0) x + (n1 : Int) + 1 = i1 from by omega]; first | rw [if_pos (by omega)] | rw [if_neg (by omega)]⟩ (by omega) _ _ _ hP hD hS (lv_sub hl [0, 1, 2, 3] rfl)
  exact loop_18 _ 0 (σ 0 (75 + x) + 1) (σ 0 (75 + x)) ⟨by omega, by omega, by rw [← hf0]; rfl⟩ (mz_lt _) _ _ _ hP hD hS (lv_sub hl [0, 2, 1, 3] rfl)
theorem iX2_findRises_6_X2 : ∀ w ∈ wsX20, w ∈ wsX2_findRises := fun _ h => List.mem_cons_of_mem _ (List.mem_append_right _ h)
set_option maxHeartbeats 4000000 in
set_option maxRecDepth 100000 in
theorem mX2_findRises_6 (l : Launch) (G : va_G) (cx a : Nat → Nat) (σ : Nat → Int → Int)  (x : Int) (hx : -2147483648 ≤ x ∧ x < 2147483648) (hI : Inv (σ 0)) : Met l yX2_findRises wsX2_findRises ({ frames := 0, cells := 0, slots := 0, locals := 0 }) (va_Pc [.ref (a 3), .int (iI x), .ref (a 6)] (gW G (tx cx) (XA a) (wx cx a) σ)) (va_Qi (fun r u => sc σ 0 (fun k => if 75 ≤ k ∧ k < 91 then (fbn (σ 0) x (fun k => σ 0 (75 + k)) (σ 0 0 - 1).toNat).2 (k - 75) else σ 0 k) = u ∧ iI (fbn (σ 0) x (fun k => σ 0 (75 + k)) (σ 0 0 - 1).toNat).1 = r) (gW G (tx cx) (XA a) (wx cx a)) (XA a)) 0 0 (XA a) := by
  refine Met.ofW (cc := cX2_findRises) (maxL := 6) (ret := some .int) (by decide) rfl ?_
  intro p e s m args below meth c s₁ B hml hv
  obtain ⟨rfl, hP, hK, hD⟩ := hv
  have hex := B.exec
  have hbc := B.bytes
  have hrt := B.returns
  have hts := atoms_spec (ws := wsX2_findRises) B.pre
  have hown : s.vm.findClass RX2 = some m.cls := findClass_of_methodNamed B.named
  have hlocks := B.notSynchronized
  have hS : va_S (XA a) s.heap s.heap [] := va_S.rf
  have hin2 := iX2_findRises_6_X2
  have hl := lv_entry ([.ref (a 3), .int (iI x), .ref (a 6)]) (n := 6) (Nat.le_of_ble_eq_true rfl)
  rw [lg_entry_eq]
  generalize (lg_sl ([.ref (a 3), .int (iI x), .ref (a 6)]) ++ List.replicate (6 - (lg_sl ([.ref (a 3), .int (iI x), .ref (a 6)])).length) Slot.unset).toArray = ls at hl ⊢
  have hl : lv_has ls 6 [(0, .ref (a 3)), (1, .int (iI x)), (2, .ref (a 6))] := hl
  obtain ⟨hB, hEn, hMk, hAs, hPm⟩ := id hI
  refine lv_aload_n hex hbc dX2_findRises_0 rfl (lv_at hl 2 rfl) ?_
  refine lv_iconst (v := iI 0) hex hbc dX2_findRises_1 rfl ?_
  refine lv_iconst (v := iI 0) hex hbc dX2_findRises_2 rfl ?_
  have hi_3 : (0 : Int) ≤ 0 ∧ 0 < (16 : Int) := (by omega)
  refine g_iast (σ := σ) (f := (fun k => (σ 0 (75 + k)))) (i := 0) (v := 0) (τ := st σ 0 75 0) hex hbc hK hP hD hS 6 0 rfl rfl (by decide) hi_3 dX2_findRises_3 (wx_up_6 hi_3) (fun H locs hP hD hS => ?_)
  obtain ⟨f0_3, ef0_3⟩ : ∃ z : Int → Int, z = ups (σ 0) 75 0 := ⟨_, rfl⟩
  have hP : va_P G vwCl (wx cx a (sc σ 0 f0_3)) H := by rw [ef0_3]; exact hP
  have hD : va_D (XA a) (wx cx a (sc σ 0 f0_3)) := by rw [ef0_3]; exact hD
  refine lv_iconst (v := iI 1) hex hbc dX2_findRises_4 rfl ?_
  refine lv_istore_n (lv' := [(3, .int (iI 1)), (0, .ref (a 3)), (1, .int (iI x)), (2, .ref (a 6))]) hex hbc dX2_findRises_5 rfl hl (by decide) rfl (fun ls hl => ?_)
  refine lv_iconst (v := iI 1) hex hbc dX2_findRises_6 rfl ?_
  refine lv_istore (lv' := [(4, .int (iI 1)), (3, .int (iI 1)), (0, .ref (a 3)), (1, .int (iI x)), (2, .ref (a 6))]) hex hbc dX2_findRises_7 hl (by decide) rfl (fun ls hl => ?_)
  have loop_9 : ∀ (N : Nat) (n1 : Nat) (i1 : Int) (cn : Int) (w1 : Int → Int), (1 ≤ i1 ∧ i1 ≤ σ 0 0 ∧ i1 = (n1 : Int) + 1 ∧ cn = (fbn (σ 0) x (fun k => σ 0 (75 + k)) n1).1 ∧ (∀ k, w1 k = if 75 ≤ k ∧ k < 91 then (fbn (σ 0) x (fun k => σ 0 (75 + k)) n1).2 (k - 75) else σ 0 k)) → (64 - i1) < (N : Int) → ∀ (H : Heap) (locs : List Loc) (ls : Array Slot), va_P G vwCl (wx cx a (sc σ 0 w1)) H → va_D (XA a) (wx cx a (sc σ 0 w1)) → va_S (XA a) s.heap H locs → lv_has ls 6 [(4, .int (iI i1)), (3, .int (iI cn)), (0, .ref (a 3)), (1, .int (iI x)), (2, .ref (a 6))] → W p l e (headSpec wsX2_findRises ({ frames := 0, cells := 0, slots := 0, locals := 0 })).room s m ([.ref (a 3), .int (iI x), .ref (a 6)] : List Value).toArray below meth c H locs 0 0 (MQ below (va_Qi (fun r u => sc σ 0 (fun k => if 75 ≤ k ∧ k < 91 then (fbn (σ 0) x (fun k => σ 0 (75 + k)) (σ 0 0 - 1).toNat).2 (k - 75) else σ 0 k) = u ∧ iI (fbn (σ 0) x (fun k => σ 0 (75 + k)) (σ 0 0 - 1).toNat).1 = r) (gW G (tx cx) (XA a) (wx cx a)) (XA a)) ([.ref (a 3), .int (iI x), .ref (a 6)] : List Value).toArray s 0 0 (XA a)) (F0 m 9 ls []) := by
    intro N
    induction N with
    | zero => intro n1 i1 cn w1 hinv hlt; exfalso; omega
    | succ N ih_9 =>
      intro n1 i1 cn w1 ⟨hi0, hi1, hi2, hc, hw⟩ hlt_9 H locs ls hP hD hS hl
      have hfb := fbn_in (σ 0) x (fun k => σ 0 (75 + k)) n1
      rw [← hc] at hfb
      obtain ⟨hb1, hb2, hb3, hb4, hb5⟩ := hfb
      have e1 : σ 0 (10 + i1) = σ 0 (10 + ((n1 : Int) + 1)) := congrArg _ (by omega)
      have e2 : σ 0 (10 + (i1 - 1)) = σ 0 (10 + (n1 : Int)) := congrArg _ (by omega)
      have e2' : σ 0 (10 + i1 - 1) = σ 0 (10 + (n1 : Int)) := congrArg _ (by omega)
      have e3 : (w1 (75 + (cn - 1))) = (fbn (σ 0) x (fun k => σ 0 (75 + k)) n1).2 ((fbn (σ 0) x (fun k => σ 0 (75 + k)) n1).1 - 1) := by rw [hw, if_pos (by omega), ← hc]; exact congrArg _ (by omega)
      have hb6 := hb5 (cn - 1) (by omega) (by omega)
      rw [hc, ← e3] at hb6
      refine lv_iload hex hbc dX2_findRises_9 (lv_at hl 0 rfl) ?_
      refine lv_aload_n hex hbc dX2_findRises_11 rfl (lv_at hl 2 rfl) ?_
      refine va_get (v := .int (iI (w1 0))) hex hbc hts hin2 hown hK hP 3 rfl rfl 0 (by decide) (hts _ (List.mem_of_getElem? (i := 1) rfl)) (fun _ h => h) rfl dX2_findRises_12 ?_
      refine zt_nm (a := (w1 0)) (b := (σ 0 0)) (by rw [hw]; exact if_neg (by omega)) ?_
      refine zt_icmp_ge (a := i1) (b := (σ 0 0)) (tgt := 80) hex hbc (by omega) dX2_findRises_15 (by decide) (fun c15 => ?_) (fun c15 => ?_)
      · skip
        refine lv_iload_n hex hbc dX2_findRises_80 rfl (lv_at hl 1 rfl) ?_
        exact g_iret hex hbc hrt hlocks hK hP hD hS ⟨congrArg (sc σ 0) (funext fun k => by rw [hw k, (fbn_end (n := n1) (N := (σ 0 0 - 1).toNat) (by omega) (by omega))]), congrArg iI (by rw [(fbn_end (n := n1) (N := (σ 0 0 - 1).toNat) (by omega) (by omega))]; exact hc.symm)⟩ dX2_findRises_81
      · skip
        have hen1 := hEn i1 (by omega) (by omega)
        have hen2 := hEn (i1 - 1) (by omega) (by omega)
        have hen3 : σ 0 (10 + (i1 - 1)) = σ 0 (10 + i1 - 1) := congrArg _ (by omega)
        refine lv_iload_n hex hbc dX2_findRises_18 rfl (lv_at hl 1 rfl) ?_
        refine lv_bipush (v := iI 16) hex hbc dX2_findRises_19 (by decide) ?_
        refine zt_icmp_ge (a := cn) (b := 16) (tgt := 80) hex hbc (by omega) dX2_findRises_21 (by decide) (fun c21 => ?_) (fun c21 => ?_)
        · skip
          refine lv_iload_n hex hbc dX2_findRises_80 rfl (lv_at hl 1 rfl) ?_
          exact g_iret hex hbc hrt hlocks hK hP hD hS ⟨congrArg (sc σ 0) (funext fun k => by rw [hw k, (fbn_end (n := n1) (N := (σ 0 0 - 1).toNat) (by omega) (by omega))]), congrArg iI (by rw [(fbn_end (n := n1) (N := (σ 0 0 - 1).toNat) (by omega) (by omega))]; exact hc.symm)⟩ dX2_findRises_81
        · skip
          refine lv_aload_n hex hbc dX2_findRises_24 rfl (lv_at hl 2 rfl) ?_
          refine va_get (v := .ref (a 4)) hex hbc hts hin2 hown hK hP 3 rfl rfl 2 (by decide) (hts _ (List.mem_of_getElem? (i := 2) rfl)) (fun _ h => h) rfl dX2_findRises_25 ?_
          refine lv_iload hex hbc dX2_findRises_28 (lv_at hl 0 rfl) ?_
          refine g_iald (f := (fun k => (w1 (10 + k)))) (v := (w1 (10 + i1))) (i := i1) hex hbc hK hP 4 0 rfl rfl (by decide) (by omega) rfl dX2_findRises_30 ?_
          refine zt_nm (a := (w1 (10 + i1))) (b := (σ 0 (10 + i1))) (by rw [hw]; exact if_neg (by omega)) ?_
          refine lv_aload_n hex hbc dX2_findRises_31 rfl (lv_at hl 2 rfl) ?_
          refine va_get (v := .ref (a 4)) hex hbc hts hin2 hown hK hP 3 rfl rfl 2 (by decide) (hts _ (List.mem_of_getElem? (i := 2) rfl)) (fun _ h => h) rfl dX2_findRises_32 ?_
          refine lv_iload hex hbc dX2_findRises_35 (lv_at hl 0 rfl) ?_
          refine lv_iconst (v := iI 1) hex hbc dX2_findRises_37 rfl ?_
          refine zt_isub hex hbc dX2_findRises_38 ?_
          refine g_iald (f := (fun k => (w1 (10 + k)))) (v := (w1 (10 + (i1 - 1)))) (i := (i1 - 1)) hex hbc hK hP 4 0 rfl rfl (by decide) (by omega) rfl dX2_findRises_39 ?_
          refine zt_nm (a := (w1 (10 + (i1 - 1)))) (b := (σ 0 (10 + (i1 - 1)))) (by rw [hw]; exact if_neg (by omega)) ?_
          refine zt_isub hex hbc dX2_findRises_40 ?_
          refine lv_istore (lv' := [(5, .int (iI ((σ 0 (10 + i1)) - (σ 0 (10 + (i1 - 1)))))), (4, .int (iI i1)), (3, .int (iI cn)), (0, .ref (a 3)), (1, .int (iI x)), (2, .ref (a 6))]) hex hbc dX2_findRises_41 hl (by decide) rfl (fun ls hl => ?_)
          refine lv_iload hex hbc dX2_findRises_43 (lv_at hl 0 rfl) ?_
          refine lv_iload_n hex hbc dX2_findRises_45 rfl (lv_at hl 4 rfl) ?_
          refine zt_icmp_lt (a := ((σ 0 (10 + i1)) - (σ 0 (10 + (i1 - 1))))) (b := x) (tgt := 74) hex hbc (by omega) dX2_findRises_46 (by decide) (fun c46 => ?_) (fun c46 => ?_)
          · skip
            refine lv_iinc (v := iI (i1 + 1)) (lv' := [(4, .int (iI (i1 + 1))), (5, .int (iI ((σ 0 (10 + i1)) - (σ 0 (10 + (i1 - 1)))))), (3, .int (iI cn)), (0, .ref (a 3)), (1, .int (iI x)), (2, .ref (a 6))]) hex hbc dX2_findRises_74 hl (k := 1) rfl (iI_add _ _) (by decide) rfl (fun ls hl => ?_)
            refine lv_goto (tgt := 9) hex hbc dX2_findRises_77 (by decide) ?_
            exact ih_9 (n1 + 1) (i1 + 1) cn w1 ⟨by omega, by omega, by omega, by rw [fbn_n (by omega)]; exact hc, by rw [fbn_n (by omega)]; exact hw⟩ (by omega) _ _ _ hP hD hS (lv_sub hl [0, 2, 3, 4, 5] rfl)
          · skip
            refine lv_iload hex hbc dX2_findRises_49 (lv_at hl 1 rfl) ?_
            refine lv_aload_n hex hbc dX2_findRises_51 rfl (lv_at hl 5 rfl) ?_
            refine lv_iload_n hex hbc dX2_findRises_52 rfl (lv_at hl 2 rfl) ?_
            refine lv_iconst (v := iI 1) hex hbc dX2_findRises_53 rfl ?_
            refine zt_isub hex hbc dX2_findRises_54 ?_
            refine g_iald (f := (fun k => (w1 (75 + k)))) (v := (w1 (75 + (cn - 1)))) (i := (cn - 1)) hex hbc hK hP 6 0 rfl rfl (by decide) (by omega) rfl dX2_findRises_55 ?_
            refine zt_isub hex hbc dX2_findRises_56 ?_
            refine lv_aload_n hex hbc dX2_findRises_57 rfl (lv_at hl 3 rfl) ?_
            refine va_get (v := .ref (a 5)) hex hbc hts hin2 hown hK hP 3 rfl rfl 3 (by decide) (hts _ (List.mem_of_getElem? (i := 3) rfl)) (fun _ h => h) rfl dX2_findRises_58 ?_
            refine lv_iconst (v := iI 2) hex hbc dX2_findRises_61 rfl ?_
            refine g_iald (f := (fun k => (w1 (1 + k)))) (v := (w1 3)) (i := 2) hex hbc hK hP 5 0 rfl rfl (by decide) (by omega) rfl dX2_findRises_62 ?_
            refine zt_nm (a := (w1 3)) (b := (σ 0 3)) (by rw [hw]; exact if_neg (by omega)) ?_
            refine zt_icmp_lt (a := (i1 - (w1 (75 + (cn - 1))))) (b := (σ 0 3)) (tgt := 74) hex hbc (by omega) dX2_findRises_63 (by decide) (fun c63 => ?_) (fun c63 => ?_)
            · skip
              refine lv_iinc (v := iI (i1 + 1)) (lv' := [(4, .int (iI (i1 + 1))), (5, .int (iI ((σ 0 (10 + i1)) - (σ 0 (10 + (i1 - 1)))))), (3, .int (iI cn)), (0, .ref (a 3)), (1, .int (iI x)), (2, .ref (a 6))]) hex hbc dX2_findRises_74 hl (k := 1) rfl (iI_add _ _) (by decide) rfl (fun ls hl => ?_)
              refine lv_goto (tgt := 9) hex hbc dX2_findRises_77 (by decide) ?_
              exact ih_9 (n1 + 1) (i1 + 1) cn w1 ⟨by omega, by omega, by omega, by rw [fbn_n (by omega)]; exact hc, by rw [fbn_n (by omega)]; exact hw⟩ (by omega) _ _ _ hP hD hS (lv_sub hl [0, 2, 3, 4, 5] rfl)
            · skip
              refine lv_aload_n hex hbc dX2_findRises_66 rfl (lv_at hl 5 rfl) ?_
              refine lv_iload_n hex hbc dX2_findRises_67 rfl (lv_at hl 2 rfl) ?_
              refine lv_iload hex hbc dX2_findRises_68 (lv_at hl 1 rfl) ?_
              have hi_70 : (0 : Int) ≤ cn ∧ cn < (16 : Int) := (by omega)
              refine g_iast (σ := (sc σ 0 w1)) (f := (fun k => (w1 (75 + k)))) (i := cn) (v := i1) (τ := st (sc σ 0 w1) 0 (75 + cn) i1) hex hbc hK hP hD hS 6 0 rfl rfl (by decide) hi_70 dX2_findRises_70 (wx_up_6 hi_70) (fun H locs hP hD hS => ?_)
              obtain ⟨f0_70, ef0_70⟩ : ∃ z : Int → Int, z = ups w1 (75 + cn) i1 := ⟨_, rfl⟩
              have hP : va_P G vwCl (wx cx a (sc σ 0 f0_70)) H := by rw [ef0_70]; exact hP
              have hD : va_D (XA a) (wx cx a (sc σ 0 f0_70)) := by rw [ef0_70]; exact hD
              refine lv_iinc (v := iI (cn + 1)) (lv' := [(3, .int (iI (cn + 1))), (5, .int (iI ((σ 0 (10 + i1)) - (σ 0 (10 + (i1 - 1)))))), (4, .int (iI i1)), (0, .ref (a 3)), (1, .int (iI x)), (2, .ref (a 6))]) hex hbc dX2_findRises_71 hl (k := 2) rfl (iI_add _ _) (by decide) rfl (fun ls hl => ?_)
              refine lv_iinc (v := iI (i1 + 1)) (lv' := [(4, .int (iI (i1 + 1))), (3, .int (iI (cn + 1))), (5, .int (iI ((σ 0 (10 + i1)) - (σ 0 (10 + (i1 - 1)))))), (0, .ref (a 3)), (1, .int (iI x)), (2, .ref (a 6))]) hex hbc dX2_findRises_74 hl (k := 2) rfl (iI_add _ _) (by decide) rfl (fun ls hl => ?_)
              refine lv_goto (tgt := 9) hex hbc dX2_findRises_77 (by decide) ?_
              exact ih_9 (n1 + 1) (i1 + 1) (cn + 1) f0_70 ⟨by omega, by omega, by omega, by rw [fbn_y (by omega)]; show _ = _ + 1; rw [hc], fun k => by rw [fbn_y (by omega), ef0_70]; dsimp only; unfold ups; rw [← hc, hw k]; (repeat' split) <;> first | omega | exact congrArg _ (by omega)⟩ (by omega) _ _ _ hP hD hS (lv_sub hl [0, 1, 3, 4, 5] rfl)
  exact loop_9 _ 0 1 1 f0_3 ⟨by omega, by omega, by omega, rfl, fun k => by rw [ef0_3, fbn_0]; dsimp only; unfold ups; (repeat' split) <;> first | omega | exact congrArg _ (by omega)⟩ (mz_lt _) _ _ _ hP hD hS (lv_sub hl [0, 1, 2, 3, 4] rfl)
theorem iX2_findRises_2_X2 : ∀ w ∈ wsX20, w ∈ wsX2_findRises := fun _ h => List.mem_cons_of_mem _ (List.mem_append_right _ h)
set_option maxHeartbeats 4000000 in
set_option maxRecDepth 100000 in
theorem mX2_findRises_2 (l : Launch) (G : va_G) (cx a : Nat → Nat) (σ : Nat → Int → Int)  (x : Int) (hx : -2147483648 ≤ x ∧ x < 2147483648) (hI : Inv (σ 0)) : Met l yX2_findRises wsX2_findRises ({ frames := 0, cells := 0, slots := 0, locals := 0 }) (va_Pc [.ref (a 3), .int (iI x), .ref (a 2)] (gW G (tx cx) (XA a) (wx cx a) σ)) (va_Qi (fun r u => sc σ 13 (fbn (σ 0) x (σ 13) (σ 0 0 - 1).toNat).2 = u ∧ iI (fbn (σ 0) x (σ 13) (σ 0 0 - 1).toNat).1 = r) (gW G (tx cx) (XA a) (wx cx a)) (XA a)) 0 0 (XA a) := by
  refine Met.ofW (cc := cX2_findRises) (maxL := 6) (ret := some .int) (by decide) rfl ?_
  intro p e s m args below meth c s₁ B hml hv
  obtain ⟨rfl, hP, hK, hD⟩ := hv
  have hex := B.exec
  have hbc := B.bytes
  have hrt := B.returns
  have hts := atoms_spec (ws := wsX2_findRises) B.pre
  have hown : s.vm.findClass RX2 = some m.cls := findClass_of_methodNamed B.named
  have hlocks := B.notSynchronized
  have hS : va_S (XA a) s.heap s.heap [] := va_S.rf
  have hin2 := iX2_findRises_2_X2
  have hl := lv_entry ([.ref (a 3), .int (iI x), .ref (a 2)]) (n := 6) (Nat.le_of_ble_eq_true rfl)
  rw [lg_entry_eq]
  generalize (lg_sl ([.ref (a 3), .int (iI x), .ref (a 2)]) ++ List.replicate (6 - (lg_sl ([.ref (a 3), .int (iI x), .ref (a 2)])).length) Slot.unset).toArray = ls at hl ⊢
  have hl : lv_has ls 6 [(0, .ref (a 3)), (1, .int (iI x)), (2, .ref (a 2))] := hl
  obtain ⟨hB, hEn, hMk, hAs, hPm⟩ := id hI
  refine lv_aload_n hex hbc dX2_findRises_0 rfl (lv_at hl 2 rfl) ?_
  refine lv_iconst (v := iI 0) hex hbc dX2_findRises_1 rfl ?_
  refine lv_iconst (v := iI 0) hex hbc dX2_findRises_2 rfl ?_
  have hi_3 : (0 : Int) ≤ 0 ∧ 0 < (16 : Int) := (by omega)
  refine g_iast (σ := σ) (f := (σ 13)) (i := 0) (v := 0) (τ := st σ 13 0 0) hex hbc hK hP hD hS 2 0 rfl rfl (by decide) hi_3 dX2_findRises_3 (wx_up_2 hi_3) (fun H locs hP hD hS => ?_)
  obtain ⟨f13_3, ef13_3⟩ : ∃ z : Int → Int, z = ups (σ 13) 0 0 := ⟨_, rfl⟩
  have hP : va_P G vwCl (wx cx a (sc σ 13 f13_3)) H := by rw [ef13_3]; exact hP
  have hD : va_D (XA a) (wx cx a (sc σ 13 f13_3)) := by rw [ef13_3]; exact hD
  refine lv_iconst (v := iI 1) hex hbc dX2_findRises_4 rfl ?_
  refine lv_istore_n (lv' := [(3, .int (iI 1)), (0, .ref (a 3)), (1, .int (iI x)), (2, .ref (a 2))]) hex hbc dX2_findRises_5 rfl hl (by decide) rfl (fun ls hl => ?_)
  refine lv_iconst (v := iI 1) hex hbc dX2_findRises_6 rfl ?_
  refine lv_istore (lv' := [(4, .int (iI 1)), (3, .int (iI 1)), (0, .ref (a 3)), (1, .int (iI x)), (2, .ref (a 2))]) hex hbc dX2_findRises_7 hl (by decide) rfl (fun ls hl => ?_)
  have loop_9 : ∀ (N : Nat) (n1 : Nat) (i1 : Int) (cn : Int) (w1 : Int → Int), (1 ≤ i1 ∧ i1 ≤ σ 0 0 ∧ i1 = (n1 : Int) + 1 ∧ cn = (fbn (σ 0) x (σ 13) n1).1 ∧ w1 = (fbn (σ 0) x (σ 13) n1).2) → (64 - i1) < (N : Int) → ∀ (H : Heap) (locs : List Loc) (ls : Array Slot), va_P G vwCl (wx cx a (sc σ 13 w1)) H → va_D (XA a) (wx cx a (sc σ 13 w1)) → va_S (XA a) s.heap H locs → lv_has ls 6 [(4, .int (iI i1)), (3, .int (iI cn)), (0, .ref (a 3)), (1, .int (iI x)), (2, .ref (a 2))] → W p l e (headSpec wsX2_findRises ({ frames := 0, cells := 0, slots := 0, locals := 0 })).room s m ([.ref (a 3), .int (iI x), .ref (a 2)] : List Value).toArray below meth c H locs 0 0 (MQ below (va_Qi (fun r u => sc σ 13 (fbn (σ 0) x (σ 13) (σ 0 0 - 1).toNat).2 = u ∧ iI (fbn (σ 0) x (σ 13) (σ 0 0 - 1).toNat).1 = r) (gW G (tx cx) (XA a) (wx cx a)) (XA a)) ([.ref (a 3), .int (iI x), .ref (a 2)] : List Value).toArray s 0 0 (XA a)) (F0 m 9 ls []) := by
    intro N
    induction N with
    | zero => intro n1 i1 cn w1 hinv hlt; exfalso; omega
    | succ N ih_9 =>
      intro n1 i1 cn w1 ⟨hi0, hi1, hi2, hc, hw⟩ hlt_9 H locs ls hP hD hS hl
      have hfb := fbn_in (σ 0) x (σ 13) n1
      rw [← hc] at hfb
      obtain ⟨hb1, hb2, hb3, hb4, hb5⟩ := hfb
      have e1 : σ 0 (10 + i1) = σ 0 (10 + ((n1 : Int) + 1)) := congrArg _ (by omega)
      have e2 : σ 0 (10 + (i1 - 1)) = σ 0 (10 + (n1 : Int)) := congrArg _ (by omega)
      have e2' : σ 0 (10 + i1 - 1) = σ 0 (10 + (n1 : Int)) := congrArg _ (by omega)
      have e3 : (w1 (cn - 1)) = (fbn (σ 0) x (σ 13) n1).2 ((fbn (σ 0) x (σ 13) n1).1 - 1) := by rw [hw, hc]
      have hb6 := hb5 (cn - 1) (by omega) (by omega)
      rw [hc, ← e3] at hb6
      refine lv_iload hex hbc dX2_findRises_9 (lv_at hl 0 rfl) ?_
      refine lv_aload_n hex hbc dX2_findRises_11 rfl (lv_at hl 2 rfl) ?_
      refine va_get (v := .int (iI (σ 0 0))) hex hbc hts hin2 hown hK hP 3 rfl rfl 0 (by decide) (hts _ (List.mem_of_getElem? (i := 1) rfl)) (fun _ h => h) rfl dX2_findRises_12 ?_
      refine zt_icmp_ge (a := i1) (b := (σ 0 0)) (tgt := 80) hex hbc (by omega) dX2_findRises_15 (by decide) (fun c15 => ?_) (fun c15 => ?_)
      · skip
        refine lv_iload_n hex hbc dX2_findRises_80 rfl (lv_at hl 1 rfl) ?_
        exact g_iret hex hbc hrt hlocks hK hP hD hS ⟨congrArg (sc σ 13) (by rw [(fbn_end (n := n1) (N := (σ 0 0 - 1).toNat) (by omega) (by omega))]; exact hw.symm), congrArg iI (by rw [(fbn_end (n := n1) (N := (σ 0 0 - 1).toNat) (by omega) (by omega))]; exact hc.symm)⟩ dX2_findRises_81
      · skip
        have hen1 := hEn i1 (by omega) (by omega)
        have hen2 := hEn (i1 - 1) (by omega) (by omega)
        have hen3 : σ 0 (10 + (i1 - 1)) = σ 0 (10 + i1 - 1) := congrArg _ (by omega)
        refine lv_iload_n hex hbc dX2_findRises_18 rfl (lv_at hl 1 rfl) ?_
        refine lv_bipush (v := iI 16) hex hbc dX2_findRises_19 (by decide) ?_
        refine zt_icmp_ge (a := cn) (b := 16) (tgt := 80) hex hbc (by omega) dX2_findRises_21 (by decide) (fun c21 => ?_) (fun c21 => ?_)
        · skip
          refine lv_iload_n hex hbc dX2_findRises_80 rfl (lv_at hl 1 rfl) ?_
          exact g_iret hex hbc hrt hlocks hK hP hD hS ⟨congrArg (sc σ 13) (by rw [(fbn_end (n := n1) (N := (σ 0 0 - 1).toNat) (by omega) (by omega))]; exact hw.symm), congrArg iI (by rw [(fbn_end (n := n1) (N := (σ 0 0 - 1).toNat) (by omega) (by omega))]; exact hc.symm)⟩ dX2_findRises_81
        · skip
          refine lv_aload_n hex hbc dX2_findRises_24 rfl (lv_at hl 2 rfl) ?_
          refine va_get (v := .ref (a 4)) hex hbc hts hin2 hown hK hP 3 rfl rfl 2 (by decide) (hts _ (List.mem_of_getElem? (i := 2) rfl)) (fun _ h => h) rfl dX2_findRises_25 ?_
          refine lv_iload hex hbc dX2_findRises_28 (lv_at hl 0 rfl) ?_
          refine g_iald (f := (fun k => (σ 0 (10 + k)))) (v := (σ 0 (10 + i1))) (i := i1) hex hbc hK hP 4 0 rfl rfl (by decide) (by omega) rfl dX2_findRises_30 ?_
          refine lv_aload_n hex hbc dX2_findRises_31 rfl (lv_at hl 2 rfl) ?_
          refine va_get (v := .ref (a 4)) hex hbc hts hin2 hown hK hP 3 rfl rfl 2 (by decide) (hts _ (List.mem_of_getElem? (i := 2) rfl)) (fun _ h => h) rfl dX2_findRises_32 ?_
          refine lv_iload hex hbc dX2_findRises_35 (lv_at hl 0 rfl) ?_
          refine lv_iconst (v := iI 1) hex hbc dX2_findRises_37 rfl ?_
          refine zt_isub hex hbc dX2_findRises_38 ?_
          refine g_iald (f := (fun k => (σ 0 (10 + k)))) (v := (σ 0 (10 + (i1 - 1)))) (i := (i1 - 1)) hex hbc hK hP 4 0 rfl rfl (by decide) (by omega) rfl dX2_findRises_39 ?_
          refine zt_isub hex hbc dX2_findRises_40 ?_
          refine lv_istore (lv' := [(5, .int (iI ((σ 0 (10 + i1)) - (σ 0 (10 + (i1 - 1)))))), (4, .int (iI i1)), (3, .int (iI cn)), (0, .ref (a 3)), (1, .int (iI x)), (2, .ref (a 2))]) hex hbc dX2_findRises_41 hl (by decide) rfl (fun ls hl => ?_)
          refine lv_iload hex hbc dX2_findRises_43 (lv_at hl 0 rfl) ?_
          refine lv_iload_n hex hbc dX2_findRises_45 rfl (lv_at hl 4 rfl) ?_
          refine zt_icmp_lt (a := ((σ 0 (10 + i1)) - (σ 0 (10 + (i1 - 1))))) (b := x) (tgt := 74) hex hbc (by omega) dX2_findRises_46 (by decide) (fun c46 => ?_) (fun c46 => ?_)
          · skip
            refine lv_iinc (v := iI (i1 + 1)) (lv' := [(4, .int (iI (i1 + 1))), (5, .int (iI ((σ 0 (10 + i1)) - (σ 0 (10 + (i1 - 1)))))), (3, .int (iI cn)), (0, .ref (a 3)), (1, .int (iI x)), (2, .ref (a 2))]) hex hbc dX2_findRises_74 hl (k := 1) rfl (iI_add _ _) (by decide) rfl (fun ls hl => ?_)
            refine lv_goto (tgt := 9) hex hbc dX2_findRises_77 (by decide) ?_
            exact ih_9 (n1 + 1) (i1 + 1) cn w1 ⟨by omega, by omega, by omega, by rw [fbn_n (by omega)]; exact hc, by rw [fbn_n (by omega)]; exact hw⟩ (by omega) _ _ _ hP hD hS (lv_sub hl [0, 2, 3, 4, 5] rfl)
          · skip
            refine lv_iload hex hbc dX2_findRises_49 (lv_at hl 1 rfl) ?_
            refine lv_aload_n hex hbc dX2_findRises_51 rfl (lv_at hl 5 rfl) ?_
            refine lv_iload_n hex hbc dX2_findRises_52 rfl (lv_at hl 2 rfl) ?_
            refine lv_iconst (v := iI 1) hex hbc dX2_findRises_53 rfl ?_
            refine zt_isub hex hbc dX2_findRises_54 ?_
            refine g_iald (f := w1) (v := (w1 (cn - 1))) (i := (cn - 1)) hex hbc hK hP 2 0 rfl rfl (by decide) (by omega) rfl dX2_findRises_55 ?_
            refine zt_isub hex hbc dX2_findRises_56 ?_
            refine lv_aload_n hex hbc dX2_findRises_57 rfl (lv_at hl 3 rfl) ?_
            refine va_get (v := .ref (a 5)) hex hbc hts hin2 hown hK hP 3 rfl rfl 3 (by decide) (hts _ (List.mem_of_getElem? (i := 3) rfl)) (fun _ h => h) rfl dX2_findRises_58 ?_
            refine lv_iconst (v := iI 2) hex hbc dX2_findRises_61 rfl ?_
            refine g_iald (f := (fun k => (σ 0 (1 + k)))) (v := (σ 0 3)) (i := 2) hex hbc hK hP 5 0 rfl rfl (by decide) (by omega) rfl dX2_findRises_62 ?_
            refine zt_icmp_lt (a := (i1 - (w1 (cn - 1)))) (b := (σ 0 3)) (tgt := 74) hex hbc (by omega) dX2_findRises_63 (by decide) (fun c63 => ?_) (fun c63 => ?_)
            · skip
              refine lv_iinc (v := iI (i1 + 1)) (lv' := [(4, .int (iI (i1 + 1))), (5, .int (iI ((σ 0 (10 + i1)) - (σ 0 (10 + (i1 - 1)))))), (3, .int (iI cn)), (0, .ref (a 3)), (1, .int (iI x)), (2, .ref (a 2))]) hex hbc dX2_findRises_74 hl (k := 1) rfl (iI_add _ _) (by decide) rfl (fun ls hl => ?_)
              refine lv_goto (tgt := 9) hex hbc dX2_findRises_77 (by decide) ?_
              exact ih_9 (n1 + 1) (i1 + 1) cn w1 ⟨by omega, by omega, by omega, by rw [fbn_n (by omega)]; exact hc, by rw [fbn_n (by omega)]; exact hw⟩ (by omega) _ _ _ hP hD hS (lv_sub hl [0, 2, 3, 4, 5] rfl)
            · skip
              refine lv_aload_n hex hbc dX2_findRises_66 rfl (lv_at hl 5 rfl) ?_
              refine lv_iload_n hex hbc dX2_findRises_67 rfl (lv_at hl 2 rfl) ?_
              refine lv_iload hex hbc dX2_findRises_68 (lv_at hl 1 rfl) ?_
              have hi_70 : (0 : Int) ≤ cn ∧ cn < (16 : Int) := (by omega)
              refine g_iast (σ := (sc σ 13 w1)) (f := w1) (i := cn) (v := i1) (τ := st (sc σ 13 w1) 13 cn i1) hex hbc hK hP hD hS 2 0 rfl rfl (by decide) hi_70 dX2_findRises_70 (wx_up_2 hi_70) (fun H locs hP hD hS => ?_)
              obtain ⟨f13_70, ef13_70⟩ : ∃ z : Int → Int, z = ups w1 cn i1 := ⟨_, rfl⟩
              have hP : va_P G vwCl (wx cx a (sc σ 13 f13_70)) H := by rw [ef13_70]; exact hP
              have hD : va_D (XA a) (wx cx a (sc σ 13 f13_70)) := by rw [ef13_70]; exact hD
              refine lv_iinc (v := iI (cn + 1)) (lv' := [(3, .int (iI (cn + 1))), (5, .int (iI ((σ 0 (10 + i1)) - (σ 0 (10 + (i1 - 1)))))), (4, .int (iI i1)), (0, .ref (a 3)), (1, .int (iI x)), (2, .ref (a 2))]) hex hbc dX2_findRises_71 hl (k := 2) rfl (iI_add _ _) (by decide) rfl (fun ls hl => ?_)
              refine lv_iinc (v := iI (i1 + 1)) (lv' := [(4, .int (iI (i1 + 1))), (3, .int (iI (cn + 1))), (5, .int (iI ((σ 0 (10 + i1)) - (σ 0 (10 + (i1 - 1)))))), (0, .ref (a 3)), (1, .int (iI x)), (2, .ref (a 2))]) hex hbc dX2_findRises_74 hl (k := 2) rfl (iI_add _ _) (by decide) rfl (fun ls hl => ?_)
              refine lv_goto (tgt := 9) hex hbc dX2_findRises_77 (by decide) ?_
              exact ih_9 (n1 + 1) (i1 + 1) (cn + 1) f13_70 ⟨by omega, by omega, by omega, by rw [fbn_y (by omega)]; show _ = _ + 1; rw [hc], by rw [fbn_y (by omega), ef13_70]; show ups _ _ _ = ups _ _ _; rw [← hw, ← hc]; exact congrArg (ups w1 cn) (by omega)⟩ (by omega) _ _ _ hP hD hS (lv_sub hl [0, 1, 3, 4, 5] rfl)
  exact loop_9 _ 0 1 1 f13_3 ⟨by omega, by omega, by omega, rfl, ef13_3⟩ (mz_lt _) _ _ _ hP hD hS (lv_sub hl [0, 1, 2, 3, 4] rfl)
