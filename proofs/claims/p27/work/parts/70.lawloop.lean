/-! the law: its loop (wip/gen27/m_l3.py) -/
def LC (p : Program) (s : State) (m : MethodId) (c : Code) (bs L : Nat) (xs : Nat → Int32) (G : va_G) (cx a b : Nat → Nat) (tl th : Nat) : Prop :=
  p.tables.exec = Jvm.exec ∧ c.code = cL_law ∧ c.maxLocals = 8 ∧ s.vm.findClass RL = some m.cls ∧ (∀ w ∈ wsL_law, w.before #[Value.ref bs] s = true) ∧ va_X bs L xs s s.heap ∧ bs < s.heap.size ∧ L ≤ 260 ∧ va_K G vwCl (tx cx) s ∧ Ap a b (fun q => s.heap.size ≤ q) ∧ st4 (fun q => s.heap.size ≤ q) tl th s
set_option maxHeartbeats 8000000 in
set_option maxRecDepth 100000 in
theorem law_loop {p : Program} {l : Launch} {e : Env} {s : State} {m : MethodId} {below : List Frame} {meth : Method} {c : Code} {cells slots : Nat} {Q : State → Prop} {bs L tl th : Nat} {xs : Nat → Int32} {G : va_G} {cx a b : Nat → Nat} (C : LC p s m c bs L xs G cx a b tl th) (hcs : cells ≤ room_1.cells ∧ slots ≤ room_1.slots) (kk : ∀ (σ τ : Nat → Int → Int) (H : Heap) (locs : List Loc) (ls : Array Slot), Ok σ → XQ_ σ τ → Lp G cx a b σ τ H → va_S (fun q => s.heap.size ≤ q) s.heap H locs → lv_has ls 8 [(1, .ref (a 0)), (2, .ref (b 0))] → W p l e room_1 s m #[Value.ref bs] below meth c H locs cells slots Q (F0 m 163 ls [])) : ∀ (N : Nat) (i : Int) (σ τ : Nat → Int → Int), 0 ≤ i → i ≤ 40 → 40 - i < (N : Int) → Ok σ → XQ_ σ τ → ∀ {H : Heap}, Lp G cx a b σ τ H → ∀ (locs : List Loc) (ls : Array Slot), va_S (fun q => s.heap.size ≤ q) s.heap H locs → lv_has ls 8 [(0, .ref bs), (1, .ref (a 0)), (2, .ref (b 0)), (3, .int (iI i))] → W p l e room_1 s m #[Value.ref bs] below meth c H locs cells slots Q (F0 m 18 ls []) := by
  intro N
  induction N with
  | zero => intro i σ τ h0 h1 h2; exfalso; omega
  | succ N ih =>
    intro i σ τ h0 h1 h2 hO hqb H hL locs ls hS hl
    obtain ⟨hex, hbc, hml, hown, hts, hX, hbl, hL8, hK, hA, h4⟩ := id C
    have hbA : ¬ (fun q => s.heap.size ≤ q) bs := show ¬ (s.heap.size ≤ bs) by omega
    obtain ⟨hI, hHs, hFk⟩ := Ok_use hO
    obtain ⟨hIb, hHsb, hFkb⟩ := Ok_use (Ok_Q hO hqb)
    obtain ⟨hB, -⟩ := id hI
    have hq : XQ_ σ σ := XQ_rf
    refine lv_iload_n hex hbc dL_law_18 rfl (lv_at hl 3 rfl) ?_
    refine lv_bipush (v := iI 40) hex hbc dL_law_19 (by decide) ?_
    refine zt_icmp_ge (a := i) (b := 40) (tgt := 163) hex hbc (by omega) dL_law_21 (by decide) (fun c21 => ?_) (fun c21 => ?_)
    · skip
      exact kk _ _ _ _ _ hO hqb hL hS (lv_sub hl [1, 2] rfl)
    · skip
      refine lv_aload_n hex hbc dL_law_24 rfl (lv_at hl 0 rfl) ?_
      refine lv_iconst (v := iI 2) hex hbc dL_law_25 rfl ?_
      refine lv_iload_n hex hbc dL_law_26 rfl (lv_at hl 3 rfl) ?_
      refine zt_imul hex hbc dL_law_27 ?_
      refine p_cell (k := (2 * i)) ⟨hex, hbc, hml, hown, hts⟩ (mL_cell l bs L xs (2 * i) (by omega) hL8) (va_cwS 2 hts gL_law_L_cell rfl rfl rfl (by decide +kernel) ⟨Nat.le_of_ble_eq_true rfl, Nat.le_of_ble_eq_true rfl⟩) hX hbl hbA hL hS hl.1 (Nat.le_of_ble_eq_true rfl) dL_law_28 hcs (fun r_28 H locs hL hS => ?_)
      refine lv_istore (lv' := [(4, .int r_28), (0, .ref bs), (1, .ref (a 0)), (2, .ref (b 0)), (3, .int (iI i))]) hex hbc dL_law_31 hl (by decide) rfl (fun ls hl => ?_)
      refine lv_aload_n hex hbc dL_law_33 rfl (lv_at hl 1 rfl) ?_
      refine lv_iconst (v := iI 2) hex hbc dL_law_34 rfl ?_
      refine lv_iload_n hex hbc dL_law_35 rfl (lv_at hl 4 rfl) ?_
      refine zt_imul hex hbc dL_law_36 ?_
      refine lv_iconst (v := iI 1) hex hbc dL_law_37 rfl ?_
      refine zt_iadd hex hbc dL_law_38 ?_
      refine p_cell (k := ((2 * i) + 1)) ⟨hex, hbc, hml, hown, hts⟩ (mL_cell l bs L xs ((2 * i) + 1) (by omega) hL8) (va_cwS 2 hts gL_law_L_cell rfl rfl rfl (by decide +kernel) ⟨Nat.le_of_ble_eq_true rfl, Nat.le_of_ble_eq_true rfl⟩) hX hbl hbA hL hS hl.1 (Nat.le_of_ble_eq_true rfl) dL_law_39 hcs (fun r_39 H locs hL hS => ?_)
      refine lv_istore (lv' := [(5, .int r_39), (4, .int r_28), (0, .ref bs), (1, .ref (a 0)), (2, .ref (b 0)), (3, .int (iI i))]) hex hbc dL_law_42 hl (by decide) rfl (fun ls hl => ?_)
      refine lv_aload_n hex hbc dL_law_44 rfl (lv_at hl 3 rfl) ?_
      refine lv_iload hex hbc dL_law_45 (lv_at hl 1 rfl) ?_
      refine lv_iload hex hbc dL_law_47 (lv_at hl 0 rfl) ?_
      refine p_chA [.ref (a 0), .int r_28, .int r_39] ⟨hex, hbc, hml, hown, hts⟩ (mL_change l G cx a σ tl th r_28 r_39 hHs hFk hI) (va_cwS 3 hts gL_law_L_change rfl rfl rfl (by decide +kernel) ⟨Nat.le_of_ble_eq_true rfl, Nat.le_of_ble_eq_true rfl⟩) hK hL hA hS h4 rfl rfl hl.1 (Nat.le_of_ble_eq_true rfl) dL_law_49 hcs (fun r_49 u_49 H locs hw_49 hL hS => ?_)
      refine lv_aload_n hex hbc dL_law_52 rfl (lv_at hl 4 rfl) ?_
      refine lv_iload hex hbc dL_law_53 (lv_at hl 1 rfl) ?_
      refine lv_iload hex hbc dL_law_55 (lv_at hl 0 rfl) ?_
      refine p_chB [.ref (b 0), .int r_28, .int r_39] ⟨hex, hbc, hml, hown, hts⟩ (mL_change l G cx b τ tl th r_28 r_39 hHsb hFkb hIb) (va_cwS 3 hts gL_law_L_change rfl rfl rfl (by decide +kernel) ⟨Nat.le_of_ble_eq_true rfl, Nat.le_of_ble_eq_true rfl⟩) hK hL hA hS h4 rfl rfl hl.1 (Nat.le_of_ble_eq_true rfl) dL_law_57 hcs (fun r_57 u_57 H locs hw_57 hL hS => ?_)
      obtain ⟨s1, e1, d1⟩ := hw_49
      obtain ⟨s2, e2, d2⟩ := hw_57
      rw [hqb.1] at d2
      have hs16 : s1 0 74 ≤ 16 := by rw [e1.1]; omega
      have hd := PN_dt hs16 (XQ_dt hqb e1 e2) _ d1 d2
      have hrr := hd.1
      subst hrr
      have hO := PN_ok (Ok_Q hO e1) _ d1
      have hI := (Ok_use hO).1
      obtain ⟨hB, -⟩ := id hI
      have hq : XQ_ u_49 u_49 := XQ_rf
      have hqb := hd.2
      refine lv_icmp_ne (tgt := 93) hex hbc dL_law_60 (by decide) (fun h => absurd rfl h) (fun _ => ?_)
      refine lv_aload_n hex hbc dL_law_63 rfl (lv_at hl 3 rfl) ?_
      refine p_statA [.ref (a 0)] ⟨hex, hbc, hml, hown, hts⟩ (mL_areSlices l G cx a u_49  (XQ_I hq hI)) (va_cwS 1 hts gL_law_L_areSlices rfl rfl rfl (by decide +kernel) ⟨Nat.le_of_ble_eq_true rfl, Nat.le_of_ble_eq_true rfl⟩) hK hL hA hS rfl rfl hl.1 (Nat.le_of_ble_eq_true rfl) dL_law_64 hcs (fun r_64 u_64 H locs hw_64 hL hS => ?_)
      obtain ⟨hr_64, hn_64⟩ := hw_64
      subst hr_64
      have hq := XQ_tr hq hn_64
      refine zt_if_eq (a := 1) (tgt := 93) hex hbc (by decide) dL_law_67 (by decide) (fun h => absurd h (by decide)) (fun _ => ?_)
      refine lv_aload_n hex hbc dL_law_70 rfl (lv_at hl 3 rfl) ?_
      refine lv_iload hex hbc dL_law_71 (lv_at hl 0 rfl) ?_
      refine p_statA [.ref (a 0), .int r_39] ⟨hex, hbc, hml, hown, hts⟩ (mL_isLaid l G cx a u_64 r_39 (XQ_I hq hI)) (va_cwS 2 hts gL_law_L_isLaid rfl rfl rfl (by decide +kernel) ⟨Nat.le_of_ble_eq_true rfl, Nat.le_of_ble_eq_true rfl⟩) hK hL hA hS rfl rfl hl.1 (Nat.le_of_ble_eq_true rfl) dL_law_73 hcs (fun r_73 u_73 H locs hw_73 hL hS => ?_)
      obtain ⟨hr_73, hn_73⟩ := hw_73
      subst hr_73
      have hq := XQ_tr hq hn_73
      refine zt_if_eq (a := 1) (tgt := 93) hex hbc (by decide) dL_law_76 (by decide) (fun h => absurd h (by decide)) (fun _ => ?_)
      have cut_95 : ∀ (ω95 : Nat → Int → Int), XQ_ u_49 ω95 → ∀ (H : Heap) (locs : List Loc) (ls : Array Slot), Lp G cx a b ω95 u_57 H → va_S (fun q => s.heap.size ≤ q) s.heap H locs → lv_has ls 8 [(0, .ref bs), (1, .ref (a 0)), (2, .ref (b 0)), (3, .int (iI i))] → W p l e room_1 s m #[Value.ref bs] below meth c H locs cells slots Q (F0 m 95 ls []) := by
        intro ω95 hq H locs ls hL hS hl
        have cut_157 : ∀ (ω157 : Nat → Int → Int), XQ_ u_49 ω157 → ∀ (H : Heap) (locs : List Loc) (ls : Array Slot), Lp G cx a b ω157 u_57 H → va_S (fun q => s.heap.size ≤ q) s.heap H locs → lv_has ls 8 [(0, .ref bs), (1, .ref (a 0)), (2, .ref (b 0)), (3, .int (iI i))] → W p l e room_1 s m #[Value.ref bs] below meth c H locs cells slots Q (F0 m 157 ls []) := by
          intro ω157 hq H locs ls hL hS hl
          refine lv_iinc (v := iI (i + 1)) (lv' := [(3, .int (iI (i + 1))), (0, .ref bs), (1, .ref (a 0)), (2, .ref (b 0))]) hex hbc dL_law_157 hl (k := 3) rfl (iI_add _ _) (by decide) rfl (fun ls hl => ?_)
          refine lv_goto (tgt := 18) hex hbc dL_law_160 (by decide) ?_
          exact ih (i + 1) ω157 u_57 (by omega) (by omega) (by omega) (Ok_Q hO hq) (XQ_tr (XQ_sy hq) hqb) hL _ _ hS (lv_sub hl [1, 2, 3, 0] rfl)
        refine lv_iload_n hex hbc dL_law_95 rfl (lv_at hl 3 rfl) ?_
        refine lv_bipush (v := iI 8) hex hbc dL_law_96 (by decide) ?_
        refine zt_irem (a := i) (b := 8) hex hbc (by omega) dL_law_98 ?_
        refine lv_bipush (v := iI 7) hex hbc dL_law_99 (by decide) ?_
        refine zt_icmp_ne (a := (i % 8)) (b := 7) (tgt := 157) hex hbc (by omega) dL_law_101 (by decide) (fun c101 => ?_) (fun c101 => ?_)
        · skip
          exact cut_157 _ hq _ _ _ hL hS (lv_sub hl [0, 1, 2, 3] rfl)
        · skip
          refine lv_aload_n hex hbc dL_law_104 rfl (lv_at hl 1 rfl) ?_
          refine lv_aload_n hex hbc dL_law_105 rfl (lv_at hl 1 rfl) ?_
          refine lv_iconst (v := iI 1) hex hbc dL_law_106 rfl ?_
          refine p_callA [.int (iI 1)] ⟨hex, hbc, hml, hown, hts⟩ (mX4_setting l G cx a ω95 1 (by omega) (XQ_I hq hI)) (cwV 1 hts gL_law_X4_setting rfl rfl rfl (by decide +kernel) ⟨Nat.le_of_ble_eq_true rfl, Nat.le_of_ble_eq_true rfl⟩) hK hL hA hS rfl rfl hl.1 (Nat.le_of_ble_eq_true rfl) dL_law_107 hcs (fun r_107 u_107 H locs hw_107 hL hS => ?_)
          obtain ⟨hr_107, hs_107, hn_107⟩ := hw_107
          have hr_107 : iI ((u_49 0) (1 + (1 : Int))) = r_107 := Eq.mp (congrArg (fun w => (0 ≤ (1 : Int) ∧ (1 : Int) ≤ 8) → iI (w (1 + (1 : Int))) = r_107) hq.1) hr_107 (by omega)
          subst hr_107
          refine zt_nm (a := (u_49 0) (1 + (1 : Int))) (b := (u_49 0 2)) rfl ?_
          have hq := XQ_tr hq hn_107
          have hfn := fnd_16 (u_49 0) (u_49 0 2)
          refine p_callA [.int (iI (u_49 0 2))] ⟨hex, hbc, hml, hown, hts⟩ (mX4_marksWith l G cx a u_107 (u_49 0 2) (by omega) (XQ_I hq hI)) (cwV 1 hts gL_law_X4_marksWith rfl rfl rfl (by decide +kernel) ⟨Nat.le_of_ble_eq_true rfl, Nat.le_of_ble_eq_true rfl⟩) hK hL hA hS rfl rfl hl.1 (Nat.le_of_ble_eq_true rfl) dL_law_110 hcs (fun r_110 u_110 H locs hw_110 hL hS => ?_)
          obtain ⟨hr_110, hs_110, hn_110⟩ := hw_110
          have hr_110 : iI (fnd (u_49 0) (u_49 0 2)) = r_110 := Eq.mp (congrArg (fun w => (1 ≤ (u_49 0 2) ∧ (u_49 0 2) ≤ 999) → iI (fnd w (u_49 0 2)) = r_110) hq.1) hr_110 (by omega)
          subst hr_110
          have hq := XQ_tr hq hn_110
          refine lv_istore (lv' := [(6, .int (iI (fnd (u_49 0) (u_49 0 2)))), (0, .ref bs), (1, .ref (a 0)), (2, .ref (b 0)), (3, .int (iI i))]) hex hbc dL_law_113 hl (by decide) rfl (fun ls hl => ?_)
          refine lv_aload_n hex hbc dL_law_115 rfl (lv_at hl 2 rfl) ?_
          refine lv_iload hex hbc dL_law_116 (lv_at hl 0 rfl) ?_
          refine p_callA [.int (iI (fnd (u_49 0) (u_49 0 2)))] ⟨hex, hbc, hml, hown, hts⟩ (mX4_thresholdFor l G cx a u_110 (fnd (u_49 0) (u_49 0 2)) (by omega) (XQ_I hq hI)) (cwV 1 hts gL_law_X4_thresholdFor rfl rfl rfl (by decide +kernel) ⟨Nat.le_of_ble_eq_true rfl, Nat.le_of_ble_eq_true rfl⟩) hK hL hA hS rfl rfl hl.1 (Nat.le_of_ble_eq_true rfl) dL_law_118 hcs (fun r_118 u_118 H locs hw_118 hL hS => ?_)
          obtain ⟨hs_118, hr_118, hn_118⟩ := hw_118
          obtain ⟨v_118, hr_118, hv_118⟩ := hr_118 (by omega)
          have hv_118 : TF_ (u_49 0) (fnd (u_49 0) (u_49 0 2)) v_118 := Eq.mp (congrArg (fun w => TF_ w (fnd (u_49 0) (u_49 0 2)) v_118) hq.1) hv_118
          subst hr_118
          have hq := XQ_tr hq hn_118
          have htf := TF_at hv_118 (t := u_49 0 2) (by omega) (Int.le_refl _)
          refine lv_istore (lv' := [(7, .int (iI v_118)), (6, .int (iI (fnd (u_49 0) (u_49 0 2)))), (0, .ref bs), (1, .ref (a 0)), (2, .ref (b 0)), (3, .int (iI i))]) hex hbc dL_law_121 hl (by decide) rfl (fun ls hl => ?_)
          refine lv_iload hex hbc dL_law_123 (lv_at hl 0 rfl) ?_
          refine lv_aload_n hex hbc dL_law_125 rfl (lv_at hl 3 rfl) ?_
          refine lv_iconst (v := iI 1) hex hbc dL_law_126 rfl ?_
          refine p_callA [.int (iI 1)] ⟨hex, hbc, hml, hown, hts⟩ (mX4_setting l G cx a u_118 1 (by omega) (XQ_I hq hI)) (cwV 1 hts gL_law_X4_setting rfl rfl rfl (by decide +kernel) ⟨Nat.le_of_ble_eq_true rfl, Nat.le_of_ble_eq_true rfl⟩) hK hL hA hS rfl rfl hl.1 (Nat.le_of_ble_eq_true rfl) dL_law_127 hcs (fun r_127 u_127 H locs hw_127 hL hS => ?_)
          obtain ⟨hr_127, hs_127, hn_127⟩ := hw_127
          have hr_127 : iI ((u_49 0) (1 + (1 : Int))) = r_127 := Eq.mp (congrArg (fun w => (0 ≤ (1 : Int) ∧ (1 : Int) ≤ 8) → iI (w (1 + (1 : Int))) = r_127) hq.1) hr_127 (by omega)
          subst hr_127
          refine zt_nm (a := (u_49 0) (1 + (1 : Int))) (b := (u_49 0 2)) rfl ?_
          have hq := XQ_tr hq hn_127
          refine zt_icmp_lt (a := v_118) (b := (u_49 0 2)) (tgt := 155) hex hbc (by omega) dL_law_130 (by decide) (fun c130 => ?_) (fun c130 => ?_)
          · skip
            exfalso; omega
          · skip
            refine lv_aload_n hex hbc dL_law_133 rfl (lv_at hl 3 rfl) ?_
            refine lv_iload hex hbc dL_law_134 (lv_at hl 0 rfl) ?_
            refine p_callA [.int (iI v_118)] ⟨hex, hbc, hml, hown, hts⟩ (mX4_marksWith l G cx a u_127 v_118 (by omega) (XQ_I hq hI)) (cwV 1 hts gL_law_X4_marksWith rfl rfl rfl (by decide +kernel) ⟨Nat.le_of_ble_eq_true rfl, Nat.le_of_ble_eq_true rfl⟩) hK hL hA hS rfl rfl hl.1 (Nat.le_of_ble_eq_true rfl) dL_law_136 hcs (fun r_136 u_136 H locs hw_136 hL hS => ?_)
            obtain ⟨hr_136, hs_136, hn_136⟩ := hw_136
            have hr_136 : iI (fnd (u_49 0) v_118) = r_136 := Eq.mp (congrArg (fun w => (1 ≤ v_118 ∧ v_118 ≤ 999) → iI (fnd w v_118) = r_136) hq.1) hr_136 (by omega)
            subst hr_136
            have hq := XQ_tr hq hn_136
            have hfm := fnd_16 (u_49 0) v_118
            refine lv_iload hex hbc dL_law_139 (lv_at hl 1 rfl) ?_
            refine zt_icmp_lt (a := (fnd (u_49 0) v_118)) (b := (fnd (u_49 0) (u_49 0 2))) (tgt := 155) hex hbc (by omega) dL_law_141 (by decide) (fun c141 => ?_) (fun c141 => ?_)
            · skip
              exfalso; omega
            · skip
              refine lv_aload_n hex hbc dL_law_144 rfl (lv_at hl 3 rfl) ?_
              refine lv_iconst (v := iI 1) hex hbc dL_law_145 rfl ?_
              refine p_callA [.int (iI 1)] ⟨hex, hbc, hml, hown, hts⟩ (mX4_thresholdFor l G cx a u_136 1 (by omega) (XQ_I hq hI)) (cwV 1 hts gL_law_X4_thresholdFor rfl rfl rfl (by decide +kernel) ⟨Nat.le_of_ble_eq_true rfl, Nat.le_of_ble_eq_true rfl⟩) hK hL hA hS rfl rfl hl.1 (Nat.le_of_ble_eq_true rfl) dL_law_146 hcs (fun r_146 u_146 H locs hw_146 hL hS => ?_)
              obtain ⟨hs_146, hr_146, hn_146⟩ := hw_146
              obtain ⟨v_146, hr_146, hv_146⟩ := hr_146 (by omega)
              have hv_146 : TF_ (u_49 0) (1 : Int) v_146 := Eq.mp (congrArg (fun w => TF_ w (1 : Int) v_146) hq.1) hv_146
              have ev_146 : v_146 = 999 := (by have := TF_at hv_146 (t := 999) (by omega) (fnd_16 (u_49 0) 999).1; omega)
              rw [ev_146] at hr_146
              subst hr_146
              have hq := XQ_tr hq hn_146
              refine lv_sipush (v := iI 999) hex hbc dL_law_149 (by decide) ?_
              refine zt_icmp_eq (a := 999) (b := 999) (tgt := 157) hex hbc (by decide) dL_law_152 (by decide) (fun _ => ?_) (fun h => absurd h (by decide))
              exact cut_157 _ hq _ _ _ hL hS (lv_sub hl [2, 3, 4, 5] rfl)
      refine lv_iload_n hex hbc dL_law_79 rfl (lv_at hl 5 rfl) ?_
      refine lv_iconst (v := iI 4) hex hbc dL_law_80 rfl ?_
      refine zt_irem (a := i) (b := 4) hex hbc (by omega) dL_law_81 ?_
      refine lv_iconst (v := iI 3) hex hbc dL_law_82 rfl ?_
      refine zt_icmp_ne (a := (i % 4)) (b := 3) (tgt := 95) hex hbc (by omega) dL_law_83 (by decide) (fun c83 => ?_) (fun c83 => ?_)
      · skip
        exact cut_95 _ hq _ _ _ hL hS (lv_sub hl [2, 3, 4, 5] rfl)
      · skip
        refine lv_aload_n hex hbc dL_law_86 rfl (lv_at hl 3 rfl) ?_
        refine p_statA [.ref (a 0)] ⟨hex, hbc, hml, hown, hts⟩ (mL_areSteps l G cx a u_73  (XQ_I hq hI)) (va_cwS 1 hts gL_law_L_areSteps rfl rfl rfl (by decide +kernel) ⟨Nat.le_of_ble_eq_true rfl, Nat.le_of_ble_eq_true rfl⟩) hK hL hA hS rfl rfl hl.1 (Nat.le_of_ble_eq_true rfl) dL_law_87 hcs (fun r_87 u_87 H locs hw_87 hL hS => ?_)
        obtain ⟨hr_87, hn_87⟩ := hw_87
        subst hr_87
        have hq := XQ_tr hq hn_87
        refine zt_if_ne (a := 1) (tgt := 95) hex hbc (by decide) dL_law_90 (by decide) (fun _ => ?_) (fun h => absurd h (by decide))
        exact cut_95 _ hq _ _ _ hL hS (lv_sub hl [2, 3, 4, 5] rfl)
