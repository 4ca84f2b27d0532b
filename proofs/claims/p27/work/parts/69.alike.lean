/-! the law: areAlike (rows laid by wip/gen27/m_l3.py) -/
set_option maxHeartbeats 4000000 in
set_option maxRecDepth 100000 in
theorem mL_areAlike (l : Launch) (G : va_G) (cx a b : Nat → Nat) (σ τ : Nat → Int → Int) (hAp : ∀ q, XA a q → ¬ XA b q) (hqb : XQ_ σ τ) (hI : Inv (σ 0)) : Met l yL_areAlike wsL_areAlike ({ frames := 7, cells := 0, slots := 0, locals := 172 }) (va_Pc [.ref (a 0), .ref (b 0)] (Pp G cx a b σ τ)) (va_Qi (fun r (_ : Unit) => iI 1 = r) (fun _ _ => True) (PA a b)) 0 0 (PA a b) := by
  refine Met.ofW (cc := cL_areAlike) (maxL := 5) (ret := some .boolean) (by decide) rfl ?_
  intro p e s m args below meth c s₁ B hml hv
  obtain ⟨rfl, hL, hK⟩ := hv
  have hex := B.exec
  have hbc := B.bytes
  have hrt := B.returns
  have hts := atoms_spec (ws := wsL_areAlike) B.pre
  have hown : s.vm.findClass RL = some m.cls := findClass_of_methodNamed B.named
  have hlocks := B.notSynchronized
  have hq : XQ_ σ σ := XQ_rf
  have hA : Ap a b (PA a b) := ⟨fun _ h => Or.inl h, fun _ h => Or.inr h, hAp⟩
  have hS : va_S (PA a b) s.heap s.heap [] := va_S.rf
  have hl := lv_entry ([.ref (a 0), .ref (b 0)]) (n := 5) (Nat.le_of_ble_eq_true rfl)
  rw [lg_entry_eq]
  generalize (lg_sl ([.ref (a 0), .ref (b 0)]) ++ List.replicate (5 - (lg_sl ([.ref (a 0), .ref (b 0)])).length) Slot.unset).toArray = ls at hl ⊢
  have hl : lv_has ls 5 [(0, .ref (a 0)), (1, .ref (b 0))] := hl
  obtain ⟨hB, -⟩ := id hI
  refine lv_iconst (v := iI 1) hex hbc dL_areAlike_0 rfl ?_
  refine lv_istore_n (lv' := [(2, .int (iI 1)), (0, .ref (a 0)), (1, .ref (b 0))]) hex hbc dL_areAlike_1 rfl hl (by decide) rfl (fun ls hl => ?_)
  refine lv_iconst (v := iI 0) hex hbc dL_areAlike_2 rfl ?_
  refine lv_istore_n (lv' := [(3, .int (iI 0)), (2, .int (iI 1)), (0, .ref (a 0)), (1, .ref (b 0))]) hex hbc dL_areAlike_3 rfl hl (by decide) rfl (fun ls hl => ?_)
  have loop_4 : ∀ (N : Nat) (i1 : Int) (ω4 ψ4 : Nat → Int → Int), (0 ≤ i1 ∧ i1 ≤ 6) → (6 - i1) < (N : Int) → XQ_ σ ω4 → XQ_ σ ψ4 → ∀ (H : Heap) (locs : List Loc) (ls : Array Slot), Lp G cx a b ω4 ψ4 H → va_S (PA a b) s.heap H locs → lv_has ls 5 [(3, .int (iI i1)), (0, .ref (a 0)), (1, .ref (b 0)), (2, .int (iI 1))] → W p l e (headSpec wsL_areAlike ({ frames := 7, cells := 0, slots := 0, locals := 172 })).room s m ([.ref (a 0), .ref (b 0)] : List Value).toArray below meth c H locs 0 0 (MQ below (va_Qi (fun r (_ : Unit) => iI 1 = r) (fun _ _ => True) (PA a b)) ([.ref (a 0), .ref (b 0)] : List Value).toArray s 0 0 (PA a b)) (F0 m 4 ls []) := by
    intro N
    induction N with
    | zero => intro i1 ω4 ψ4 hinv hlt; exfalso; omega
    | succ N ih_4 =>
      intro i1 ω4 ψ4 ⟨hi0, hi1⟩ hlt_4 hq hqb H locs ls hL hS hl
      refine lv_iload_n hex hbc dL_areAlike_4 rfl (lv_at hl 0 rfl) ?_
      refine lv_bipush (v := iI 6) hex hbc dL_areAlike_5 (by decide) ?_
      refine zt_icmp_ge (a := i1) (b := 6) (tgt := 39) hex hbc (by omega) dL_areAlike_7 (by decide) (fun c7 => ?_) (fun c7 => ?_)
      · skip
        refine lv_iconst (v := iI 0) hex hbc dL_areAlike_39 rfl ?_
        refine lv_istore_n (lv' := [(3, .int (iI 0)), (0, .ref (a 0)), (1, .ref (b 0)), (2, .int (iI 1))]) hex hbc dL_areAlike_40 rfl hl (by decide) rfl (fun ls hl => ?_)
        have loop_41 : ∀ (N : Nat) (k1 : Int) (ω41 ψ41 : Nat → Int → Int), (0 ≤ k1 ∧ k1 ≤ σ 0 74) → (16 - k1) < (N : Int) → XQ_ σ ω41 → XQ_ σ ψ41 → ∀ (H : Heap) (locs : List Loc) (ls : Array Slot), Lp G cx a b ω41 ψ41 H → va_S (PA a b) s.heap H locs → lv_has ls 5 [(3, .int (iI k1)), (0, .ref (a 0)), (1, .ref (b 0)), (2, .int (iI 1))] → W p l e (headSpec wsL_areAlike ({ frames := 7, cells := 0, slots := 0, locals := 172 })).room s m ([.ref (a 0), .ref (b 0)] : List Value).toArray below meth c H locs 0 0 (MQ below (va_Qi (fun r (_ : Unit) => iI 1 = r) (fun _ _ => True) (PA a b)) ([.ref (a 0), .ref (b 0)] : List Value).toArray s 0 0 (PA a b)) (F0 m 41 ls []) := by
          intro N
          induction N with
          | zero => intro k1 ω41 ψ41 hinv hlt; exfalso; omega
          | succ N ih_41 =>
            intro k1 ω41 ψ41 ⟨hk0, hk1⟩ hlt_41 hq hqb H locs ls hL hS hl
            refine lv_iload_n hex hbc dL_areAlike_41 rfl (lv_at hl 0 rfl) ?_
            refine lv_aload_n hex hbc dL_areAlike_42 rfl (lv_at hl 1 rfl) ?_
            refine lv_iconst (v := iI 2) hex hbc dL_areAlike_43 rfl ?_
            refine p_callA [.int (iI 2)] ⟨hex, hbc, hml, hown, hts⟩ (mX4_told l G cx a ω41 2 (by omega) (XQ_I hq hI)) (cwV 1 hts gL_areAlike_X4_told rfl rfl rfl (by decide +kernel) ⟨Nat.le_of_ble_eq_true rfl, Nat.le_of_ble_eq_true rfl⟩) hK hL hA hS rfl rfl hl.1 (Nat.le_of_ble_eq_true rfl) dL_areAlike_44 ⟨Nat.zero_le _, Nat.zero_le _⟩ (fun r_44 u_44 H locs hw_44 hL hS => ?_)
            obtain ⟨⟨v_44, hr_44, hv_44⟩, hn_44⟩ := hw_44
            have hv_44 : TD_ (σ 0) (ω41 12 1) (2 : Int) v_44 := Eq.mp (congrArg (fun w => TD_ w (ω41 12 1) (2 : Int) v_44) hq.1) hv_44
            have hv_44 : TD_ (σ 0) (σ 12 1) (2 : Int) v_44 := Eq.mp (congrArg (fun z => TD_ (σ 0) z (2 : Int) v_44) hq.2.2.2.1) hv_44
            have ev_44 : v_44 = (σ 0 74) := TD2 hv_44
            rw [ev_44] at hr_44
            subst hr_44
            have hq := XQ_tr hq hn_44
            refine zt_icmp_ge (a := k1) (b := (σ 0 74)) (tgt := 99) hex hbc (by omega) dL_areAlike_47 (by decide) (fun c47 => ?_) (fun c47 => ?_)
            · skip
              refine lv_iload_n hex hbc dL_areAlike_99 rfl (lv_at hl 3 rfl) ?_
              refine zt_if_eq (a := 1) (tgt := 118) hex hbc (by decide) dL_areAlike_100 (by decide) (fun h => absurd h (by decide)) (fun _ => ?_)
              refine lv_aload_n hex hbc dL_areAlike_103 rfl (lv_at hl 1 rfl) ?_
              refine p_callA [] ⟨hex, hbc, hml, hown, hts⟩ (mX4_leastGrid l G cx a u_44  (XQ_I hq hI)) (cwV 0 hts gL_areAlike_X4_leastGrid rfl rfl rfl (by decide +kernel) ⟨Nat.le_of_ble_eq_true rfl, Nat.le_of_ble_eq_true rfl⟩) hK hL hA hS rfl rfl hl.1 (Nat.le_of_ble_eq_true rfl) dL_areAlike_104 ⟨Nat.zero_le _, Nat.zero_le _⟩ (fun r_104 u_104 H locs hw_104 hL hS => ?_)
              obtain ⟨⟨v_104, hr_104, hv_104⟩, hn_104⟩ := hw_104
              have hv_104 : LG_ (σ 0) v_104 := Eq.mp (congrArg (fun w => LG_ w v_104) hq.1) hv_104
              subst hr_104
              have hq := XQ_tr hq hn_104
              refine lv_aload_n hex hbc dL_areAlike_107 rfl (lv_at hl 2 rfl) ?_
              refine p_callB [] ⟨hex, hbc, hml, hown, hts⟩ (mX4_leastGrid l G cx b ψ41  (XQ_I hqb hI)) (cwV 0 hts gL_areAlike_X4_leastGrid rfl rfl rfl (by decide +kernel) ⟨Nat.le_of_ble_eq_true rfl, Nat.le_of_ble_eq_true rfl⟩) hK hL hA hS rfl rfl hl.1 (Nat.le_of_ble_eq_true rfl) dL_areAlike_108 ⟨Nat.zero_le _, Nat.zero_le _⟩ (fun r_108 u_108 H locs hw_108 hL hS => ?_)
              obtain ⟨⟨v_108, hr_108, hv_108⟩, hn_108⟩ := hw_108
              have hv_108 : LG_ (σ 0) v_108 := Eq.mp (congrArg (fun w => LG_ w v_108) hqb.1) hv_108
              have ev_108 : v_108 = v_104 := LG_uniq hv_108 hv_104
              rw [ev_108] at hr_108
              subst hr_108
              have hqb := XQ_tr hqb hn_108
              refine lv_icmp_ne (tgt := 118) hex hbc dL_areAlike_111 (by decide) (fun h => absurd rfl h) (fun _ => ?_)
              refine lv_iconst (v := iI 1) hex hbc dL_areAlike_114 rfl ?_
              refine lv_goto (tgt := 119) hex hbc dL_areAlike_115 (by decide) ?_
              exact W.zret hex hbc hrt rfl (fun t ht hW => ⟨⟨_, (), rfl, rfl, trivial⟩, hS.F ht⟩) (fun q hq => hS.2.2 q hq) dL_areAlike_119 hlocks
            · skip
              refine lv_iconst (v := iI 0) hex hbc dL_areAlike_50 rfl ?_
              refine lv_istore (lv' := [(4, .int (iI 0)), (3, .int (iI k1)), (0, .ref (a 0)), (1, .ref (b 0)), (2, .int (iI 1))]) hex hbc dL_areAlike_51 hl (by decide) rfl (fun ls hl => ?_)
              have loop_53 : ∀ (N : Nat) (j1 : Int) (ω53 ψ53 : Nat → Int → Int), (0 ≤ j1 ∧ j1 ≤ 8) → (8 - j1) < (N : Int) → XQ_ σ ω53 → XQ_ σ ψ53 → ∀ (H : Heap) (locs : List Loc) (ls : Array Slot), Lp G cx a b ω53 ψ53 H → va_S (PA a b) s.heap H locs → lv_has ls 5 [(4, .int (iI j1)), (3, .int (iI k1)), (0, .ref (a 0)), (1, .ref (b 0)), (2, .int (iI 1))] → W p l e (headSpec wsL_areAlike ({ frames := 7, cells := 0, slots := 0, locals := 172 })).room s m ([.ref (a 0), .ref (b 0)] : List Value).toArray below meth c H locs 0 0 (MQ below (va_Qi (fun r (_ : Unit) => iI 1 = r) (fun _ _ => True) (PA a b)) ([.ref (a 0), .ref (b 0)] : List Value).toArray s 0 0 (PA a b)) (F0 m 53 ls []) := by
                intro N
                induction N with
                | zero => intro j1 ω53 ψ53 hinv hlt; exfalso; omega
                | succ N ih_53 =>
                  intro j1 ω53 ψ53 ⟨hj0, hj1⟩ hlt_53 hq hqb H locs ls hL hS hl
                  refine lv_iload hex hbc dL_areAlike_53 (lv_at hl 0 rfl) ?_
                  refine lv_bipush (v := iI 8) hex hbc dL_areAlike_55 (by decide) ?_
                  refine zt_icmp_ge (a := j1) (b := 8) (tgt := 93) hex hbc (by omega) dL_areAlike_57 (by decide) (fun c57 => ?_) (fun c57 => ?_)
                  · skip
                    refine lv_iinc (v := iI (k1 + 1)) (lv' := [(3, .int (iI (k1 + 1))), (4, .int (iI j1)), (0, .ref (a 0)), (1, .ref (b 0)), (2, .int (iI 1))]) hex hbc dL_areAlike_93 hl (k := 1) rfl (iI_add _ _) (by decide) rfl (fun ls hl => ?_)
                    refine lv_goto (tgt := 41) hex hbc dL_areAlike_96 (by decide) ?_
                    exact ih_41 (k1 + 1) ω53 ψ53 ⟨by omega, by omega⟩ (by omega) hq hqb _ _ _ hL hS (lv_sub hl [0, 2, 3, 4] rfl)
                  · skip
                    refine lv_iload_n hex hbc dL_areAlike_60 rfl (lv_at hl 4 rfl) ?_
                    refine zt_if_eq (a := 1) (tgt := 85) hex hbc (by decide) dL_areAlike_61 (by decide) (fun h => absurd h (by decide)) (fun _ => ?_)
                    refine lv_aload_n hex hbc dL_areAlike_64 rfl (lv_at hl 2 rfl) ?_
                    refine lv_iload_n hex hbc dL_areAlike_65 rfl (lv_at hl 1 rfl) ?_
                    refine lv_iload hex hbc dL_areAlike_66 (lv_at hl 0 rfl) ?_
                    refine p_callA [.int (iI k1), .int (iI j1)] ⟨hex, hbc, hml, hown, hts⟩ (mX4_slice l G cx a ω53 k1 j1 (by omega) (by omega) (XQ_I hq hI)) (cwV 2 hts gL_areAlike_X4_slice rfl rfl rfl (by decide +kernel) ⟨Nat.le_of_ble_eq_true rfl, Nat.le_of_ble_eq_true rfl⟩) hK hL hA hS rfl rfl hl.1 (Nat.le_of_ble_eq_true rfl) dL_areAlike_68 ⟨Nat.zero_le _, Nat.zero_le _⟩ (fun r_68 u_68 H locs hw_68 hL hS => ?_)
                    obtain ⟨⟨v_68, hr_68, hv_68⟩, hn_68⟩ := hw_68
                    have hv_68 : SL_ (σ 0) k1 j1 v_68 := Eq.mp (congrArg (fun w => SL_ w k1 j1 v_68) hq.1) hv_68
                    subst hr_68
                    have hq := XQ_tr hq hn_68
                    refine lv_aload_n hex hbc dL_areAlike_71 rfl (lv_at hl 3 rfl) ?_
                    refine lv_iload_n hex hbc dL_areAlike_72 rfl (lv_at hl 1 rfl) ?_
                    refine lv_iload hex hbc dL_areAlike_73 (lv_at hl 0 rfl) ?_
                    refine p_callB [.int (iI k1), .int (iI j1)] ⟨hex, hbc, hml, hown, hts⟩ (mX4_slice l G cx b ψ53 k1 j1 (by omega) (by omega) (XQ_I hqb hI)) (cwV 2 hts gL_areAlike_X4_slice rfl rfl rfl (by decide +kernel) ⟨Nat.le_of_ble_eq_true rfl, Nat.le_of_ble_eq_true rfl⟩) hK hL hA hS rfl rfl hl.1 (Nat.le_of_ble_eq_true rfl) dL_areAlike_75 ⟨Nat.zero_le _, Nat.zero_le _⟩ (fun r_75 u_75 H locs hw_75 hL hS => ?_)
                    obtain ⟨⟨v_75, hr_75, hv_75⟩, hn_75⟩ := hw_75
                    have hv_75 : SL_ (σ 0) k1 j1 v_75 := Eq.mp (congrArg (fun w => SL_ w k1 j1 v_75) hqb.1) hv_75
                    have ev_75 : v_75 = v_68 := SL_uniq hv_75 hv_68
                    rw [ev_75] at hr_75
                    subst hr_75
                    have hqb := XQ_tr hqb hn_75
                    refine lv_icmp_ne (tgt := 85) hex hbc dL_areAlike_78 (by decide) (fun h => absurd rfl h) (fun _ => ?_)
                    refine lv_iconst (v := iI 1) hex hbc dL_areAlike_81 rfl ?_
                    refine lv_goto (tgt := 86) hex hbc dL_areAlike_82 (by decide) ?_
                    refine lv_istore_n (lv' := [(2, .int (iI 1)), (4, .int (iI j1)), (3, .int (iI k1)), (0, .ref (a 0)), (1, .ref (b 0))]) hex hbc dL_areAlike_86 rfl hl (by decide) rfl (fun ls hl => ?_)
                    refine lv_iinc (v := iI (j1 + 1)) (lv' := [(4, .int (iI (j1 + 1))), (2, .int (iI 1)), (3, .int (iI k1)), (0, .ref (a 0)), (1, .ref (b 0))]) hex hbc dL_areAlike_87 hl (k := 1) rfl (iI_add _ _) (by decide) rfl (fun ls hl => ?_)
                    refine lv_goto (tgt := 53) hex hbc dL_areAlike_90 (by decide) ?_
                    exact ih_53 (j1 + 1) u_68 u_75 ⟨by omega, by omega⟩ (by omega) hq hqb _ _ _ hL hS (lv_sub hl [0, 2, 3, 4, 1] rfl)
              exact loop_53 _ 0 u_44 ψ41 ⟨by omega, by omega⟩ (mz_lt _) hq hqb _ _ _ hL hS (lv_sub hl [0, 1, 2, 3, 4] rfl)
        exact loop_41 _ 0 ω4 ψ4 ⟨by omega, by omega⟩ (mz_lt _) hq hqb _ _ _ hL hS (lv_sub hl [0, 1, 2, 3] rfl)
      · skip
        refine lv_iload_n hex hbc dL_areAlike_10 rfl (lv_at hl 3 rfl) ?_
        refine zt_if_eq (a := 1) (tgt := 31) hex hbc (by decide) dL_areAlike_11 (by decide) (fun h => absurd h (by decide)) (fun _ => ?_)
        refine lv_aload_n hex hbc dL_areAlike_14 rfl (lv_at hl 1 rfl) ?_
        refine lv_iload_n hex hbc dL_areAlike_15 rfl (lv_at hl 0 rfl) ?_
        refine p_callA [.int (iI i1)] ⟨hex, hbc, hml, hown, hts⟩ (mX4_told l G cx a ω4 i1 (by omega) (XQ_I hq hI)) (cwV 1 hts gL_areAlike_X4_told rfl rfl rfl (by decide +kernel) ⟨Nat.le_of_ble_eq_true rfl, Nat.le_of_ble_eq_true rfl⟩) hK hL hA hS rfl rfl hl.1 (Nat.le_of_ble_eq_true rfl) dL_areAlike_16 ⟨Nat.zero_le _, Nat.zero_le _⟩ (fun r_16 u_16 H locs hw_16 hL hS => ?_)
        obtain ⟨⟨v_16, hr_16, hv_16⟩, hn_16⟩ := hw_16
        have hv_16 : TD_ (σ 0) (ω4 12 1) i1 v_16 := Eq.mp (congrArg (fun w => TD_ w (ω4 12 1) i1 v_16) hq.1) hv_16
        have hv_16 : TD_ (σ 0) (σ 12 1) i1 v_16 := Eq.mp (congrArg (fun z => TD_ (σ 0) z i1 v_16) hq.2.2.2.1) hv_16
        subst hr_16
        have hq := XQ_tr hq hn_16
        refine lv_aload_n hex hbc dL_areAlike_19 rfl (lv_at hl 2 rfl) ?_
        refine lv_iload_n hex hbc dL_areAlike_20 rfl (lv_at hl 0 rfl) ?_
        refine p_callB [.int (iI i1)] ⟨hex, hbc, hml, hown, hts⟩ (mX4_told l G cx b ψ4 i1 (by omega) (XQ_I hqb hI)) (cwV 1 hts gL_areAlike_X4_told rfl rfl rfl (by decide +kernel) ⟨Nat.le_of_ble_eq_true rfl, Nat.le_of_ble_eq_true rfl⟩) hK hL hA hS rfl rfl hl.1 (Nat.le_of_ble_eq_true rfl) dL_areAlike_21 ⟨Nat.zero_le _, Nat.zero_le _⟩ (fun r_21 u_21 H locs hw_21 hL hS => ?_)
        obtain ⟨⟨v_21, hr_21, hv_21⟩, hn_21⟩ := hw_21
        have hv_21 : TD_ (σ 0) (ψ4 12 1) i1 v_21 := Eq.mp (congrArg (fun w => TD_ w (ψ4 12 1) i1 v_21) hqb.1) hv_21
        have hv_21 : TD_ (σ 0) (σ 12 1) i1 v_21 := Eq.mp (congrArg (fun z => TD_ (σ 0) z i1 v_21) hqb.2.2.2.1) hv_21
        have ev_21 : v_21 = v_16 := TD_uniq hv_21 hv_16
        rw [ev_21] at hr_21
        subst hr_21
        have hqb := XQ_tr hqb hn_21
        refine lv_icmp_ne (tgt := 31) hex hbc dL_areAlike_24 (by decide) (fun h => absurd rfl h) (fun _ => ?_)
        refine lv_iconst (v := iI 1) hex hbc dL_areAlike_27 rfl ?_
        refine lv_goto (tgt := 32) hex hbc dL_areAlike_28 (by decide) ?_
        refine lv_istore_n (lv' := [(2, .int (iI 1)), (3, .int (iI i1)), (0, .ref (a 0)), (1, .ref (b 0))]) hex hbc dL_areAlike_32 rfl hl (by decide) rfl (fun ls hl => ?_)
        refine lv_iinc (v := iI (i1 + 1)) (lv' := [(3, .int (iI (i1 + 1))), (2, .int (iI 1)), (0, .ref (a 0)), (1, .ref (b 0))]) hex hbc dL_areAlike_33 hl (k := 1) rfl (iI_add _ _) (by decide) rfl (fun ls hl => ?_)
        refine lv_goto (tgt := 4) hex hbc dL_areAlike_36 (by decide) ?_
        exact ih_4 (i1 + 1) u_16 u_21 ⟨by omega, by omega⟩ (by omega) hq hqb _ _ _ hL hS (lv_sub hl [0, 2, 3, 1] rfl)
  exact loop_4 _ 0 σ τ ⟨by omega, by omega⟩ (mz_lt _) hq hqb _ _ _ hL hS (lv_sub hl [0, 2, 3, 1] rfl)
