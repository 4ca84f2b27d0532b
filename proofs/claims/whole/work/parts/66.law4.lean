theorem ofNat_iI {n : Nat} (h : n < 2147483648) : Int32.ofNat n = iI (n : Int) := by
  apply Int32.toInt_inj.mp
  rw [iI_toInt (by omega), Int32.toInt_ofNat_of_lt (by omega)]
/-! the law: its loop (wip/gen/law.py) -/
set_option maxHeartbeats 4000000 in
set_option maxRecDepth 20000 in
theorem law_loop {p : Program} {l : Launch} {e : Env} {s : State} {m : MethodId} {below : List Frame} {meth : Method} {c : Code} {cells slots : Nat} {Q : State → Prop} {bs L tl th : Nat} {xs : Nat → Int32} {G : va_G} {cx a b : Nat → Nat} (C : LC p s m c bs L xs G cx a b tl th) (hcs : cells ≤ room_1.cells ∧ slots ≤ room_1.slots) (kk : ∀ (H : Heap) (locs : List Loc) (ls : Array Slot), va_S (fun q => s.heap.size ≤ q) s.heap H locs → W p l e room_1 s m #[Value.ref bs] below meth c H locs cells slots Q (F0 m 752 ls [])) : ∀ (N : Nat) (i : Int) (σ τ : Nat → Int → Int) (H : Heap) (locs : List Loc) (ls : Array Slot), 0 ≤ i → (L : Int) + 4 - i < (N : Int) → Rel (Nx σ) τ → Lw G cx a b σ τ H → va_S (fun q => s.heap.size ≤ q) s.heap H locs → lv_has ls 8 [(0, .ref bs), (1, .ref (a 0)), (2, .ref (b 0)), (3, .int (iI i))] → i ≤ (L : Int) + 3 → W p l e room_1 s m #[Value.ref bs] below meth c H locs cells slots Q (F0 m 18 ls []) := by
  intro N
  induction N with
  | zero => intro i σ τ H locs ls h0 h1 _ _ _ _ h2; exfalso; omega
  | succ N ih =>
    intro i σ τ H locs ls h0 h1 hR hL hS hl h2
    obtain ⟨hex, hbc, hml, hown, hts, hX, hbl, hL8, hK, hA, h4⟩ := id C
    have hbA : ¬ (fun q => s.heap.size ≤ q) bs := show ¬ (s.heap.size ≤ bs) by omega
    refine lv_iload_n hex hbc dL_law_18 rfl (lv_at hl 3 rfl) ?_
    refine lv_aload_n hex hbc dL_law_19 rfl (lv_at hl 0 rfl) ?_
    refine va_slen hex hbc hX hbl hbA hS dL_law_20 ?_
    refine zt_raw (b := (L : Int)) (ofNat_iI (by omega)) ?_
    refine lv_iconst (v := iI 4) hex hbc dL_law_21 rfl ?_
    refine zt_isub hex hbc dL_law_22 ?_
    refine zt_icmp_gt (a := i) (b := (L : Int) - 4) (tgt := 752) hex hbc (by omega) dL_law_23 (by decide) (fun cg => ?_) (fun cg => ?_)
    · exact kk H locs ls hS
    · have k746 : ∀ (u t : Nat → Int → Int) (H : Heap) (locs : List Loc) (ls : Array Slot), Rel (Nx u) t → Lw G cx a b u t H → va_S (fun q => s.heap.size ≤ q) s.heap H locs → lv_has ls 8 [(0, .ref bs), (1, .ref (a 0)), (2, .ref (b 0)), (3, .int (iI i))] → W p l e room_1 s m #[Value.ref bs] below meth c H locs cells slots Q (F0 m 746 ls []) := fun u t H locs ls hR hL hS hl => by
        refine lv_iinc (v := iI (i + 4)) (lv' := [(3, .int (iI (i + 4))), (0, .ref bs), (1, .ref (a 0)), (2, .ref (b 0))]) hex hbc dL_law_746 hl (k := 3) rfl (iI_add _ _) (by decide) rfl (fun ls hl => ?_)
        refine lv_goto (tgt := 18) hex hbc dL_law_749 (by decide) ?_
        exact ih (i + 4) u t H locs ls (by omega) (by omega) hR hL hS (lv_sub hl [1, 2, 3, 0] rfl) (by omega)
      refine lv_aload_n hex hbc dL_law_26 rfl (lv_at hl 0 rfl) ?_
      refine lv_iload_n hex hbc dL_law_27 rfl (lv_at hl 3 rfl) ?_
      refine l_sld (z := i) hex hbc hX hbl hS (by omega) hL8 dL_law_28 ?_
      refine lv_bipush (v := iI 31) hex hbc dL_law_29 (by decide) ?_
      refine lv_iand hex hbc dL_law_31 ?_
      obtain ⟨v, hv, hvr⟩ : ∃ v : Int, (iI (scv xs i) &&& iI 31) = iI v ∧ (-2147483648 ≤ v ∧ v < 2147483648) := ⟨_, (iI_of _).symm, iI_rng _⟩
      refine zt_raw (b := v) hv ?_
      by_cases co : v < 0 ∨ 23 < v
      · refine lv_tableOut (tgt := 746) hex hbc dL_law_32 (by rw [iI_toInt hvr]; exact co) (by decide) ?_
        exact k746 σ τ H locs ls hR hL hS hl
      · by_cases c0 : v = 0
        · refine zt_nm (a := v) (b := 0) c0 ?_
          refine lv_tableIn (off := 112) (tgt := 144) hex hbc dL_law_32 (by decide) (by decide) rfl (by decide) ?_
          exact law_begin C hcs ⟨h0, by omega⟩ hR hL hS hl k746
        by_cases c1 : v = 1
        · refine zt_nm (a := v) (b := 1) c1 ?_
          refine lv_tableIn (off := 135) (tgt := 167) hex hbc dL_law_32 (by decide) (by decide) rfl (by decide) ?_
          exact law_sound C hcs ⟨h0, by omega⟩ hR hL hS hl k746
        by_cases c2 : v = 2
        · refine zt_nm (a := v) (b := 2) c2 ?_
          refine lv_tableIn (off := 178) (tgt := 210) hex hbc dL_law_32 (by decide) (by decide) rfl (by decide) ?_
          exact law_set C hcs ⟨h0, by omega⟩ hR hL hS hl k746
        by_cases c3 : v = 3
        · refine zt_nm (a := v) (b := 3) c3 ?_
          refine lv_tableIn (off := 211) (tgt := 243) hex hbc dL_law_32 (by decide) (by decide) rfl (by decide) ?_
          exact law_find C hcs ⟨h0, by omega⟩ hR hL hS hl k746
        by_cases c4 : v = 4
        · refine zt_nm (a := v) (b := 4) c4 ?_
          refine lv_tableIn (off := 224) (tgt := 256) hex hbc dL_law_32 (by decide) (by decide) rfl (by decide) ?_
          exact law_mark C hcs ⟨h0, by omega⟩ hR hL hS hl k746
        by_cases c5 : v = 5
        · refine zt_nm (a := v) (b := 5) c5 ?_
          refine lv_tableIn (off := 247) (tgt := 279) hex hbc dL_law_32 (by decide) (by decide) rfl (by decide) ?_
          exact law_unmark C hcs ⟨h0, by omega⟩ hR hL hS hl k746
        by_cases c6 : v = 6
        · refine zt_nm (a := v) (b := 6) c6 ?_
          refine lv_tableIn (off := 270) (tgt := 302) hex hbc dL_law_32 (by decide) (by decide) rfl (by decide) ?_
          exact law_moveMark C hcs ⟨h0, by omega⟩ hR hL hS hl k746
        by_cases c7 : v = 7
        · refine zt_nm (a := v) (b := 7) c7 ?_
          refine lv_tableIn (off := 303) (tgt := 335) hex hbc dL_law_32 (by decide) (by decide) rfl (by decide) ?_
          exact law_swap C hcs ⟨h0, by omega⟩ hR hL hS hl k746
        by_cases c8 : v = 8
        · refine zt_nm (a := v) (b := 8) c8 ?_
          refine lv_tableIn (off := 336) (tgt := 368) hex hbc dL_law_32 (by decide) (by decide) rfl (by decide) ?_
          exact law_reverse C hcs ⟨h0, by omega⟩ hR hL hS hl k746
        by_cases c9 : v = 9
        · refine zt_nm (a := v) (b := 9) c9 ?_
          refine lv_tableIn (off := 349) (tgt := 381) hex hbc dL_law_32 (by decide) (by decide) rfl (by decide) ?_
          exact law_undo C hcs ⟨h0, by omega⟩ hR hL hS hl k746
        by_cases c10 : v = 10
        · refine zt_nm (a := v) (b := 10) c10 ?_
          refine lv_tableIn (off := 362) (tgt := 394) hex hbc dL_law_32 (by decide) (by decide) rfl (by decide) ?_
          exact law_told C hcs ⟨h0, by omega⟩ hR hL hS hl k746
        by_cases c11 : v = 11
        · refine zt_nm (a := v) (b := 11) c11 ?_
          refine lv_tableIn (off := 385) (tgt := 417) hex hbc dL_law_32 (by decide) (by decide) rfl (by decide) ?_
          exact law_setting C hcs ⟨h0, by omega⟩ hR hL hS hl k746
        by_cases c12 : v = 12
        · refine zt_nm (a := v) (b := 12) c12 ?_
          refine lv_tableIn (off := 408) (tgt := 440) hex hbc dL_law_32 (by decide) (by decide) rfl (by decide) ?_
          exact law_energy C hcs ⟨h0, by omega⟩ hR hL hS hl k746
        by_cases c13 : v = 13
        · refine zt_nm (a := v) (b := 13) c13 ?_
          refine lv_tableIn (off := 431) (tgt := 463) hex hbc dL_law_32 (by decide) (by decide) rfl (by decide) ?_
          exact law_slice C hcs ⟨h0, by omega⟩ hR hL hS hl k746
        by_cases c14 : v = 14
        · refine zt_nm (a := v) (b := 14) c14 ?_
          refine lv_tableIn (off := 464) (tgt := 496) hex hbc dL_law_32 (by decide) (by decide) rfl (by decide) ?_
          exact law_order C hcs ⟨h0, by omega⟩ hR hL hS hl k746
        by_cases c15 : v = 15
        · refine zt_nm (a := v) (b := 15) c15 ?_
          refine lv_tableIn (off := 487) (tgt := 519) hex hbc dL_law_32 (by decide) (by decide) rfl (by decide) ?_
          exact law_source C hcs ⟨h0, by omega⟩ hR hL hS hl k746
        by_cases c16 : v = 16
        · refine zt_nm (a := v) (b := 16) c16 ?_
          refine lv_tableIn (off := 520) (tgt := 552) hex hbc dL_law_32 (by decide) (by decide) rfl (by decide) ?_
          exact law_warp C hcs ⟨h0, by omega⟩ hR hL hS hl k746
        by_cases c17 : v = 17
        · refine zt_nm (a := v) (b := 17) c17 ?_
          refine lv_tableIn (off := 573) (tgt := 605) hex hbc dL_law_32 (by decide) (by decide) rfl (by decide) ?_
          exact law_shift C hcs ⟨h0, by omega⟩ hR hL hS hl k746
        by_cases c18 : v = 18
        · refine zt_nm (a := v) (b := 18) c18 ?_
          refine lv_tableIn (off := 586) (tgt := 618) hex hbc dL_law_32 (by decide) (by decide) rfl (by decide) ?_
          exact law_leastGrid C hcs ⟨h0, by omega⟩ hR hL hS hl k746
        by_cases c19 : v = 19
        · refine zt_nm (a := v) (b := 19) c19 ?_
          refine lv_tableIn (off := 599) (tgt := 631) hex hbc dL_law_32 (by decide) (by decide) rfl (by decide) ?_
          exact law_nearTarget C hcs ⟨h0, by omega⟩ hR hL hS hl k746
        by_cases c20 : v = 20
        · refine zt_nm (a := v) (b := 20) c20 ?_
          refine lv_tableIn (off := 622) (tgt := 654) hex hbc dL_law_32 (by decide) (by decide) rfl (by decide) ?_
          exact law_marksWith C hcs ⟨h0, by omega⟩ hR hL hS hl k746
        by_cases c21 : v = 21
        · refine zt_nm (a := v) (b := 21) c21 ?_
          refine lv_tableIn (off := 645) (tgt := 677) hex hbc dL_law_32 (by decide) (by decide) rfl (by decide) ?_
          exact law_thresholdFor C hcs ⟨h0, by omega⟩ hR hL hS hl k746
        by_cases c22 : v = 22
        · refine zt_nm (a := v) (b := 22) c22 ?_
          refine lv_tableIn (off := 668) (tgt := 700) hex hbc dL_law_32 (by decide) (by decide) rfl (by decide) ?_
          exact law_keep C hcs ⟨h0, by omega⟩ hR hL hS hl k746
        have c23 : v = 23 := by omega
        refine zt_nm (a := v) (b := 23) c23 ?_
        refine lv_tableIn (off := 691) (tgt := 723) hex hbc dL_law_32 (by decide) (by decide) rfl (by decide) ?_
        exact law_back C hcs ⟨h0, by omega⟩ hR hL hS hl k746
