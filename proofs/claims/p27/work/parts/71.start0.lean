/-! what the law's start gives: classes, arrays, the static rows -/
theorem k_start {s : State} {args : Array Value} (hts : ∀ w ∈ lw_tbl, w.before args s = true) : ∃ (G : va_G) (cx : Nat → Nat), va_K G vwCl (tx cx) s := by
  obtain ⟨c0, i0, k0⟩ := u_known (C := RX0) (T := TX0) (N := 8) (n := 8) hts inX0 (hts (.instantiable RX0 8) (by decide +kernel))
  obtain ⟨c1, i1, k1⟩ := u_known (C := RX1) (T := TX1) (N := 3) (n := 3) hts inX1 (hts (.instantiable RX1 3) (by decide +kernel))
  obtain ⟨c2, i2, k2⟩ := u_known (C := RX2) (T := TX2) (N := 6) (n := 6) hts inX2 (hts (.instantiable RX2 6) (by decide +kernel))
  obtain ⟨c3, i3, k3⟩ := u_known (C := RX3) (T := TX3) (N := 4) (n := 4) hts inX3 (hts (.instantiable RX3 4) (by decide +kernel))
  obtain ⟨c4, i4, k4⟩ := u_known (C := RX4) (T := TX4) (N := 7) (n := 7) hts inX4 (hts (.instantiable RX4 7) (by decide +kernel))
  obtain ⟨ca, ka, oa, a1, a2, a3⟩ := Cond.arrayClass_spec (hts (.arrayClass .int) (by decide +kernel))
  obtain ⟨cb, kb, ob, b1, b2, b3⟩ := Cond.arrayClass_spec (hts (.arrayClass .long) (by decide +kernel))
  obtain ⟨cz, kz, oz, z1, z2, z3⟩ := Cond.arrayClass_spec (hts (.arrayClass .boolean) (by decide +kernel))
  obtain ⟨oq, cq, kq, q1, -, q2, q3, q4⟩ := Cond.arrayOver_spec (hts (.arrayOver (.object "LoopSlicer$Loop")) (by decide +kernel))
  refine ⟨(fun k => if k = 0 then c0 else if k = 1 then c1 else if k = 2 then c2 else if k = 3 then c3 else c4, fun k => if k = 0 then i0 else if k = 1 then i1 else if k = 2 then i2 else if k = 3 then i3 else i4), fun k => if k = 0 then ca else if k = 1 then cb else if k = 2 then cz else cq, fun k q hq => ?_, fun k q hq => ?_⟩
  · match k, hq with
    | 0, hq => cases hq; exact k0
    | 1, hq => cases hq; exact k1
    | 2, hq => cases hq; exact k2
    | 3, hq => cases hq; exact k3
    | 4, hq => cases hq; exact k4
    | k + 5, hq => simp [vwCl] at hq
  · match k, hq with
    | 0, hq => cases hq; exact ⟨fun n z => ⟨fun k h => (by cases h), ka, a2, oa, a3⟩, a1⟩
    | 1, hq => cases hq; exact ⟨fun n z => ⟨fun k h => (by cases h), kb, b2, ob, b3⟩, b1⟩
    | 2, hq => cases hq; exact ⟨fun n z => ⟨fun k h => (by cases h), kz, z2, oz, z3⟩, z1⟩
    | 3, hq => cases hq; exact ⟨fun n z => ⟨fun k h => (by cases h), kq, q2, oq, q3⟩, kq, oq, q2, q3, q1, q4⟩
    | k + 4, hq => simp at hq
theorem len_small {args : Array Value} {s : State} {t : Term} {v : Value} {a : Addr} {cell : Cell} (h : (Term.length t).eval args s none [] s = some v) (ht : t.eval args s none [] s = some (.ref a)) (ha : s.arrayAt? a = some cell) : cell.slots.size < 2147483648 := by
  simp only [Term.eval, ht, ha, Option.bind_eq_bind, Option.bind_some] at h
  by_cases hlt : cell.slots.size < 2147483648
  · exact hlt
  · simp [hlt] at h
abbrev tmF : Term := .static "LoopSlicer" "FIRST_VALUES" "[I"
abbrev tmL : Term := .static "LoopSlicer" "LEAST_VALUES" "[I"
abbrev tmG : Term := .static "LoopSlicer" "MOST_VALUES" "[I"
theorem nine {P : Nat → Prop} (h0 : P 0) (h1 : P 1) (h2 : P 2) (h3 : P 3) (h4 : P 4) (h5 : P 5) (h6 : P 6) (h7 : P 7) (h8 : P 8) : ∀ j : Nat, j < 9 → P j := fun j hj => by
  rcases (show j = 0 ∨ j = 1 ∨ j = 2 ∨ j = 3 ∨ j = 4 ∨ j = 5 ∨ j = 6 ∨ j = 7 ∨ j = 8 by omega) with rfl | rfl | rfl | rfl | rfl | rfl | rfl | rfl | rfl <;> assumption
theorem st_start {s : State} {args : Array Value} (hts : ∀ w ∈ lw_tbl, w.before args s = true) (hgv : (Jvm.Cond.and given_1 narrow_1).before args s = true) : ∃ tl th : Nat, st4 (fun q => s.heap.size ≤ q) tl th s := by
  have hs := flat_of_before _ hgv
  have hA : ∀ a : Nat, a < s.heap.size → ¬ (fun q => s.heap.size ≤ q) a := fun a ha => Nat.not_le.mpr ha
  obtain ⟨tl, l1, l2⟩ := va_Tof (tm := tmL) (N := 9) (f := sL lowS) (by decide) (hs (.arrayOf tmL .int) (by decide +kernel)) (va_eqt (hs (.eq (.length tmL) (.int 9)) (by decide +kernel))) (nine (va_eqt (hs (.eq (.elem tmL (.int 0)) (.int 1)) (by decide +kernel))) (va_eqt (hs (.eq (.elem tmL (.int 1)) (.int 1)) (by decide +kernel))) (va_eqt (hs (.eq (.elem tmL (.int 2)) (.int 1)) (by decide +kernel))) (va_eqt (hs (.eq (.elem tmL (.int 3)) (.int 10)) (by decide +kernel))) (va_eqt (hs (.eq (.elem tmL (.int 4)) (.int 100)) (by decide +kernel))) (va_eqt (hs (.eq (.elem tmL (.int 5)) (.int 1)) (by decide +kernel))) (va_eqt (hs (.eq (.elem tmL (.int 6)) (.int 1)) (by decide +kernel))) (va_eqt (hs (.eq (.elem tmL (.int 7)) (.int 0)) (by decide +kernel))) (va_eqt (hs (.eq (.elem tmL (.int 8)) (.int 0)) (by decide +kernel)))) hA
  obtain ⟨th, g1, g2⟩ := va_Tof (tm := tmG) (N := 9) (f := sL highS) (by decide) (hs (.arrayOf tmG .int) (by decide +kernel)) (va_eqt (hs (.eq (.length tmG) (.int 9)) (by decide +kernel))) (nine (va_eqt (hs (.eq (.elem tmG (.int 0)) (.int 1000)) (by decide +kernel))) (va_eqt (hs (.eq (.elem tmG (.int 1)) (.int 999)) (by decide +kernel))) (va_eqt (hs (.eq (.elem tmG (.int 2)) (.int 16)) (by decide +kernel))) (va_eqt (hs (.eq (.elem tmG (.int 3)) (.int 100)) (by decide +kernel))) (va_eqt (hs (.eq (.elem tmG (.int 4)) (.int 1000)) (by decide +kernel))) (va_eqt (hs (.eq (.elem tmG (.int 5)) (.int 200000)) (by decide +kernel))) (va_eqt (hs (.eq (.elem tmG (.int 6)) (.int 32)) (by decide +kernel))) (va_eqt (hs (.eq (.elem tmG (.int 7)) (.int 1)) (by decide +kernel))) (va_eqt (hs (.eq (.elem tmG (.int 8)) (.int 500)) (by decide +kernel)))) hA
  exact ⟨tl, th, va_Zof (hts (.laysStatic "LoopSlicer" "LEAST_VALUES" "[I") (by decide +kernel)) (hts (.initialized "LoopSlicer") (by decide +kernel)) l1 hA, l2, va_Zof (hts (.laysStatic "LoopSlicer" "MOST_VALUES" "[I") (by decide +kernel)) (hts (.initialized "LoopSlicer") (by decide +kernel)) g1 hA, g2⟩
theorem fv_start {s : State} {args : Array Value} {G : va_G} {cx : Nat → Nat} (hts : ∀ w ∈ lw_tbl, w.before args s = true) (hgv : (Jvm.Cond.and given_1 narrow_1).before args s = true) (hK : va_K G vwCl (tx cx) s) : ∃ rw : Nat, FV cx rw (fun q => s.heap.size ≤ q) s := by
  have hs := flat_of_before _ hgv
  have hA : ∀ a : Nat, a < s.heap.size → ¬ (fun q => s.heap.size ≤ q) a := fun a ha => Nat.not_le.mpr ha
  have hlen : (Term.length tmF).eval args s none [] s = some (.int 9) := va_eqt (hs (.eq (.length tmF) (.int 9)) (by decide +kernel))
  obtain ⟨rw, l1, l2⟩ := va_Tof (tm := tmF) (N := 9) (f := fun j => .int (aI fvS j)) (by decide) (hs (.arrayOf tmF .int) (by decide +kernel)) hlen (nine (va_eqt (hs (.eq (.elem tmF (.int 0)) (.int 100)) (by decide +kernel))) (va_eqt (hs (.eq (.elem tmF (.int 1)) (.int 100)) (by decide +kernel))) (va_eqt (hs (.eq (.elem tmF (.int 2)) (.int 2)) (by decide +kernel))) (va_eqt (hs (.eq (.elem tmF (.int 3)) (.int 50)) (by decide +kernel))) (va_eqt (hs (.eq (.elem tmF (.int 4)) (.int 200)) (by decide +kernel))) (va_eqt (hs (.eq (.elem tmF (.int 5)) (.int 1600)) (by decide +kernel))) (va_eqt (hs (.eq (.elem tmF (.int 6)) (.int 16)) (by decide +kernel))) (va_eqt (hs (.eq (.elem tmF (.int 7)) (.int 0)) (by decide +kernel))) (va_eqt (hs (.eq (.elem tmF (.int 8)) (.int 50)) (by decide +kernel)))) hA
  obtain ⟨a, c, cell, k, q1, q2, q3, q4, q5, q6, -⟩ := Cond.exactly_spec (args := args) (first := s) (o := none) (s := s) (idx := []) (t := tmF) (cls := "[I") (hs (.exactly tmF "[I") (by decide +kernel))
  cases l1.symm.trans q1
  obtain ⟨cell2, t1, t2, t3, t4, t5, t6, t7⟩ := l2
  cases t1.symm.trans q3
  have hsz : cell.slots.size < 2147483648 := by
    obtain ⟨b, cell3, hb, harr, -⟩ := Term.length_spec hlen
    cases hb.symm.trans l1
    obtain ⟨hc3, -⟩ := State.arrayAt?_spec harr
    cases t1.symm.trans hc3
    exact len_small hlen hb harr
  have hnine : cell.slots.size = 9 := by
    have e := congrArg Int32.toInt t5
    rw [show cell.slots.size.toInt32 = Int32.ofNat cell.slots.size from rfl, Int32.toInt_ofNat_of_lt (by omega), Int32.toInt_ofNat_of_lt (by omega)] at e
    omega
  refine ⟨rw, va_Nw.of rfl (hts (.fieldLinkNest RX2 22 "LoopSlicer" "FIRST_VALUES" "[I" "LoopSlicer") (by decide +kernel)), va_Nw.of rfl (hts (.castable "[I" "java/lang/Cloneable") (by decide +kernel)), va_Zof (hts (.laysStatic "LoopSlicer" "FIRST_VALUES" "[I") (by decide +kernel)) (hts (.initialized "LoopSlicer") (by decide +kernel)) l1 hA, cell, q3, ?_, q5, t3, ?_, t7⟩
  · rw [q6]
    exact Option.some.inj (q2.symm.trans (va_nm_int (hK.2 0 _ rfl).2))
  · refine Array.ext_getElem? fun i => ?_
    by_cases hi : i < 9
    · rw [t6 i hi]
      exact (arrV_read (cx 0) (fun j => .int (aI fvS j)) hi).symm
    · rw [Array.getElem?_eq_none (by omega), Array.getElem?_eq_none (by rw [show (vp_cell (cx 0) (9, .inl (aI fvS))).slots.size = 9 from arrV_size _ _ _]; omega)]
theorem Inv_w0 : Inv w0_ := by
  have h74 : w0_ 74 = 1 := rfl
  refine ⟨by decide +kernel, fun k k0 k1 => ?_, fun k k0 k1 => ?_, fun k k0 k1 => ?_, Perm_id (fun k k0 k1 => ?_)⟩
  · rw [← w0_0 (by omega)]
    show (0 : Int) ≤ 0 ∧ (0 : Int) ≤ 999
    omega
  · rw [h74] at k1
    have e : k = 0 := by omega
    rw [e]
    decide +kernel
  · rw [h74] at k1; omega
  · rw [h74] at k1
    have e : k = 0 := by omega
    rw [e]
    rfl
theorem Ok_0 : Ok s0X := by
  refine ⟨fun c => if c = 0 then w0_ else fun _ => 0, rfl, Inv_w0, ?_, rfl, ?_, fun j j0 j1 => ?_, fun i i0 i1 => ?_⟩
  · show ((0 : Int) ≤ 0 ∧ (0 : Int) ≤ 7) ∧ (0 : Int) ≤ 0 ∧ (0 : Int) ≤ 8
    omega
  · show (0 : Int) ≤ 0 ∧ (0 : Int) ≤ 3
    omega
  · have h : j < (0 : Int) := j1
    omega
  · have e : hasF 0 i = 0 := by
      unfold hasF
      split <;> rfl
    refine ⟨e.symm, fun h => ?_⟩
    have h2 : hasF 0 i = 1 := h
    rw [e] at h2
    exact absurd h2 (by decide)
