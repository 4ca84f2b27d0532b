/-! the law: rows for its calls; its two smallest methods -/
theorem ofNat_iI {n : Nat} (h : n < 2147483648) : Int32.ofNat n = iI (n : Int) := by
  apply Int32.toInt_inj.mp
  rw [iI_toInt (by omega), Int32.toInt_ofNat_of_lt (by omega)]
theorem st4.to {A B : Nat → Prop} {tl th : Nat} {s U : State} {H : Heap} {locs : List Loc} (h : st4 A tl th s) (hS : va_S A s.heap H locs) (hU : U.heap = H) (hW : s.WarmedH U.vm) (hB : ∀ q, B q → A q) : st4 B tl th U := by
  obtain ⟨h1, h2, h3, h4⟩ := h
  refine ⟨?_, ?_, ?_, ?_⟩
  · rw [hU]; exact ((h1.kept hS.2.1).moved hW.alike).narrow hB
  · rw [hU]; exact ((h2.kept hS.2.1).moved hW.alike).narrow hB
  · rw [hU]; exact ((h3.kept hS.2.1).moved hW.alike).narrow hB
  · rw [hU]; exact ((h4.kept hS.2.1).moved hW.alike).narrow hB
theorem st4.blind {A : Nat → Prop} {tl th : Nat} {U : State} {g : JFrame} {mk : MethodId} {a : Array Value} (h : st4 A tl th U) : st4 A tl th (U.calling g mk a) := by
  obtain ⟨h1, h2, h3, h4⟩ := h
  exact ⟨va_Z.moved (u := U) (U := U.calling g mk a) (Vm.Alike.refl U.vm) h1, va_T.moved (u := U) (U := U.calling g mk a) (Vm.Alike.refl U.vm) h2, va_Z.moved (u := U) (U := U.calling g mk a) (Vm.Alike.refl U.vm) h3, va_T.moved (u := U) (U := U.calling g mk a) (Vm.Alike.refl U.vm) h4⟩
section LROWS
variable {p : Program} {l : Launch} {e : Env} {R : Room} {s : State} {m : MethodId} {args : Array Value} {below : List Frame} {meth : Method} {c : Code} {H : Heap} {locs : List Loc} {cells slots : Nat} {Q : State → Prop}
variable {cc : ByteArray} {pc : Nat} {ls : Array Slot} {rest : List Value} {G : va_G} {cx a b : Nat → Nat} {σ τ : Nat → Int → Int}
variable {y : MethodName} {bytes : ByteArray} {maxL nL n index : Nat} {ret : Option FieldType} {ws : List Cond} {rm : Room} {Ts : List Cond} {own : String} {st0 : List Value}
theorem st_blind {av : List Value} {tl th : Nat} : FrameBlind (va_Pc av (fun U => gW G (tx cx) (XA a) (wx cx a) σ U ∧ st4 (XA a) tl th U)) := fun av U g mk q => ⟨q.1, ⟨q.2.1.1, va_K.moved (u := U) (U := U.calling g mk av) (Vm.Alike.refl U.vm) q.2.1.2.1, q.2.1.2.2⟩, q.2.2.blind⟩
/-- a call of the program that reads the static rows -/
theorem g_callis {post : Int32 → (Nat → Int → Int) → Prop} {tl th : Nat} (As : List Value) (S : CallFix p m c cc nL s args Ts own) (hM : Met l y ws rm (va_Pc (.ref (a 0) :: As) (fun U => gW G (tx cx) (XA a) (wx cx a) σ U ∧ st4 (XA a) tl th U)) (va_Qi post (gW G (tx cx) (XA a) (wx cx a)) (XA a)) 0 0 (XA a)) (cw : CallW R s args own RX4 index y bytes maxL ret ws rm 0 0 n)
    (hK : va_K G vwCl (tx cx) s) (hP : va_P G vwCl (wx cx a σ) H) (hD : va_D (XA a) (wx cx a σ)) (hS : va_S (XA a) s.heap H locs) (h4 : st4 (XA a) tl th s) (hst : st0 = As.reverse ++ .ref (a 0) :: rest) (hn : As.length = n) (hsz : ls.size = nL) (hW : (rest.map fun v => v.category).sum ≤ 8) (hdg : decode cc pc = .ok (.invokevirtual index, 3)) (hf : cells ≤ R.cells ∧ slots ≤ R.slots)
    (kk : ∀ (r : Int32) (u : Nat → Int → Int) (H1 : Heap) (locs1 : List Loc), post r u → va_P G vwCl (wx cx a u) H1 → va_D (XA a) (wx cx a u) → va_S (XA a) s.heap H1 locs1 → W p l e R s m args below meth c H1 locs1 cells slots Q (F0 m (pc + 3) ls (.int r :: rest))) : W p l e R s m args below meth c H locs cells slots Q (F0 m pc ls st0) := by
  subst hst
  exact va_calli (va_runV S hM cw ⟨st_blind, va_recv hK hP (ci := 4) (q0 := 0) rfl rfl, fun U hU hW => ⟨rfl, ⟨by rw [hU]; exact hP, va_K.moved hW.alike hK, hD⟩, h4.to hS hU hW (fun _ h => h)⟩⟩ rfl hn hsz rfl (lv_room hW) hdg hf) hS (fun z _ h => h) (fun _ h => h) (fun r u t H1 locs1 ht hvm hw hB hz hk hS1 => kk r u H1 locs1 hw (by rw [← ht]; exact hB.1) hB.2.2 hS1)
end LROWS
set_option maxHeartbeats 4000000 in
set_option maxRecDepth 100000 in
theorem mL_low (l : Launch) (xv : Int32) (xn : Int) (hn : 1 ≤ xn ∧ xn < 2147483648) : Met l yL_low wsL_low ({ frames := 0, cells := 0, slots := 0, locals := 0 }) (va_Pc [.int xv, .int (iI xn)] (fun _ => True)) (va_Qi (fun r (_ : Unit) => iI (lowF xv xn) = r) (fun _ _ => True) (fun _ => False)) 0 0 (fun _ => False) := by
  refine Met.ofW (cc := cL_low) (maxL := 2) (ret := some .int) (by decide) rfl ?_
  intro p e s m args below meth c s₁ B hml hv
  obtain ⟨rfl, -⟩ := hv
  have hex := B.exec
  have hbc := B.bytes
  have hrt := B.returns
  have hts := atoms_spec (ws := wsL_low) B.pre
  have hown : s.vm.findClass RL = some m.cls := findClass_of_methodNamed B.named
  have hlocks := B.notSynchronized
  have hS : va_S (fun _ => False) s.heap s.heap [] := va_S.rf
  have hl := lv_entry ([.int xv, .int (iI xn)]) (n := 2) (Nat.le_of_ble_eq_true rfl)
  rw [lg_entry_eq]
  generalize (lg_sl ([.int xv, .int (iI xn)]) ++ List.replicate (2 - (lg_sl ([.int xv, .int (iI xn)])).length) Slot.unset).toArray = ls at hl ⊢
  have hl : lv_has ls 2 [(0, .int xv), (1, .int (iI xn))] := hl
  have hlw := lwv_in xv
  refine lv_iload_n hex hbc dL_low_0 rfl (lv_at hl 0 rfl) ?_
  refine lv_ldc (v := iI 2147483647) hex hbc hown (hts _ (List.mem_of_getElem? (i := 1) rfl)) dL_low_1 ?_
  refine lv_iand hex hbc dL_low_3 ?_
  refine zt_raw (b := (lwv xv)) (iI_of _).symm ?_
  refine lv_iload_n hex hbc dL_low_4 rfl (lv_at hl 1 rfl) ?_
  refine zt_irem (a := (lwv xv)) (b := xn) hex hbc (by omega) dL_low_5 ?_
  exact W.iret hex hbc hrt (fun t ht hW => ⟨⟨_, (), rfl, rfl, trivial⟩, hS.F ht⟩) (fun q hq => hS.2.2 q hq) dL_low_6 hlocks
set_option maxHeartbeats 2000000 in
theorem mL_cell (l : Launch) (b L : Nat) (xs : Nat → Int32) (k : Int) (hk : 0 ≤ k ∧ k < 2147483647) (hL : L ≤ 260) : Met l yL_cell wsL_cell ({ frames := 0, cells := 0, slots := 0, locals := 0 }) (va_Pc [.ref b, .int (iI k)] (fun U => va_X b L xs U U.heap ∧ b < U.heap.size)) (va_Qi (fun r (_ : Unit) => True) (fun _ _ => True) (fun _ => False)) 0 0 (fun _ => False) := by
  refine Met.ofW (cc := cL_cell) (maxL := 2) (ret := some .int) (by decide) rfl ?_
  intro p e s m args below meth c s₁ B hml hv
  obtain ⟨rfl, hX, hbl⟩ := hv
  have hex := B.exec
  have hbc := B.bytes
  have hrt := B.returns
  have hts := atoms_spec (ws := wsL_cell) B.pre
  have hown : s.vm.findClass RL = some m.cls := findClass_of_methodNamed B.named
  have hlocks := B.notSynchronized
  have hS : va_S (fun _ => False) s.heap s.heap [] := va_S.rf
  have hl := lv_entry ([.ref b, .int (iI k)]) (n := 2) (Nat.le_of_ble_eq_true rfl)
  rw [lg_entry_eq]
  generalize (lg_sl ([.ref b, .int (iI k)]) ++ List.replicate (2 - (lg_sl ([.ref b, .int (iI k)])).length) Slot.unset).toArray = ls at hl ⊢
  have hl : lv_has ls 2 [(0, .ref b), (1, .int (iI k))] := hl
  refine lv_iload_n hex hbc dL_cell_0 rfl (lv_at hl 1 rfl) ?_
  refine lv_aload_n hex hbc dL_cell_1 rfl (lv_at hl 0 rfl) ?_
  refine va_slen hex hbc hX hbl (fun z => z) hS dL_cell_2 ?_
  refine zt_raw (b := (L : Int)) (ofNat_iI (by omega)) ?_
  refine zt_icmp_ge (a := k) (b := (L : Int)) (tgt := 12) hex hbc (by omega) dL_cell_3 (by decide) (fun c3 => ?_) (fun c3 => ?_)
  · refine lv_ldc (v := iI 747796405) hex hbc hown (hts _ (List.mem_of_getElem? (i := 1) rfl)) dL_cell_12 ?_
    refine lv_iload_n hex hbc dL_cell_14 rfl (lv_at hl 1 rfl) ?_
    refine lv_iconst (v := iI 1) hex hbc dL_cell_15 rfl ?_
    refine zt_iadd hex hbc dL_cell_16 ?_
    refine zt_imul hex hbc dL_cell_17 ?_
    exact W.iret hex hbc hrt (fun t ht hW => ⟨⟨_, (), rfl, trivial, trivial⟩, hS.F ht⟩) (fun q hq => hS.2.2 q hq) dL_cell_18 hlocks
  · refine lv_aload_n hex hbc dL_cell_6 rfl (lv_at hl 0 rfl) ?_
    refine lv_iload_n hex hbc dL_cell_7 rfl (lv_at hl 1 rfl) ?_
    refine va_sld hex hbc hX hbl (fun z => z) hS (iI_in (by omega) ⟨hk.1, c3⟩) dL_cell_8 ?_
    refine lv_goto (tgt := 18) hex hbc dL_cell_9 (by decide) ?_
    exact W.iret hex hbc hrt (fun t ht hW => ⟨⟨_, (), rfl, trivial, trivial⟩, hS.F ht⟩) (fun q hq => hS.2.2 q hq) dL_cell_18 hlocks
