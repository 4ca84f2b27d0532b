/-! the rows that nobody writes: the least and the most of each setting -/
def sL (f : Int → Int) : Nat → Value := fun j => .int (aI f j)
def st4 (A : Nat → Prop) (tl th : Nat) (U : State) : Prop := va_Z "LoopSlicer" "LEAST_VALUES" "[I" (.ref tl) A U U.heap ∧ va_T .int tl 9 (sL lowS) A U U.heap ∧ va_Z "LoopSlicer" "MOST_VALUES" "[I" (.ref th) A U U.heap ∧ va_T .int th 9 (sL highS) A U U.heap
theorem lowS_in (s : Int) : 0 ≤ lowS s ∧ lowS s ≤ 100 := by unfold lowS; (repeat' split) <;> omega
theorem highS_in (s : Int) : 1 ≤ highS s ∧ highS s ≤ 200000 := by unfold highS; (repeat' split) <;> omega
section SAL
variable {p : Program} {l : Launch} {e : Env} {R : Room} {s : State} {m : MethodId} {args : Array Value} {below : List Frame} {meth : Method} {c : Code} {H : Heap} {locs : List Loc} {cells slots : Nat} {Q : State → Prop} {cc : ByteArray} {pc : Nat} {ls : Array Slot} {rest : List Value} {A : Nat → Prop}
theorem g_sald {t n : Nat} {f : Int → Int} {v : Int} (hx : p.tables.exec = Jvm.exec) (hb : c.code = cc) (hT : va_T .int t n (sL f) A s s.heap) (hS : va_S A s.heap H locs) {i : Int} (hn : n < 2147483648) (h : 0 ≤ i ∧ i < (n : Int)) (hv : f i = v) (hdg : decode cc pc = .ok (.iaload, 1))
    (kk : W p l e R s m args below meth c H locs cells slots Q (F0 m (pc + 1) ls (.int (iI v) :: rest))) : W p l e R s m args below meth c H locs cells slots Q (F0 m pc ls (.int (iI i) :: .ref t :: rest)) :=
  va_ti hx hb hT hS (iI_in hn h) (v := .int (iI v)) (by show Value.int (aI f _) = _; rw [aI_at f ⟨h.1, by omega⟩, hv]) hdg kk
end SAL
