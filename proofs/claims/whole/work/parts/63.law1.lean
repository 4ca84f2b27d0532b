/-! the law: the two sides at the start are related; what holds all through it -/
theorem s8M_0 (k : Int) : s8M 0 k = (if k = 9 then 50 else if k = 7 then 16 else if k = 6 then 1600 else if k = 5 then 200 else if k = 4 then 50 else if k = 3 then 2 else if k = 2 then 100 else if k = 1 then 100 else 0) := rfl
theorem fx_w0 : fx w0_ = s9M 0 := funext fun k => by
  have h74 : w0_ 74 = 1 := rfl
  show fx w0_ k = spc (s8M 0) 16 k
  unfold spc
  by_cases c0 : k = 0
  · rw [if_pos c0, c0, fx_o w0_ (by omega)]; rfl
  · rw [if_neg c0]
    by_cases c1 : 10 ≤ k ∧ k < 74
    · rw [if_pos c1, fx_o w0_ (by omega)]; exact (w0_0 (Or.inl c1)).symm
    · rw [if_neg c1]
      by_cases c2 : k = 74
      · rw [if_pos c2, c2, fx_o w0_ (by omega)]; rfl
      · rw [if_neg c2]
        by_cases c3 : k = 75
        · rw [if_pos c3, c3, fx_o w0_ (by omega)]; rfl
        · rw [if_neg c3]
          by_cases c4 : 91 ≤ k ∧ k < 107
          · rw [if_pos c4]
            by_cases c5 : k = 91
            · rw [c5, fx_o w0_ (by omega)]; rfl
            · exact fx_p ⟨h74, by omega, by omega⟩
          · rw [if_neg c4, fx_o w0_ (by omega), s8M_0]
            unfold w0_
            (repeat' split) <;> omega
theorem Inv_w0 : Inv (fx w0_) := by
  have h74 : fx w0_ 74 = 1 := rfl
  refine ⟨by decide +kernel, fun k k0 k1 => ?_, fun k k0 k1 => ?_, fun k k0 k1 => ?_, Perm_id (fun k k0 k1 => ?_)⟩
  · rw [fx_o w0_ (by omega), ← w0_0 (by omega)]
    show (0 : Int) ≤ 0 ∧ (0 : Int) ≤ 999
    omega
  · rw [h74] at k1
    have e : k = 0 := by omega
    rw [e]
    decide +kernel
  · rw [h74] at k1; omega
  · rw [h74] at k1
    have e : k = 0 := by omega
    rw [e]
    rfl
theorem Rel_0 : Rel (Nx s0X) s9M := by
  refine ⟨fx_w0, Inv_w0, ?_, rfl, ?_, fun j j0 j1 => ?_, fun i i0 i1 => ?_⟩
  · show ((0 : Int) ≤ 0 ∧ (0 : Int) ≤ 7) ∧ (0 : Int) ≤ 0 ∧ (0 : Int) ≤ 8
    omega
  · show (0 : Int) ≤ 0 ∧ (0 : Int) ≤ 3
    omega
  · have h : j < (0 : Int) := j1
    omega
  · have e : hasF (s9M 2 1) i = 0 := by
      show hasF 0 i = 0
      unfold hasF
      split <;> rfl
    refine ⟨e.symm, fun h => ?_⟩
    rw [e] at h
    exact absurd h (by decide)
def LC (p : Program) (s : State) (m : MethodId) (c : Code) (bs L : Nat) (xs : Nat → Int32) (G : va_G) (cx a b : Nat → Nat) (tl th : Nat) : Prop :=
  p.tables.exec = Jvm.exec ∧ c.code = cL_law ∧ c.maxLocals = 8 ∧ s.vm.findClass RL = some m.cls ∧ (∀ w ∈ wsL_law, w.before #[Value.ref bs] s = true) ∧ va_X bs L xs s s.heap ∧ bs < s.heap.size ∧ L ≤ 2048 ∧ va_K G vwCl (tx cx) s ∧ Apt a b s.heap.size ∧ st4 (fun q => s.heap.size ≤ q) tl th s
