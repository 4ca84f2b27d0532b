/-! the warp: a quotient that is a number -/
theorem wv_fin {r : UInt32} (h : Jvm.Free.Fl.Fin32 r) : Jvm.Free.Fl.NoNaN32 r := by unfold Jvm.Free.Fl.Fin32 at h; unfold Jvm.Free.Fl.NoNaN32; exact UInt32.le_of_lt h
theorem wv_nz {v : Int32} (h : v ≠ 0) : Jvm.Free.Fl.Nz32 (FP.i2f v) := (Jvm.Free.Fl.nz32_iff _).mpr (Jvm.FP.Core.i2f_ne_zero h)
theorem wv_iI {b : Int} (h : 1 ≤ b ∧ b < 2147483648) : iI b ≠ 0 := fun q => by
  have h1 := congrArg Int32.toInt q
  rw [iI_toInt (by omega)] at h1
  have h2 : b = 0 := h1
  omega
theorem wv_n {a b : Int} (h : 1 ≤ b ∧ b < 2147483648) : vf_n32 (FP.fdiv (FP.i2f (iI a)) (FP.i2f (iI b))) := Jvm.Free.Fl.fdiv_out (wv_fin (Jvm.Free.Fl.i2f_fin _)) (Jvm.Free.Fl.i2f_fin _) (wv_nz (wv_iI h))
/-- the warp's answer -/
def WV_ (w : Int → Int) (x : Int) (r : UInt32) : Prop := (¬ (0 ≤ x ∧ x < w 74) → r = 3212836864) ∧ ((0 ≤ x ∧ x < w 74) → (lay_ w → r = FP.fdiv (FP.i2f (iI (bud w x))) (FP.i2f (iI (ln w x)))) ∧ (¬ lay_ w → r = 3239051264))
theorem WV_uniq {w : Int → Int} {x : Int} {r q : UInt32} (h : WV_ w x r) (h' : WV_ w x q) : r = q := by
  rcases Classical.em (0 ≤ x ∧ x < w 74) with c | c
  · rcases Classical.em (lay_ w) with l | l
    · rw [(h.2 c).1 l, (h'.2 c).1 l]
    · rw [(h.2 c).2 l, (h'.2 c).2 l]
  · rw [h.1 c, h'.1 c]
