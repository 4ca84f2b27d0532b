/-! Loop.copy: contracts for the pairs of loops that are copied (rows laid by wip/gen/copies.py) -/
/-- the loop at o of the row f is the loop w -/
def cpi (f w : Int → Int) (o : Int) : Int → Int := fun k => if o ≤ k ∧ k < o + 107 then w (k - o) else f k
/-- the loop w is that at o of the row f -/
def cpo (w f : Int → Int) (o : Int) : Int → Int := fun k => if 0 ≤ k ∧ k < 107 then f (o + k) else w k
theorem cpi_in {f w : Int → Int} {o k : Int} (h : o ≤ k ∧ k < o + 107) : cpi f w o k = w (k - o) := if_pos h
theorem cpi_out {f w : Int → Int} {o k : Int} (h : ¬ (o ≤ k ∧ k < o + 107)) : cpi f w o k = f k := if_neg h
theorem cpo_in {w f : Int → Int} {o k : Int} (h : 0 ≤ k ∧ k < 107) : cpo w f o k = f (o + k) := if_pos h
theorem cpo_out {w f : Int → Int} {o k : Int} (h : ¬ (0 ≤ k ∧ k < 107)) : cpo w f o k = w k := if_neg h
theorem leW_c {D : va_G} {cl : List vw_C} {b n : Nat} {cA : ClassId} {f f0 g : Int → Int} {N : Int} {xs ys : va_W} (h : leW D cl xs ys) (hf : ∀ k : Int, 0 ≤ k → k < (n : Int) → f k = g k) (hN : (iI N).toNatClampNeg = n := by decide) : leW D cl ((b, .inl (cA, n, .inl (va_cpy (aI f) (aI f0) (iI 0).toNatClampNeg (iI 0).toNatClampNeg (iI N).toNatClampNeg))) :: xs) ((b, .inl (cA, n, .inl (aI g))) :: ys) := by
  have e0 : (iI 0).toNatClampNeg = 0 := rfl
  refine ⟨⟨rfl, fun H hp => ?_⟩, h⟩
  have e : vp_cell cA (n, .inl (va_cpy (aI f) (aI f0) (iI 0).toNatClampNeg (iI 0).toNatClampNeg (iI N).toNatClampNeg)) = vp_cell cA (n, .inl (aI g)) := by
    rw [vp_cell_i, vp_cell_i]
    exact arrV_ext cA fun k hk => by
      show Value.int (va_cpy (aI f) (aI f0) _ _ _ k) = Value.int (iI (g k))
      rw [e0, hN, pk_cpy_in (Nat.zero_le _) (by omega), Nat.zero_add, Nat.sub_zero]
      show Value.int (iI (f (k : Int))) = _
      rw [hf k (by omega) (by omega)]
  show H[b]? = some (vp_cell cA (n, .inl (aI g)))
  rw [← e]
  exact hp
theorem iX2_copy_X2 : ∀ w ∈ wsX20, w ∈ wsX2_copy := fun _ h => List.mem_cons_of_mem _ (List.mem_append_right _ h)
theorem wx_cp_p0 {G : va_G} {cx a : Nat → Nat} {σ : Nat → Int → Int} : leW G vwCl [(a 0, .inr (4, [.ref (a 3), .ref (a 8), .ref (a 14), .ref (a 17), .ref (a 59), .ref (a 1), .ref (a 2)])), (a 1, .inl (cx 2, 2, .inl (aI (σ 11)))), (a 2, .inl (cx 0, 16, .inl (aI (σ 13)))), (a 3, .inr (2, [.int (iI (σ 0 0)), .int (iI (σ 0 74)), .ref (a 4), .ref (a 5), .ref (a 6), .ref (a 7)])), (a 4, .inl (cx 0, 64, .inl (aI (fun k => σ 0 (10 + k))))), (a 5, .inl (cx 0, 9, .inl (aI (fun k => σ 0 (1 + k))))), (a 6, .inl (cx 0, 16, .inl (aI (fun k => σ 0 (75 + k))))), (a 7, .inl (cx 0, 16, .inl (aI (fun k => σ 0 (91 + k))))), (a 8, .inr (0, [.ref (a 3), .int (iI (σ 21 0)), .int (iI (σ 21 1)), .ref (a 9), .ref (a 10), .ref (a 11), .ref (a 12), .ref (a 13)])), (a 9, .inl (cx 0, 33, .inl (aI (σ 14)))), (a 10, .inl (cx 0, 16, .inl (aI (σ 15)))), (a 11, .inl (cx 0, 16, .inl (aI (σ 16)))), (a 12, .inl (cx 0, 561, .inl (aI (σ 17)))), (a 13, .inl (cx 0, 17, .inl (aI (σ 18)))), (a 14, .inr (3, [.ref (a 3), .ref (a 8), .ref (a 15), .ref (a 16)])), (a 15, .inl (cx 0, 16, .inl (aI (σ 19)))), (a 16, .inl (cx 1, 16, .inr (.inl (aL (σ 20))))), (a 17, .inr (1, [.ref (a 18), .int (iI (σ 12 0)), .int (iI (σ 12 1))])), (a 18, .inl (cx 3, 8, .inr (.inr (.inr (.inr (fun k => some (a (19 + 5 * k)))))))), (a 19, .inr (2, [.int (iI (σ 0 0)), .int (iI (σ 0 74)), .ref (a 20), .ref (a 21), .ref (a 22), .ref (a 23)])), (a 20, .inl (cx 0, 64, .inl (va_cpy (aI (fun k => σ 0 (10 + k))) (aI (fun k => σ 1 (10 + k))) (iI 0).toNatClampNeg (iI 0).toNatClampNeg (iI 64).toNatClampNeg))), (a 21, .inl (cx 0, 9, .inl (va_cpy (aI (fun k => σ 0 (1 + k))) (aI (fun k => σ 1 (1 + k))) (iI 0).toNatClampNeg (iI 0).toNatClampNeg (iI 9).toNatClampNeg))), (a 22, .inl (cx 0, 16, .inl (va_cpy (aI (fun k => σ 0 (75 + k))) (aI (fun k => σ 1 (75 + k))) (iI 0).toNatClampNeg (iI 0).toNatClampNeg (iI 16).toNatClampNeg))), (a 23, .inl (cx 0, 16, .inl (va_cpy (aI (fun k => σ 0 (91 + k))) (aI (fun k => σ 1 (91 + k))) (iI 0).toNatClampNeg (iI 0).toNatClampNeg (iI 16).toNatClampNeg))), (a 24, .inr (2, [.int (iI (σ 1 107)), .int (iI (σ 1 181)), .ref (a 25), .ref (a 26), .ref (a 27), .ref (a 28)])), (a 25, .inl (cx 0, 64, .inl (aI (fun k => σ 1 (117 + k))))), (a 26, .inl (cx 0, 9, .inl (aI (fun k => σ 1 (108 + k))))), (a 27, .inl (cx 0, 16, .inl (aI (fun k => σ 1 (182 + k))))), (a 28, .inl (cx 0, 16, .inl (aI (fun k => σ 1 (198 + k))))), (a 29, .inr (2, [.int (iI (σ 1 214)), .int (iI (σ 1 288)), .ref (a 30), .ref (a 31), .ref (a 32), .ref (a 33)])), (a 30, .inl (cx 0, 64, .inl (aI (fun k => σ 1 (224 + k))))), (a 31, .inl (cx 0, 9, .inl (aI (fun k => σ 1 (215 + k))))), (a 32, .inl (cx 0, 16, .inl (aI (fun k => σ 1 (289 + k))))), (a 33, .inl (cx 0, 16, .inl (aI (fun k => σ 1 (305 + k))))), (a 34, .inr (2, [.int (iI (σ 1 321)), .int (iI (σ 1 395)), .ref (a 35), .ref (a 36), .ref (a 37), .ref (a 38)])), (a 35, .inl (cx 0, 64, .inl (aI (fun k => σ 1 (331 + k))))), (a 36, .inl (cx 0, 9, .inl (aI (fun k => σ 1 (322 + k))))), (a 37, .inl (cx 0, 16, .inl (aI (fun k => σ 1 (396 + k))))), (a 38, .inl (cx 0, 16, .inl (aI (fun k => σ 1 (412 + k))))), (a 39, .inr (2, [.int (iI (σ 1 428)), .int (iI (σ 1 502)), .ref (a 40), .ref (a 41), .ref (a 42), .ref (a 43)])), (a 40, .inl (cx 0, 64, .inl (aI (fun k => σ 1 (438 + k))))), (a 41, .inl (cx 0, 9, .inl (aI (fun k => σ 1 (429 + k))))), (a 42, .inl (cx 0, 16, .inl (aI (fun k => σ 1 (503 + k))))), (a 43, .inl (cx 0, 16, .inl (aI (fun k => σ 1 (519 + k))))), (a 44, .inr (2, [.int (iI (σ 1 535)), .int (iI (σ 1 609)), .ref (a 45), .ref (a 46), .ref (a 47), .ref (a 48)])), (a 45, .inl (cx 0, 64, .inl (aI (fun k => σ 1 (545 + k))))), (a 46, .inl (cx 0, 9, .inl (aI (fun k => σ 1 (536 + k))))), (a 47, .inl (cx 0, 16, .inl (aI (fun k => σ 1 (610 + k))))), (a 48, .inl (cx 0, 16, .inl (aI (fun k => σ 1 (626 + k))))), (a 49, .inr (2, [.int (iI (σ 1 642)), .int (iI (σ 1 716)), .ref (a 50), .ref (a 51), .ref (a 52), .ref (a 53)])), (a 50, .inl (cx 0, 64, .inl (aI (fun k => σ 1 (652 + k))))), (a 51, .inl (cx 0, 9, .inl (aI (fun k => σ 1 (643 + k))))), (a 52, .inl (cx 0, 16, .inl (aI (fun k => σ 1 (717 + k))))), (a 53, .inl (cx 0, 16, .inl (aI (fun k => σ 1 (733 + k))))), (a 54, .inr (2, [.int (iI (σ 1 749)), .int (iI (σ 1 823)), .ref (a 55), .ref (a 56), .ref (a 57), .ref (a 58)])), (a 55, .inl (cx 0, 64, .inl (aI (fun k => σ 1 (759 + k))))), (a 56, .inl (cx 0, 9, .inl (aI (fun k => σ 1 (750 + k))))), (a 57, .inl (cx 0, 16, .inl (aI (fun k => σ 1 (824 + k))))), (a 58, .inl (cx 0, 16, .inl (aI (fun k => σ 1 (840 + k))))), (a 59, .inl (cx 3, 2, .inr (.inr (.inr (.inr (fun k => some (a (60 + 5 * k)))))))), (a 60, .inr (2, [.int (iI (σ 9 0)), .int (iI (σ 9 74)), .ref (a 61), .ref (a 62), .ref (a 63), .ref (a 64)])), (a 61, .inl (cx 0, 64, .inl (aI (fun k => σ 9 (10 + k))))), (a 62, .inl (cx 0, 9, .inl (aI (fun k => σ 9 (1 + k))))), (a 63, .inl (cx 0, 16, .inl (aI (fun k => σ 9 (75 + k))))), (a 64, .inl (cx 0, 16, .inl (aI (fun k => σ 9 (91 + k))))), (a 65, .inr (2, [.int (iI (σ 9 107)), .int (iI (σ 9 181)), .ref (a 66), .ref (a 67), .ref (a 68), .ref (a 69)])), (a 66, .inl (cx 0, 64, .inl (aI (fun k => σ 9 (117 + k))))), (a 67, .inl (cx 0, 9, .inl (aI (fun k => σ 9 (108 + k))))), (a 68, .inl (cx 0, 16, .inl (aI (fun k => σ 9 (182 + k))))), (a 69, .inl (cx 0, 16, .inl (aI (fun k => σ 9 (198 + k)))))] (wx cx a (sc σ 1 (cpi (σ 1) (σ 0) 0))) := by
  refine leW_k ?_
  refine leW_k ?_
  refine leW_k ?_
  refine leW_k ?_
  refine leW_k ?_
  refine leW_k ?_
  refine leW_k ?_
  refine leW_k ?_
  refine leW_k ?_
  refine leW_k ?_
  refine leW_k ?_
  refine leW_k ?_
  refine leW_k ?_
  refine leW_k ?_
  refine leW_k ?_
  refine leW_k ?_
  refine leW_k ?_
  refine leW_k ?_
  refine leW_k ?_
  refine leW_o ?_ ?_
  rotate_left
  · rw [show σ 0 0 = sc σ 1 (cpi (σ 1) (σ 0) 0) 1 0 from (cpi_in (f := σ 1) (w := σ 0) (o := 0) (k := 0) (by omega)).symm, show σ 0 74 = sc σ 1 (cpi (σ 1) (σ 0) 0) 1 74 from (cpi_in (f := σ 1) (w := σ 0) (o := 0) (k := 74) (by omega)).symm]
  refine leW_c ?_ (fun k h1 h2 => ?_)
  rotate_left
  · show σ 0 (10 + k) = (cpi (σ 1) (σ 0) 0) (10 + k)
    first | unfold cpi | unfold cpo
    rw [if_pos (by omega)]
    first | rfl | exact congrArg _ (by omega)
  refine leW_c ?_ (fun k h1 h2 => ?_)
  rotate_left
  · show σ 0 (1 + k) = (cpi (σ 1) (σ 0) 0) (1 + k)
    first | unfold cpi | unfold cpo
    rw [if_pos (by omega)]
    first | rfl | exact congrArg _ (by omega)
  refine leW_c ?_ (fun k h1 h2 => ?_)
  rotate_left
  · show σ 0 (75 + k) = (cpi (σ 1) (σ 0) 0) (75 + k)
    first | unfold cpi | unfold cpo
    rw [if_pos (by omega)]
    first | rfl | exact congrArg _ (by omega)
  refine leW_c ?_ (fun k h1 h2 => ?_)
  rotate_left
  · show σ 0 (91 + k) = (cpi (σ 1) (σ 0) 0) (91 + k)
    first | unfold cpi | unfold cpo
    rw [if_pos (by omega)]
    first | rfl | exact congrArg _ (by omega)
  refine leW_o ?_ ?_
  rotate_left
  · rw [show σ 1 107 = sc σ 1 (cpi (σ 1) (σ 0) 0) 1 107 from (cpi_out (f := σ 1) (w := σ 0) (o := 0) (k := 107) (by omega)).symm, show σ 1 181 = sc σ 1 (cpi (σ 1) (σ 0) 0) 1 181 from (cpi_out (f := σ 1) (w := σ 0) (o := 0) (k := 181) (by omega)).symm]
  refine leW_i ?_ (fun k h1 h2 => ?_)
  rotate_left
  · show σ 1 (117 + k) = (cpi (σ 1) (σ 0) 0) (117 + k)
    unfold cpi
    rw [if_neg (by omega)]
  refine leW_i ?_ (fun k h1 h2 => ?_)
  rotate_left
  · show σ 1 (108 + k) = (cpi (σ 1) (σ 0) 0) (108 + k)
    unfold cpi
    rw [if_neg (by omega)]
  refine leW_i ?_ (fun k h1 h2 => ?_)
  rotate_left
  · show σ 1 (182 + k) = (cpi (σ 1) (σ 0) 0) (182 + k)
    unfold cpi
    rw [if_neg (by omega)]
  refine leW_i ?_ (fun k h1 h2 => ?_)
  rotate_left
  · show σ 1 (198 + k) = (cpi (σ 1) (σ 0) 0) (198 + k)
    unfold cpi
    rw [if_neg (by omega)]
  refine leW_o ?_ ?_
  rotate_left
  · rw [show σ 1 214 = sc σ 1 (cpi (σ 1) (σ 0) 0) 1 214 from (cpi_out (f := σ 1) (w := σ 0) (o := 0) (k := 214) (by omega)).symm, show σ 1 288 = sc σ 1 (cpi (σ 1) (σ 0) 0) 1 288 from (cpi_out (f := σ 1) (w := σ 0) (o := 0) (k := 288) (by omega)).symm]
  refine leW_i ?_ (fun k h1 h2 => ?_)
  rotate_left
  · show σ 1 (224 + k) = (cpi (σ 1) (σ 0) 0) (224 + k)
    unfold cpi
    rw [if_neg (by omega)]
  refine leW_i ?_ (fun k h1 h2 => ?_)
  rotate_left
  · show σ 1 (215 + k) = (cpi (σ 1) (σ 0) 0) (215 + k)
    unfold cpi
    rw [if_neg (by omega)]
  refine leW_i ?_ (fun k h1 h2 => ?_)
  rotate_left
  · show σ 1 (289 + k) = (cpi (σ 1) (σ 0) 0) (289 + k)
    unfold cpi
    rw [if_neg (by omega)]
  refine leW_i ?_ (fun k h1 h2 => ?_)
  rotate_left
  · show σ 1 (305 + k) = (cpi (σ 1) (σ 0) 0) (305 + k)
    unfold cpi
    rw [if_neg (by omega)]
  refine leW_o ?_ ?_
  rotate_left
  · rw [show σ 1 321 = sc σ 1 (cpi (σ 1) (σ 0) 0) 1 321 from (cpi_out (f := σ 1) (w := σ 0) (o := 0) (k := 321) (by omega)).symm, show σ 1 395 = sc σ 1 (cpi (σ 1) (σ 0) 0) 1 395 from (cpi_out (f := σ 1) (w := σ 0) (o := 0) (k := 395) (by omega)).symm]
  refine leW_i ?_ (fun k h1 h2 => ?_)
  rotate_left
  · show σ 1 (331 + k) = (cpi (σ 1) (σ 0) 0) (331 + k)
    unfold cpi
    rw [if_neg (by omega)]
  refine leW_i ?_ (fun k h1 h2 => ?_)
  rotate_left
  · show σ 1 (322 + k) = (cpi (σ 1) (σ 0) 0) (322 + k)
    unfold cpi
    rw [if_neg (by omega)]
  refine leW_i ?_ (fun k h1 h2 => ?_)
  rotate_left
  · show σ 1 (396 + k) = (cpi (σ 1) (σ 0) 0) (396 + k)
    unfold cpi
    rw [if_neg (by omega)]
  refine leW_i ?_ (fun k h1 h2 => ?_)
  rotate_left
  · show σ 1 (412 + k) = (cpi (σ 1) (σ 0) 0) (412 + k)
    unfold cpi
    rw [if_neg (by omega)]
  refine leW_o ?_ ?_
  rotate_left
  · rw [show σ 1 428 = sc σ 1 (cpi (σ 1) (σ 0) 0) 1 428 from (cpi_out (f := σ 1) (w := σ 0) (o := 0) (k := 428) (by omega)).symm, show σ 1 502 = sc σ 1 (cpi (σ 1) (σ 0) 0) 1 502 from (cpi_out (f := σ 1) (w := σ 0) (o := 0) (k := 502) (by omega)).symm]
  refine leW_i ?_ (fun k h1 h2 => ?_)
  rotate_left
  · show σ 1 (438 + k) = (cpi (σ 1) (σ 0) 0) (438 + k)
    unfold cpi
    rw [if_neg (by omega)]
  refine leW_i ?_ (fun k h1 h2 => ?_)
  rotate_left
  · show σ 1 (429 + k) = (cpi (σ 1) (σ 0) 0) (429 + k)
    unfold cpi
    rw [if_neg (by omega)]
  refine leW_i ?_ (fun k h1 h2 => ?_)
  rotate_left
  · show σ 1 (503 + k) = (cpi (σ 1) (σ 0) 0) (503 + k)
    unfold cpi
    rw [if_neg (by omega)]
  refine leW_i ?_ (fun k h1 h2 => ?_)
  rotate_left
  · show σ 1 (519 + k) = (cpi (σ 1) (σ 0) 0) (519 + k)
    unfold cpi
    rw [if_neg (by omega)]
  refine leW_o ?_ ?_
  rotate_left
  · rw [show σ 1 535 = sc σ 1 (cpi (σ 1) (σ 0) 0) 1 535 from (cpi_out (f := σ 1) (w := σ 0) (o := 0) (k := 535) (by omega)).symm, show σ 1 609 = sc σ 1 (cpi (σ 1) (σ 0) 0) 1 609 from (cpi_out (f := σ 1) (w := σ 0) (o := 0) (k := 609) (by omega)).symm]
  refine leW_i ?_ (fun k h1 h2 => ?_)
  rotate_left
  · show σ 1 (545 + k) = (cpi (σ 1) (σ 0) 0) (545 + k)
    unfold cpi
    rw [if_neg (by omega)]
  refine leW_i ?_ (fun k h1 h2 => ?_)
  rotate_left
  · show σ 1 (536 + k) = (cpi (σ 1) (σ 0) 0) (536 + k)
    unfold cpi
    rw [if_neg (by omega)]
  refine leW_i ?_ (fun k h1 h2 => ?_)
  rotate_left
  · show σ 1 (610 + k) = (cpi (σ 1) (σ 0) 0) (610 + k)
    unfold cpi
    rw [if_neg (by omega)]
  refine leW_i ?_ (fun k h1 h2 => ?_)
  rotate_left
  · show σ 1 (626 + k) = (cpi (σ 1) (σ 0) 0) (626 + k)
    unfold cpi
    rw [if_neg (by omega)]
  refine leW_o ?_ ?_
  rotate_left
  · rw [show σ 1 642 = sc σ 1 (cpi (σ 1) (σ 0) 0) 1 642 from (cpi_out (f := σ 1) (w := σ 0) (o := 0) (k := 642) (by omega)).symm, show σ 1 716 = sc σ 1 (cpi (σ 1) (σ 0) 0) 1 716 from (cpi_out (f := σ 1) (w := σ 0) (o := 0) (k := 716) (by omega)).symm]
  refine leW_i ?_ (fun k h1 h2 => ?_)
  rotate_left
  · show σ 1 (652 + k) = (cpi (σ 1) (σ 0) 0) (652 + k)
    unfold cpi
    rw [if_neg (by omega)]
  refine leW_i ?_ (fun k h1 h2 => ?_)
  rotate_left
  · show σ 1 (643 + k) = (cpi (σ 1) (σ 0) 0) (643 + k)
    unfold cpi
    rw [if_neg (by omega)]
  refine leW_i ?_ (fun k h1 h2 => ?_)
  rotate_left
  · show σ 1 (717 + k) = (cpi (σ 1) (σ 0) 0) (717 + k)
    unfold cpi
    rw [if_neg (by omega)]
  refine leW_i ?_ (fun k h1 h2 => ?_)
  rotate_left
  · show σ 1 (733 + k) = (cpi (σ 1) (σ 0) 0) (733 + k)
    unfold cpi
    rw [if_neg (by omega)]
  refine leW_o ?_ ?_
  rotate_left
  · rw [show σ 1 749 = sc σ 1 (cpi (σ 1) (σ 0) 0) 1 749 from (cpi_out (f := σ 1) (w := σ 0) (o := 0) (k := 749) (by omega)).symm, show σ 1 823 = sc σ 1 (cpi (σ 1) (σ 0) 0) 1 823 from (cpi_out (f := σ 1) (w := σ 0) (o := 0) (k := 823) (by omega)).symm]
  refine leW_i ?_ (fun k h1 h2 => ?_)
  rotate_left
  · show σ 1 (759 + k) = (cpi (σ 1) (σ 0) 0) (759 + k)
    unfold cpi
    rw [if_neg (by omega)]
  refine leW_i ?_ (fun k h1 h2 => ?_)
  rotate_left
  · show σ 1 (750 + k) = (cpi (σ 1) (σ 0) 0) (750 + k)
    unfold cpi
    rw [if_neg (by omega)]
  refine leW_i ?_ (fun k h1 h2 => ?_)
  rotate_left
  · show σ 1 (824 + k) = (cpi (σ 1) (σ 0) 0) (824 + k)
    unfold cpi
    rw [if_neg (by omega)]
  refine leW_i ?_ (fun k h1 h2 => ?_)
  rotate_left
  · show σ 1 (840 + k) = (cpi (σ 1) (σ 0) 0) (840 + k)
    unfold cpi
    rw [if_neg (by omega)]
  refine leW_k ?_
  refine leW_k ?_
  refine leW_k ?_
  refine leW_k ?_
  refine leW_k ?_
  refine leW_k ?_
  refine leW_k ?_
  refine leW_k ?_
  refine leW_k ?_
  refine leW_k ?_
  refine leW_k ?_
  exact leW_0
theorem wx_cp_p1 {G : va_G} {cx a : Nat → Nat} {σ : Nat → Int → Int} : leW G vwCl [(a 0, .inr (4, [.ref (a 3), .ref (a 8), .ref (a 14), .ref (a 17), .ref (a 59), .ref (a 1), .ref (a 2)])), (a 1, .inl (cx 2, 2, .inl (aI (σ 11)))), (a 2, .inl (cx 0, 16, .inl (aI (σ 13)))), (a 3, .inr (2, [.int (iI (σ 0 0)), .int (iI (σ 0 74)), .ref (a 4), .ref (a 5), .ref (a 6), .ref (a 7)])), (a 4, .inl (cx 0, 64, .inl (aI (fun k => σ 0 (10 + k))))), (a 5, .inl (cx 0, 9, .inl (aI (fun k => σ 0 (1 + k))))), (a 6, .inl (cx 0, 16, .inl (aI (fun k => σ 0 (75 + k))))), (a 7, .inl (cx 0, 16, .inl (aI (fun k => σ 0 (91 + k))))), (a 8, .inr (0, [.ref (a 3), .int (iI (σ 21 0)), .int (iI (σ 21 1)), .ref (a 9), .ref (a 10), .ref (a 11), .ref (a 12), .ref (a 13)])), (a 9, .inl (cx 0, 33, .inl (aI (σ 14)))), (a 10, .inl (cx 0, 16, .inl (aI (σ 15)))), (a 11, .inl (cx 0, 16, .inl (aI (σ 16)))), (a 12, .inl (cx 0, 561, .inl (aI (σ 17)))), (a 13, .inl (cx 0, 17, .inl (aI (σ 18)))), (a 14, .inr (3, [.ref (a 3), .ref (a 8), .ref (a 15), .ref (a 16)])), (a 15, .inl (cx 0, 16, .inl (aI (σ 19)))), (a 16, .inl (cx 1, 16, .inr (.inl (aL (σ 20))))), (a 17, .inr (1, [.ref (a 18), .int (iI (σ 12 0)), .int (iI (σ 12 1))])), (a 18, .inl (cx 3, 8, .inr (.inr (.inr (.inr (fun k => some (a (19 + 5 * k)))))))), (a 19, .inr (2, [.int (iI (σ 1 0)), .int (iI (σ 1 74)), .ref (a 20), .ref (a 21), .ref (a 22), .ref (a 23)])), (a 20, .inl (cx 0, 64, .inl (aI (fun k => σ 1 (10 + k))))), (a 21, .inl (cx 0, 9, .inl (aI (fun k => σ 1 (1 + k))))), (a 22, .inl (cx 0, 16, .inl (aI (fun k => σ 1 (75 + k))))), (a 23, .inl (cx 0, 16, .inl (aI (fun k => σ 1 (91 + k))))), (a 24, .inr (2, [.int (iI (σ 0 0)), .int (iI (σ 0 74)), .ref (a 25), .ref (a 26), .ref (a 27), .ref (a 28)])), (a 25, .inl (cx 0, 64, .inl (va_cpy (aI (fun k => σ 0 (10 + k))) (aI (fun k => σ 1 (117 + k))) (iI 0).toNatClampNeg (iI 0).toNatClampNeg (iI 64).toNatClampNeg))), (a 26, .inl (cx 0, 9, .inl (va_cpy (aI (fun k => σ 0 (1 + k))) (aI (fun k => σ 1 (108 + k))) (iI 0).toNatClampNeg (iI 0).toNatClampNeg (iI 9).toNatClampNeg))), (a 27, .inl (cx 0, 16, .inl (va_cpy (aI (fun k => σ 0 (75 + k))) (aI (fun k => σ 1 (182 + k))) (iI 0).toNatClampNeg (iI 0).toNatClampNeg (iI 16).toNatClampNeg))), (a 28, .inl (cx 0, 16, .inl (va_cpy (aI (fun k => σ 0 (91 + k))) (aI (fun k => σ 1 (198 + k))) (iI 0).toNatClampNeg (iI 0).toNatClampNeg (iI 16).toNatClampNeg))), (a 29, .inr (2, [.int (iI (σ 1 214)), .int (iI (σ 1 288)), .ref (a 30), .ref (a 31), .ref (a 32), .ref (a 33)])), (a 30, .inl (cx 0, 64, .inl (aI (fun k => σ 1 (224 + k))))), (a 31, .inl (cx 0, 9, .inl (aI (fun k => σ 1 (215 + k))))), (a 32, .inl (cx 0, 16, .inl (aI (fun k => σ 1 (289 + k))))), (a 33, .inl (cx 0, 16, .inl (aI (fun k => σ 1 (305 + k))))), (a 34, .inr (2, [.int (iI (σ 1 321)), .int (iI (σ 1 395)), .ref (a 35), .ref (a 36), .ref (a 37), .ref (a 38)])), (a 35, .inl (cx 0, 64, .inl (aI (fun k => σ 1 (331 + k))))), (a 36, .inl (cx 0, 9, .inl (aI (fun k => σ 1 (322 + k))))), (a 37, .inl (cx 0, 16, .inl (aI (fun k => σ 1 (396 + k))))), (a 38, .inl (cx 0, 16, .inl (aI (fun k => σ 1 (412 + k))))), (a 39, .inr (2, [.int (iI (σ 1 428)), .int (iI (σ 1 502)), .ref (a 40), .ref (a 41), .ref (a 42), .ref (a 43)])), (a 40, .inl (cx 0, 64, .inl (aI (fun k => σ 1 (438 + k))))), (a 41, .inl (cx 0, 9, .inl (aI (fun k => σ 1 (429 + k))))), (a 42, .inl (cx 0, 16, .inl (aI (fun k => σ 1 (503 + k))))), (a 43, .inl (cx 0, 16, .inl (aI (fun k => σ 1 (519 + k))))), (a 44, .inr (2, [.int (iI (σ 1 535)), .int (iI (σ 1 609)), .ref (a 45), .ref (a 46), .ref (a 47), .ref (a 48)])), (a 45, .inl (cx 0, 64, .inl (aI (fun k => σ 1 (545 + k))))), (a 46, .inl (cx 0, 9, .inl (aI (fun k => σ 1 (536 + k))))), (a 47, .inl (cx 0, 16, .inl (aI (fun k => σ 1 (610 + k))))), (a 48, .inl (cx 0, 16, .inl (aI (fun k => σ 1 (626 + k))))), (a 49, .inr (2, [.int (iI (σ 1 642)), .int (iI (σ 1 716)), .ref (a 50), .ref (a 51), .ref (a 52), .ref (a 53)])), (a 50, .inl (cx 0, 64, .inl (aI (fun k => σ 1 (652 + k))))), (a 51, .inl (cx 0, 9, .inl (aI (fun k => σ 1 (643 + k))))), (a 52, .inl (cx 0, 16, .inl (aI (fun k => σ 1 (717 + k))))), (a 53, .inl (cx 0, 16, .inl (aI (fun k => σ 1 (733 + k))))), (a 54, .inr (2, [.int (iI (σ 1 749)), .int (iI (σ 1 823)), .ref (a 55), .ref (a 56), .ref (a 57), .ref (a 58)])), (a 55, .inl (cx 0, 64, .inl (aI (fun k => σ 1 (759 + k))))), (a 56, .inl (cx 0, 9, .inl (aI (fun k => σ 1 (750 + k))))), (a 57, .inl (cx 0, 16, .inl (aI (fun k => σ 1 (824 + k))))), (a 58, .inl (cx 0, 16, .inl (aI (fun k => σ 1 (840 + k))))), (a 59, .inl (cx 3, 2, .inr (.inr (.inr (.inr (fun k => some (a (60 + 5 * k)))))))), (a 60, .inr (2, [.int (iI (σ 9 0)), .int (iI (σ 9 74)), .ref (a 61), .ref (a 62), .ref (a 63), .ref (a 64)])), (a 61, .inl (cx 0, 64, .inl (aI (fun k => σ 9 (10 + k))))), (a 62, .inl (cx 0, 9, .inl (aI (fun k => σ 9 (1 + k))))), (a 63, .inl (cx 0, 16, .inl (aI (fun k => σ 9 (75 + k))))), (a 64, .inl (cx 0, 16, .inl (aI (fun k => σ 9 (91 + k))))), (a 65, .inr (2, [.int (iI (σ 9 107)), .int (iI (σ 9 181)), .ref (a 66), .ref (a 67), .ref (a 68), .ref (a 69)])), (a 66, .inl (cx 0, 64, .inl (aI (fun k => σ 9 (117 + k))))), (a 67, .inl (cx 0, 9, .inl (aI (fun k => σ 9 (108 + k))))), (a 68, .inl (cx 0, 16, .inl (aI (fun k => σ 9 (182 + k))))), (a 69, .inl (cx 0, 16, .inl (aI (fun k => σ 9 (198 + k)))))] (wx cx a (sc σ 1 (cpi (σ 1) (σ 0) 107))) := by
  refine leW_k ?_
  refine leW_k ?_
  refine leW_k ?_
  refine leW_k ?_
  refine leW_k ?_
  refine leW_k ?_
  refine leW_k ?_
  refine leW_k ?_
  refine leW_k ?_
  refine leW_k ?_
  refine leW_k ?_
  refine leW_k ?_
  refine leW_k ?_
  refine leW_k ?_
  refine leW_k ?_
  refine leW_k ?_
  refine leW_k ?_
  refine leW_k ?_
  refine leW_k ?_
  refine leW_o ?_ ?_
  rotate_left
  · rw [show σ 1 0 = sc σ 1 (cpi (σ 1) (σ 0) 107) 1 0 from (cpi_out (f := σ 1) (w := σ 0) (o := 107) (k := 0) (by omega)).symm, show σ 1 74 = sc σ 1 (cpi (σ 1) (σ 0) 107) 1 74 from (cpi_out (f := σ 1) (w := σ 0) (o := 107) (k := 74) (by omega)).symm]
  refine leW_i ?_ (fun k h1 h2 => ?_)
  rotate_left
  · show σ 1 (10 + k) = (cpi (σ 1) (σ 0) 107) (10 + k)
    unfold cpi
    rw [if_neg (by omega)]
  refine leW_i ?_ (fun k h1 h2 => ?_)
  rotate_left
  · show σ 1 (1 + k) = (cpi (σ 1) (σ 0) 107) (1 + k)
    unfold cpi
    rw [if_neg (by omega)]
  refine leW_i ?_ (fun k h1 h2 => ?_)
  rotate_left
  · show σ 1 (75 + k) = (cpi (σ 1) (σ 0) 107) (75 + k)
    unfold cpi
    rw [if_neg (by omega)]
  refine leW_i ?_ (fun k h1 h2 => ?_)
  rotate_left
  · show σ 1 (91 + k) = (cpi (σ 1) (σ 0) 107) (91 + k)
    unfold cpi
    rw [if_neg (by omega)]
  refine leW_o ?_ ?_
  rotate_left
  · rw [show σ 0 0 = sc σ 1 (cpi (σ 1) (σ 0) 107) 1 107 from (cpi_in (f := σ 1) (w := σ 0) (o := 107) (k := 107) (by omega)).symm, show σ 0 74 = sc σ 1 (cpi (σ 1) (σ 0) 107) 1 181 from (cpi_in (f := σ 1) (w := σ 0) (o := 107) (k := 181) (by omega)).symm]
  refine leW_c ?_ (fun k h1 h2 => ?_)
  rotate_left
  · show σ 0 (10 + k) = (cpi (σ 1) (σ 0) 107) (117 + k)
    first | unfold cpi | unfold cpo
    rw [if_pos (by omega)]
    first | rfl | exact congrArg _ (by omega)
  refine leW_c ?_ (fun k h1 h2 => ?_)
  rotate_left
  · show σ 0 (1 + k) = (cpi (σ 1) (σ 0) 107) (108 + k)
    first | unfold cpi | unfold cpo
    rw [if_pos (by omega)]
    first | rfl | exact congrArg _ (by omega)
  refine leW_c ?_ (fun k h1 h2 => ?_)
  rotate_left
  · show σ 0 (75 + k) = (cpi (σ 1) (σ 0) 107) (182 + k)
    first | unfold cpi | unfold cpo
    rw [if_pos (by omega)]
    first | rfl | exact congrArg _ (by omega)
  refine leW_c ?_ (fun k h1 h2 => ?_)
  rotate_left
  · show σ 0 (91 + k) = (cpi (σ 1) (σ 0) 107) (198 + k)
    first | unfold cpi | unfold cpo
    rw [if_pos (by omega)]
    first | rfl | exact congrArg _ (by omega)
  refine leW_o ?_ ?_
  rotate_left
  · rw [show σ 1 214 = sc σ 1 (cpi (σ 1) (σ 0) 107) 1 214 from (cpi_out (f := σ 1) (w := σ 0) (o := 107) (k := 214) (by omega)).symm, show σ 1 288 = sc σ 1 (cpi (σ 1) (σ 0) 107) 1 288 from (cpi_out (f := σ 1) (w := σ 0) (o := 107) (k := 288) (by omega)).symm]
  refine leW_i ?_ (fun k h1 h2 => ?_)
  rotate_left
  · show σ 1 (224 + k) = (cpi (σ 1) (σ 0) 107) (224 + k)
    unfold cpi
    rw [if_neg (by omega)]
  refine leW_i ?_ (fun k h1 h2 => ?_)
  rotate_left
  · show σ 1 (215 + k) = (cpi (σ 1) (σ 0) 107) (215 + k)
    unfold cpi
    rw [if_neg (by omega)]
  refine leW_i ?_ (fun k h1 h2 => ?_)
  rotate_left
  · show σ 1 (289 + k) = (cpi (σ 1) (σ 0) 107) (289 + k)
    unfold cpi
    rw [if_neg (by omega)]
  refine leW_i ?_ (fun k h1 h2 => ?_)
  rotate_left
  · show σ 1 (305 + k) = (cpi (σ 1) (σ 0) 107) (305 + k)
    unfold cpi
    rw [if_neg (by omega)]
  refine leW_o ?_ ?_
  rotate_left
  · rw [show σ 1 321 = sc σ 1 (cpi (σ 1) (σ 0) 107) 1 321 from (cpi_out (f := σ 1) (w := σ 0) (o := 107) (k := 321) (by omega)).symm, show σ 1 395 = sc σ 1 (cpi (σ 1) (σ 0) 107) 1 395 from (cpi_out (f := σ 1) (w := σ 0) (o := 107) (k := 395) (by omega)).symm]
  refine leW_i ?_ (fun k h1 h2 => ?_)
  rotate_left
  · show σ 1 (331 + k) = (cpi (σ 1) (σ 0) 107) (331 + k)
    unfold cpi
    rw [if_neg (by omega)]
  refine leW_i ?_ (fun k h1 h2 => ?_)
  rotate_left
  · show σ 1 (322 + k) = (cpi (σ 1) (σ 0) 107) (322 + k)
    unfold cpi
    rw [if_neg (by omega)]
  refine leW_i ?_ (fun k h1 h2 => ?_)
  rotate_left
  · show σ 1 (396 + k) = (cpi (σ 1) (σ 0) 107) (396 + k)
    unfold cpi
    rw [if_neg (by omega)]
  refine leW_i ?_ (fun k h1 h2 => ?_)
  rotate_left
  · show σ 1 (412 + k) = (cpi (σ 1) (σ 0) 107) (412 + k)
    unfold cpi
    rw [if_neg (by omega)]
  refine leW_o ?_ ?_
  rotate_left
  · rw [show σ 1 428 = sc σ 1 (cpi (σ 1) (σ 0) 107) 1 428 from (cpi_out (f := σ 1) (w := σ 0) (o := 107) (k := 428) (by omega)).symm, show σ 1 502 = sc σ 1 (cpi (σ 1) (σ 0) 107) 1 502 from (cpi_out (f := σ 1) (w := σ 0) (o := 107) (k := 502) (by omega)).symm]
  refine leW_i ?_ (fun k h1 h2 => ?_)
  rotate_left
  · show σ 1 (438 + k) = (cpi (σ 1) (σ 0) 107) (438 + k)
    unfold cpi
    rw [if_neg (by omega)]
  refine leW_i ?_ (fun k h1 h2 => ?_)
  rotate_left
  · show σ 1 (429 + k) = (cpi (σ 1) (σ 0) 107) (429 + k)
    unfold cpi
    rw [if_neg (by omega)]
  refine leW_i ?_ (fun k h1 h2 => ?_)
  rotate_left
  · show σ 1 (503 + k) = (cpi (σ 1) (σ 0) 107) (503 + k)
    unfold cpi
    rw [if_neg (by omega)]
  refine leW_i ?_ (fun k h1 h2 => ?_)
  rotate_left
  · show σ 1 (519 + k) = (cpi (σ 1) (σ 0) 107) (519 + k)
    unfold cpi
    rw [if_neg (by omega)]
  refine leW_o ?_ ?_
  rotate_left
  · rw [show σ 1 535 = sc σ 1 (cpi (σ 1) (σ 0) 107) 1 535 from (cpi_out (f := σ 1) (w := σ 0) (o := 107) (k := 535) (by omega)).symm, show σ 1 609 = sc σ 1 (cpi (σ 1) (σ 0) 107) 1 609 from (cpi_out (f := σ 1) (w := σ 0) (o := 107) (k := 609) (by omega)).symm]
  refine leW_i ?_ (fun k h1 h2 => ?_)
  rotate_left
  · show σ 1 (545 + k) = (cpi (σ 1) (σ 0) 107) (545 + k)
    unfold cpi
    rw [if_neg (by omega)]
  refine leW_i ?_ (fun k h1 h2 => ?_)
  rotate_left
  · show σ 1 (536 + k) = (cpi (σ 1) (σ 0) 107) (536 + k)
    unfold cpi
    rw [if_neg (by omega)]
  refine leW_i ?_ (fun k h1 h2 => ?_)
  rotate_left
  · show σ 1 (610 + k) = (cpi (σ 1) (σ 0) 107) (610 + k)
    unfold cpi
    rw [if_neg (by omega)]
  refine leW_i ?_ (fun k h1 h2 => ?_)
  rotate_left
  · show σ 1 (626 + k) = (cpi (σ 1) (σ 0) 107) (626 + k)
    unfold cpi
    rw [if_neg (by omega)]
  refine leW_o ?_ ?_
  rotate_left
  · rw [show σ 1 642 = sc σ 1 (cpi (σ 1) (σ 0) 107) 1 642 from (cpi_out (f := σ 1) (w := σ 0) (o := 107) (k := 642) (by omega)).symm, show σ 1 716 = sc σ 1 (cpi (σ 1) (σ 0) 107) 1 716 from (cpi_out (f := σ 1) (w := σ 0) (o := 107) (k := 716) (by omega)).symm]
  refine leW_i ?_ (fun k h1 h2 => ?_)
  rotate_left
  · show σ 1 (652 + k) = (cpi (σ 1) (σ 0) 107) (652 + k)
    unfold cpi
    rw [if_neg (by omega)]
  refine leW_i ?_ (fun k h1 h2 => ?_)
  rotate_left
  · show σ 1 (643 + k) = (cpi (σ 1) (σ 0) 107) (643 + k)
    unfold cpi
    rw [if_neg (by omega)]
  refine leW_i ?_ (fun k h1 h2 => ?_)
  rotate_left
  · show σ 1 (717 + k) = (cpi (σ 1) (σ 0) 107) (717 + k)
    unfold cpi
    rw [if_neg (by omega)]
  refine leW_i ?_ (fun k h1 h2 => ?_)
  rotate_left
  · show σ 1 (733 + k) = (cpi (σ 1) (σ 0) 107) (733 + k)
    unfold cpi
    rw [if_neg (by omega)]
  refine leW_o ?_ ?_
  rotate_left
  · rw [show σ 1 749 = sc σ 1 (cpi (σ 1) (σ 0) 107) 1 749 from (cpi_out (f := σ 1) (w := σ 0) (o := 107) (k := 749) (by omega)).symm, show σ 1 823 = sc σ 1 (cpi (σ 1) (σ 0) 107) 1 823 from (cpi_out (f := σ 1) (w := σ 0) (o := 107) (k := 823) (by omega)).symm]
  refine leW_i ?_ (fun k h1 h2 => ?_)
  rotate_left
  · show σ 1 (759 + k) = (cpi (σ 1) (σ 0) 107) (759 + k)
    unfold cpi
    rw [if_neg (by omega)]
  refine leW_i ?_ (fun k h1 h2 => ?_)
  rotate_left
  · show σ 1 (750 + k) = (cpi (σ 1) (σ 0) 107) (750 + k)
    unfold cpi
    rw [if_neg (by omega)]
  refine leW_i ?_ (fun k h1 h2 => ?_)
  rotate_left
  · show σ 1 (824 + k) = (cpi (σ 1) (σ 0) 107) (824 + k)
    unfold cpi
    rw [if_neg (by omega)]
  refine leW_i ?_ (fun k h1 h2 => ?_)
  rotate_left
  · show σ 1 (840 + k) = (cpi (σ 1) (σ 0) 107) (840 + k)
    unfold cpi
    rw [if_neg (by omega)]
  refine leW_k ?_
  refine leW_k ?_
  refine leW_k ?_
  refine leW_k ?_
  refine leW_k ?_
  refine leW_k ?_
  refine leW_k ?_
  refine leW_k ?_
  refine leW_k ?_
  refine leW_k ?_
  refine leW_k ?_
  exact leW_0
theorem wx_cp_p2 {G : va_G} {cx a : Nat → Nat} {σ : Nat → Int → Int} : leW G vwCl [(a 0, .inr (4, [.ref (a 3), .ref (a 8), .ref (a 14), .ref (a 17), .ref (a 59), .ref (a 1), .ref (a 2)])), (a 1, .inl (cx 2, 2, .inl (aI (σ 11)))), (a 2, .inl (cx 0, 16, .inl (aI (σ 13)))), (a 3, .inr (2, [.int (iI (σ 0 0)), .int (iI (σ 0 74)), .ref (a 4), .ref (a 5), .ref (a 6), .ref (a 7)])), (a 4, .inl (cx 0, 64, .inl (aI (fun k => σ 0 (10 + k))))), (a 5, .inl (cx 0, 9, .inl (aI (fun k => σ 0 (1 + k))))), (a 6, .inl (cx 0, 16, .inl (aI (fun k => σ 0 (75 + k))))), (a 7, .inl (cx 0, 16, .inl (aI (fun k => σ 0 (91 + k))))), (a 8, .inr (0, [.ref (a 3), .int (iI (σ 21 0)), .int (iI (σ 21 1)), .ref (a 9), .ref (a 10), .ref (a 11), .ref (a 12), .ref (a 13)])), (a 9, .inl (cx 0, 33, .inl (aI (σ 14)))), (a 10, .inl (cx 0, 16, .inl (aI (σ 15)))), (a 11, .inl (cx 0, 16, .inl (aI (σ 16)))), (a 12, .inl (cx 0, 561, .inl (aI (σ 17)))), (a 13, .inl (cx 0, 17, .inl (aI (σ 18)))), (a 14, .inr (3, [.ref (a 3), .ref (a 8), .ref (a 15), .ref (a 16)])), (a 15, .inl (cx 0, 16, .inl (aI (σ 19)))), (a 16, .inl (cx 1, 16, .inr (.inl (aL (σ 20))))), (a 17, .inr (1, [.ref (a 18), .int (iI (σ 12 0)), .int (iI (σ 12 1))])), (a 18, .inl (cx 3, 8, .inr (.inr (.inr (.inr (fun k => some (a (19 + 5 * k)))))))), (a 19, .inr (2, [.int (iI (σ 1 0)), .int (iI (σ 1 74)), .ref (a 20), .ref (a 21), .ref (a 22), .ref (a 23)])), (a 20, .inl (cx 0, 64, .inl (aI (fun k => σ 1 (10 + k))))), (a 21, .inl (cx 0, 9, .inl (aI (fun k => σ 1 (1 + k))))), (a 22, .inl (cx 0, 16, .inl (aI (fun k => σ 1 (75 + k))))), (a 23, .inl (cx 0, 16, .inl (aI (fun k => σ 1 (91 + k))))), (a 24, .inr (2, [.int (iI (σ 1 107)), .int (iI (σ 1 181)), .ref (a 25), .ref (a 26), .ref (a 27), .ref (a 28)])), (a 25, .inl (cx 0, 64, .inl (aI (fun k => σ 1 (117 + k))))), (a 26, .inl (cx 0, 9, .inl (aI (fun k => σ 1 (108 + k))))), (a 27, .inl (cx 0, 16, .inl (aI (fun k => σ 1 (182 + k))))), (a 28, .inl (cx 0, 16, .inl (aI (fun k => σ 1 (198 + k))))), (a 29, .inr (2, [.int (iI (σ 0 0)), .int (iI (σ 0 74)), .ref (a 30), .ref (a 31), .ref (a 32), .ref (a 33)])), (a 30, .inl (cx 0, 64, .inl (va_cpy (aI (fun k => σ 0 (10 + k))) (aI (fun k => σ 1 (224 + k))) (iI 0).toNatClampNeg (iI 0).toNatClampNeg (iI 64).toNatClampNeg))), (a 31, .inl (cx 0, 9, .inl (va_cpy (aI (fun k => σ 0 (1 + k))) (aI (fun k => σ 1 (215 + k))) (iI 0).toNatClampNeg (iI 0).toNatClampNeg (iI 9).toNatClampNeg))), (a 32, .inl (cx 0, 16, .inl (va_cpy (aI (fun k => σ 0 (75 + k))) (aI (fun k => σ 1 (289 + k))) (iI 0).toNatClampNeg (iI 0).toNatClampNeg (iI 16).toNatClampNeg))), (a 33, .inl (cx 0, 16, .inl (va_cpy (aI (fun k => σ 0 (91 + k))) (aI (fun k => σ 1 (305 + k))) (iI 0).toNatClampNeg (iI 0).toNatClampNeg (iI 16).toNatClampNeg))), (a 34, .inr (2, [.int (iI (σ 1 321)), .int (iI (σ 1 395)), .ref (a 35), .ref (a 36), .ref (a 37), .ref (a 38)])), (a 35, .inl (cx 0, 64, .inl (aI (fun k => σ 1 (331 + k))))), (a 36, .inl (cx 0, 9, .inl (aI (fun k => σ 1 (322 + k))))), (a 37, .inl (cx 0, 16, .inl (aI (fun k => σ 1 (396 + k))))), (a 38, .inl (cx 0, 16, .inl (aI (fun k => σ 1 (412 + k))))), (a 39, .inr (2, [.int (iI (σ 1 428)), .int (iI (σ 1 502)), .ref (a 40), .ref (a 41), .ref (a 42), .ref (a 43)])), (a 40, .inl (cx 0, 64, .inl (aI (fun k => σ 1 (438 + k))))), (a 41, .inl (cx 0, 9, .inl (aI (fun k => σ 1 (429 + k))))), (a 42, .inl (cx 0, 16, .inl (aI (fun k => σ 1 (503 + k))))), (a 43, .inl (cx 0, 16, .inl (aI (fun k => σ 1 (519 + k))))), (a 44, .inr (2, [.int (iI (σ 1 535)), .int (iI (σ 1 609)), .ref (a 45), .ref (a 46), .ref (a 47), .ref (a 48)])), (a 45, .inl (cx 0, 64, .inl (aI (fun k => σ 1 (545 + k))))), (a 46, .inl (cx 0, 9, .inl (aI (fun k => σ 1 (536 + k))))), (a 47, .inl (cx 0, 16, .inl (aI (fun k => σ 1 (610 + k))))), (a 48, .inl (cx 0, 16, .inl (aI (fun k => σ 1 (626 + k))))), (a 49, .inr (2, [.int (iI (σ 1 642)), .int (iI (σ 1 716)), .ref (a 50), .ref (a 51), .ref (a 52), .ref (a 53)])), (a 50, .inl (cx 0, 64, .inl (aI (fun k => σ 1 (652 + k))))), (a 51, .inl (cx 0, 9, .inl (aI (fun k => σ 1 (643 + k))))), (a 52, .inl (cx 0, 16, .inl (aI (fun k => σ 1 (717 + k))))), (a 53, .inl (cx 0, 16, .inl (aI (fun k => σ 1 (733 + k))))), (a 54, .inr (2, [.int (iI (σ 1 749)), .int (iI (σ 1 823)), .ref (a 55), .ref (a 56), .ref (a 57), .ref (a 58)])), (a 55, .inl (cx 0, 64, .inl (aI (fun k => σ 1 (759 + k))))), (a 56, .inl (cx 0, 9, .inl (aI (fun k => σ 1 (750 + k))))), (a 57, .inl (cx 0, 16, .inl (aI (fun k => σ 1 (824 + k))))), (a 58, .inl (cx 0, 16, .inl (aI (fun k => σ 1 (840 + k))))), (a 59, .inl (cx 3, 2, .inr (.inr (.inr (.inr (fun k => some (a (60 + 5 * k)))))))), (a 60, .inr (2, [.int (iI (σ 9 0)), .int (iI (σ 9 74)), .ref (a 61), .ref (a 62), .ref (a 63), .ref (a 64)])), (a 61, .inl (cx 0, 64, .inl (aI (fun k => σ 9 (10 + k))))), (a 62, .inl (cx 0, 9, .inl (aI (fun k => σ 9 (1 + k))))), (a 63, .inl (cx 0, 16, .inl (aI (fun k => σ 9 (75 + k))))), (a 64, .inl (cx 0, 16, .inl (aI (fun k => σ 9 (91 + k))))), (a 65, .inr (2, [.int (iI (σ 9 107)), .int (iI (σ 9 181)), .ref (a 66), .ref (a 67), .ref (a 68), .ref (a 69)])), (a 66, .inl (cx 0, 64, .inl (aI (fun k => σ 9 (117 + k))))), (a 67, .inl (cx 0, 9, .inl (aI (fun k => σ 9 (108 + k))))), (a 68, .inl (cx 0, 16, .inl (aI (fun k => σ 9 (182 + k))))), (a 69, .inl (cx 0, 16, .inl (aI (fun k => σ 9 (198 + k)))))] (wx cx a (sc σ 1 (cpi (σ 1) (σ 0) 214))) := by
  refine leW_k ?_
  refine leW_k ?_
  refine leW_k ?_
  refine leW_k ?_
  refine leW_k ?_
  refine leW_k ?_
  refine leW_k ?_
  refine leW_k ?_
  refine leW_k ?_
  refine leW_k ?_
  refine leW_k ?_
  refine leW_k ?_
  refine leW_k ?_
  refine leW_k ?_
  refine leW_k ?_
  refine leW_k ?_
  refine leW_k ?_
  refine leW_k ?_
  refine leW_k ?_
  refine leW_o ?_ ?_
  rotate_left
  · rw [show σ 1 0 = sc σ 1 (cpi (σ 1) (σ 0) 214) 1 0 from (cpi_out (f := σ 1) (w := σ 0) (o := 214) (k := 0) (by omega)).symm, show σ 1 74 = sc σ 1 (cpi (σ 1) (σ 0) 214) 1 74 from (cpi_out (f := σ 1) (w := σ 0) (o := 214) (k := 74) (by omega)).symm]
  refine leW_i ?_ (fun k h1 h2 => ?_)
  rotate_left
  · show σ 1 (10 + k) = (cpi (σ 1) (σ 0) 214) (10 + k)
    unfold cpi
    rw [if_neg (by omega)]
  refine leW_i ?_ (fun k h1 h2 => ?_)
  rotate_left
  · show σ 1 (1 + k) = (cpi (σ 1) (σ 0) 214) (1 + k)
    unfold cpi
    rw [if_neg (by omega)]
  refine leW_i ?_ (fun k h1 h2 => ?_)
  rotate_left
  · show σ 1 (75 + k) = (cpi (σ 1) (σ 0) 214) (75 + k)
    unfold cpi
    rw [if_neg (by omega)]
  refine leW_i ?_ (fun k h1 h2 => ?_)
  rotate_left
  · show σ 1 (91 + k) = (cpi (σ 1) (σ 0) 214) (91 + k)
    unfold cpi
    rw [if_neg (by omega)]
  refine leW_o ?_ ?_
  rotate_left
  · rw [show σ 1 107 = sc σ 1 (cpi (σ 1) (σ 0) 214) 1 107 from (cpi_out (f := σ 1) (w := σ 0) (o := 214) (k := 107) (by omega)).symm, show σ 1 181 = sc σ 1 (cpi (σ 1) (σ 0) 214) 1 181 from (cpi_out (f := σ 1) (w := σ 0) (o := 214) (k := 181) (by omega)).symm]
  refine leW_i ?_ (fun k h1 h2 => ?_)
  rotate_left
  · show σ 1 (117 + k) = (cpi (σ 1) (σ 0) 214) (117 + k)
    unfold cpi
    rw [if_neg (by omega)]
  refine leW_i ?_ (fun k h1 h2 => ?_)
  rotate_left
  · show σ 1 (108 + k) = (cpi (σ 1) (σ 0) 214) (108 + k)
    unfold cpi
    rw [if_neg (by omega)]
  refine leW_i ?_ (fun k h1 h2 => ?_)
  rotate_left
  · show σ 1 (182 + k) = (cpi (σ 1) (σ 0) 214) (182 + k)
    unfold cpi
    rw [if_neg (by omega)]
  refine leW_i ?_ (fun k h1 h2 => ?_)
  rotate_left
  · show σ 1 (198 + k) = (cpi (σ 1) (σ 0) 214) (198 + k)
    unfold cpi
    rw [if_neg (by omega)]
  refine leW_o ?_ ?_
  rotate_left
  · rw [show σ 0 0 = sc σ 1 (cpi (σ 1) (σ 0) 214) 1 214 from (cpi_in (f := σ 1) (w := σ 0) (o := 214) (k := 214) (by omega)).symm, show σ 0 74 = sc σ 1 (cpi (σ 1) (σ 0) 214) 1 288 from (cpi_in (f := σ 1) (w := σ 0) (o := 214) (k := 288) (by omega)).symm]
  refine leW_c ?_ (fun k h1 h2 => ?_)
  rotate_left
  · show σ 0 (10 + k) = (cpi (σ 1) (σ 0) 214) (224 + k)
    first | unfold cpi | unfold cpo
    rw [if_pos (by omega)]
    first | rfl | exact congrArg _ (by omega)
  refine leW_c ?_ (fun k h1 h2 => ?_)
  rotate_left
  · show σ 0 (1 + k) = (cpi (σ 1) (σ 0) 214) (215 + k)
    first | unfold cpi | unfold cpo
    rw [if_pos (by omega)]
    first | rfl | exact congrArg _ (by omega)
  refine leW_c ?_ (fun k h1 h2 => ?_)
  rotate_left
  · show σ 0 (75 + k) = (cpi (σ 1) (σ 0) 214) (289 + k)
    first | unfold cpi | unfold cpo
    rw [if_pos (by omega)]
    first | rfl | exact congrArg _ (by omega)
  refine leW_c ?_ (fun k h1 h2 => ?_)
  rotate_left
  · show σ 0 (91 + k) = (cpi (σ 1) (σ 0) 214) (305 + k)
    first | unfold cpi | unfold cpo
    rw [if_pos (by omega)]
    first | rfl | exact congrArg _ (by omega)
  refine leW_o ?_ ?_
  rotate_left
  · rw [show σ 1 321 = sc σ 1 (cpi (σ 1) (σ 0) 214) 1 321 from (cpi_out (f := σ 1) (w := σ 0) (o := 214) (k := 321) (by omega)).symm, show σ 1 395 = sc σ 1 (cpi (σ 1) (σ 0) 214) 1 395 from (cpi_out (f := σ 1) (w := σ 0) (o := 214) (k := 395) (by omega)).symm]
  refine leW_i ?_ (fun k h1 h2 => ?_)
  rotate_left
  · show σ 1 (331 + k) = (cpi (σ 1) (σ 0) 214) (331 + k)
    unfold cpi
    rw [if_neg (by omega)]
  refine leW_i ?_ (fun k h1 h2 => ?_)
  rotate_left
  · show σ 1 (322 + k) = (cpi (σ 1) (σ 0) 214) (322 + k)
    unfold cpi
    rw [if_neg (by omega)]
  refine leW_i ?_ (fun k h1 h2 => ?_)
  rotate_left
  · show σ 1 (396 + k) = (cpi (σ 1) (σ 0) 214) (396 + k)
    unfold cpi
    rw [if_neg (by omega)]
  refine leW_i ?_ (fun k h1 h2 => ?_)
  rotate_left
  · show σ 1 (412 + k) = (cpi (σ 1) (σ 0) 214) (412 + k)
    unfold cpi
    rw [if_neg (by omega)]
  refine leW_o ?_ ?_
  rotate_left
  · rw [show σ 1 428 = sc σ 1 (cpi (σ 1) (σ 0) 214) 1 428 from (cpi_out (f := σ 1) (w := σ 0) (o := 214) (k := 428) (by omega)).symm, show σ 1 502 = sc σ 1 (cpi (σ 1) (σ 0) 214) 1 502 from (cpi_out (f := σ 1) (w := σ 0) (o := 214) (k := 502) (by omega)).symm]
  refine leW_i ?_ (fun k h1 h2 => ?_)
  rotate_left
  · show σ 1 (438 + k) = (cpi (σ 1) (σ 0) 214) (438 + k)
    unfold cpi
    rw [if_neg (by omega)]
  refine leW_i ?_ (fun k h1 h2 => ?_)
  rotate_left
  · show σ 1 (429 + k) = (cpi (σ 1) (σ 0) 214) (429 + k)
    unfold cpi
    rw [if_neg (by omega)]
  refine leW_i ?_ (fun k h1 h2 => ?_)
  rotate_left
  · show σ 1 (503 + k) = (cpi (σ 1) (σ 0) 214) (503 + k)
    unfold cpi
    rw [if_neg (by omega)]
  refine leW_i ?_ (fun k h1 h2 => ?_)
  rotate_left
  · show σ 1 (519 + k) = (cpi (σ 1) (σ 0) 214) (519 + k)
    unfold cpi
    rw [if_neg (by omega)]
  refine leW_o ?_ ?_
  rotate_left
  · rw [show σ 1 535 = sc σ 1 (cpi (σ 1) (σ 0) 214) 1 535 from (cpi_out (f := σ 1) (w := σ 0) (o := 214) (k := 535) (by omega)).symm, show σ 1 609 = sc σ 1 (cpi (σ 1) (σ 0) 214) 1 609 from (cpi_out (f := σ 1) (w := σ 0) (o := 214) (k := 609) (by omega)).symm]
  refine leW_i ?_ (fun k h1 h2 => ?_)
  rotate_left
  · show σ 1 (545 + k) = (cpi (σ 1) (σ 0) 214) (545 + k)
    unfold cpi
    rw [if_neg (by omega)]
  refine leW_i ?_ (fun k h1 h2 => ?_)
  rotate_left
  · show σ 1 (536 + k) = (cpi (σ 1) (σ 0) 214) (536 + k)
    unfold cpi
    rw [if_neg (by omega)]
  refine leW_i ?_ (fun k h1 h2 => ?_)
  rotate_left
  · show σ 1 (610 + k) = (cpi (σ 1) (σ 0) 214) (610 + k)
    unfold cpi
    rw [if_neg (by omega)]
  refine leW_i ?_ (fun k h1 h2 => ?_)
  rotate_left
  · show σ 1 (626 + k) = (cpi (σ 1) (σ 0) 214) (626 + k)
    unfold cpi
    rw [if_neg (by omega)]
  refine leW_o ?_ ?_
  rotate_left
  · rw [show σ 1 642 = sc σ 1 (cpi (σ 1) (σ 0) 214) 1 642 from (cpi_out (f := σ 1) (w := σ 0) (o := 214) (k := 642) (by omega)).symm, show σ 1 716 = sc σ 1 (cpi (σ 1) (σ 0) 214) 1 716 from (cpi_out (f := σ 1) (w := σ 0) (o := 214) (k := 716) (by omega)).symm]
  refine leW_i ?_ (fun k h1 h2 => ?_)
  rotate_left
  · show σ 1 (652 + k) = (cpi (σ 1) (σ 0) 214) (652 + k)
    unfold cpi
    rw [if_neg (by omega)]
  refine leW_i ?_ (fun k h1 h2 => ?_)
  rotate_left
  · show σ 1 (643 + k) = (cpi (σ 1) (σ 0) 214) (643 + k)
    unfold cpi
    rw [if_neg (by omega)]
  refine leW_i ?_ (fun k h1 h2 => ?_)
  rotate_left
  · show σ 1 (717 + k) = (cpi (σ 1) (σ 0) 214) (717 + k)
    unfold cpi
    rw [if_neg (by omega)]
  refine leW_i ?_ (fun k h1 h2 => ?_)
  rotate_left
  · show σ 1 (733 + k) = (cpi (σ 1) (σ 0) 214) (733 + k)
    unfold cpi
    rw [if_neg (by omega)]
  refine leW_o ?_ ?_
  rotate_left
  · rw [show σ 1 749 = sc σ 1 (cpi (σ 1) (σ 0) 214) 1 749 from (cpi_out (f := σ 1) (w := σ 0) (o := 214) (k := 749) (by omega)).symm, show σ 1 823 = sc σ 1 (cpi (σ 1) (σ 0) 214) 1 823 from (cpi_out (f := σ 1) (w := σ 0) (o := 214) (k := 823) (by omega)).symm]
  refine leW_i ?_ (fun k h1 h2 => ?_)
  rotate_left
  · show σ 1 (759 + k) = (cpi (σ 1) (σ 0) 214) (759 + k)
    unfold cpi
    rw [if_neg (by omega)]
  refine leW_i ?_ (fun k h1 h2 => ?_)
  rotate_left
  · show σ 1 (750 + k) = (cpi (σ 1) (σ 0) 214) (750 + k)
    unfold cpi
    rw [if_neg (by omega)]
  refine leW_i ?_ (fun k h1 h2 => ?_)
  rotate_left
  · show σ 1 (824 + k) = (cpi (σ 1) (σ 0) 214) (824 + k)
    unfold cpi
    rw [if_neg (by omega)]
  refine leW_i ?_ (fun k h1 h2 => ?_)
  rotate_left
  · show σ 1 (840 + k) = (cpi (σ 1) (σ 0) 214) (840 + k)
    unfold cpi
    rw [if_neg (by omega)]
  refine leW_k ?_
  refine leW_k ?_
  refine leW_k ?_
  refine leW_k ?_
  refine leW_k ?_
  refine leW_k ?_
  refine leW_k ?_
  refine leW_k ?_
  refine leW_k ?_
  refine leW_k ?_
  refine leW_k ?_
  exact leW_0
theorem wx_cp_p3 {G : va_G} {cx a : Nat → Nat} {σ : Nat → Int → Int} : leW G vwCl [(a 0, .inr (4, [.ref (a 3), .ref (a 8), .ref (a 14), .ref (a 17), .ref (a 59), .ref (a 1), .ref (a 2)])), (a 1, .inl (cx 2, 2, .inl (aI (σ 11)))), (a 2, .inl (cx 0, 16, .inl (aI (σ 13)))), (a 3, .inr (2, [.int (iI (σ 0 0)), .int (iI (σ 0 74)), .ref (a 4), .ref (a 5), .ref (a 6), .ref (a 7)])), (a 4, .inl (cx 0, 64, .inl (aI (fun k => σ 0 (10 + k))))), (a 5, .inl (cx 0, 9, .inl (aI (fun k => σ 0 (1 + k))))), (a 6, .inl (cx 0, 16, .inl (aI (fun k => σ 0 (75 + k))))), (a 7, .inl (cx 0, 16, .inl (aI (fun k => σ 0 (91 + k))))), (a 8, .inr (0, [.ref (a 3), .int (iI (σ 21 0)), .int (iI (σ 21 1)), .ref (a 9), .ref (a 10), .ref (a 11), .ref (a 12), .ref (a 13)])), (a 9, .inl (cx 0, 33, .inl (aI (σ 14)))), (a 10, .inl (cx 0, 16, .inl (aI (σ 15)))), (a 11, .inl (cx 0, 16, .inl (aI (σ 16)))), (a 12, .inl (cx 0, 561, .inl (aI (σ 17)))), (a 13, .inl (cx 0, 17, .inl (aI (σ 18)))), (a 14, .inr (3, [.ref (a 3), .ref (a 8), .ref (a 15), .ref (a 16)])), (a 15, .inl (cx 0, 16, .inl (aI (σ 19)))), (a 16, .inl (cx 1, 16, .inr (.inl (aL (σ 20))))), (a 17, .inr (1, [.ref (a 18), .int (iI (σ 12 0)), .int (iI (σ 12 1))])), (a 18, .inl (cx 3, 8, .inr (.inr (.inr (.inr (fun k => some (a (19 + 5 * k)))))))), (a 19, .inr (2, [.int (iI (σ 1 0)), .int (iI (σ 1 74)), .ref (a 20), .ref (a 21), .ref (a 22), .ref (a 23)])), (a 20, .inl (cx 0, 64, .inl (aI (fun k => σ 1 (10 + k))))), (a 21, .inl (cx 0, 9, .inl (aI (fun k => σ 1 (1 + k))))), (a 22, .inl (cx 0, 16, .inl (aI (fun k => σ 1 (75 + k))))), (a 23, .inl (cx 0, 16, .inl (aI (fun k => σ 1 (91 + k))))), (a 24, .inr (2, [.int (iI (σ 1 107)), .int (iI (σ 1 181)), .ref (a 25), .ref (a 26), .ref (a 27), .ref (a 28)])), (a 25, .inl (cx 0, 64, .inl (aI (fun k => σ 1 (117 + k))))), (a 26, .inl (cx 0, 9, .inl (aI (fun k => σ 1 (108 + k))))), (a 27, .inl (cx 0, 16, .inl (aI (fun k => σ 1 (182 + k))))), (a 28, .inl (cx 0, 16, .inl (aI (fun k => σ 1 (198 + k))))), (a 29, .inr (2, [.int (iI (σ 1 214)), .int (iI (σ 1 288)), .ref (a 30), .ref (a 31), .ref (a 32), .ref (a 33)])), (a 30, .inl (cx 0, 64, .inl (aI (fun k => σ 1 (224 + k))))), (a 31, .inl (cx 0, 9, .inl (aI (fun k => σ 1 (215 + k))))), (a 32, .inl (cx 0, 16, .inl (aI (fun k => σ 1 (289 + k))))), (a 33, .inl (cx 0, 16, .inl (aI (fun k => σ 1 (305 + k))))), (a 34, .inr (2, [.int (iI (σ 0 0)), .int (iI (σ 0 74)), .ref (a 35), .ref (a 36), .ref (a 37), .ref (a 38)])), (a 35, .inl (cx 0, 64, .inl (va_cpy (aI (fun k => σ 0 (10 + k))) (aI (fun k => σ 1 (331 + k))) (iI 0).toNatClampNeg (iI 0).toNatClampNeg (iI 64).toNatClampNeg))), (a 36, .inl (cx 0, 9, .inl (va_cpy (aI (fun k => σ 0 (1 + k))) (aI (fun k => σ 1 (322 + k))) (iI 0).toNatClampNeg (iI 0).toNatClampNeg (iI 9).toNatClampNeg))), (a 37, .inl (cx 0, 16, .inl (va_cpy (aI (fun k => σ 0 (75 + k))) (aI (fun k => σ 1 (396 + k))) (iI 0).toNatClampNeg (iI 0).toNatClampNeg (iI 16).toNatClampNeg))), (a 38, .inl (cx 0, 16, .inl (va_cpy (aI (fun k => σ 0 (91 + k))) (aI (fun k => σ 1 (412 + k))) (iI 0).toNatClampNeg (iI 0).toNatClampNeg (iI 16).toNatClampNeg))), (a 39, .inr (2, [.int (iI (σ 1 428)), .int (iI (σ 1 502)), .ref (a 40), .ref (a 41), .ref (a 42), .ref (a 43)])), (a 40, .inl (cx 0, 64, .inl (aI (fun k => σ 1 (438 + k))))), (a 41, .inl (cx 0, 9, .inl (aI (fun k => σ 1 (429 + k))))), (a 42, .inl (cx 0, 16, .inl (aI (fun k => σ 1 (503 + k))))), (a 43, .inl (cx 0, 16, .inl (aI (fun k => σ 1 (519 + k))))), (a 44, .inr (2, [.int (iI (σ 1 535)), .int (iI (σ 1 609)), .ref (a 45), .ref (a 46), .ref (a 47), .ref (a 48)])), (a 45, .inl (cx 0, 64, .inl (aI (fun k => σ 1 (545 + k))))), (a 46, .inl (cx 0, 9, .inl (aI (fun k => σ 1 (536 + k))))), (a 47, .inl (cx 0, 16, .inl (aI (fun k => σ 1 (610 + k))))), (a 48, .inl (cx 0, 16, .inl (aI (fun k => σ 1 (626 + k))))), (a 49, .inr (2, [.int (iI (σ 1 642)), .int (iI (σ 1 716)), .ref (a 50), .ref (a 51), .ref (a 52), .ref (a 53)])), (a 50, .inl (cx 0, 64, .inl (aI (fun k => σ 1 (652 + k))))), (a 51, .inl (cx 0, 9, .inl (aI (fun k => σ 1 (643 + k))))), (a 52, .inl (cx 0, 16, .inl (aI (fun k => σ 1 (717 + k))))), (a 53, .inl (cx 0, 16, .inl (aI (fun k => σ 1 (733 + k))))), (a 54, .inr (2, [.int (iI (σ 1 749)), .int (iI (σ 1 823)), .ref (a 55), .ref (a 56), .ref (a 57), .ref (a 58)])), (a 55, .inl (cx 0, 64, .inl (aI (fun k => σ 1 (759 + k))))), (a 56, .inl (cx 0, 9, .inl (aI (fun k => σ 1 (750 + k))))), (a 57, .inl (cx 0, 16, .inl (aI (fun k => σ 1 (824 + k))))), (a 58, .inl (cx 0, 16, .inl (aI (fun k => σ 1 (840 + k))))), (a 59, .inl (cx 3, 2, .inr (.inr (.inr (.inr (fun k => some (a (60 + 5 * k)))))))), (a 60, .inr (2, [.int (iI (σ 9 0)), .int (iI (σ 9 74)), .ref (a 61), .ref (a 62), .ref (a 63), .ref (a 64)])), (a 61, .inl (cx 0, 64, .inl (aI (fun k => σ 9 (10 + k))))), (a 62, .inl (cx 0, 9, .inl (aI (fun k => σ 9 (1 + k))))), (a 63, .inl (cx 0, 16, .inl (aI (fun k => σ 9 (75 + k))))), (a 64, .inl (cx 0, 16, .inl (aI (fun k => σ 9 (91 + k))))), (a 65, .inr (2, [.int (iI (σ 9 107)), .int (iI (σ 9 181)), .ref (a 66), .ref (a 67), .ref (a 68), .ref (a 69)])), (a 66, .inl (cx 0, 64, .inl (aI (fun k => σ 9 (117 + k))))), (a 67, .inl (cx 0, 9, .inl (aI (fun k => σ 9 (108 + k))))), (a 68, .inl (cx 0, 16, .inl (aI (fun k => σ 9 (182 + k))))), (a 69, .inl (cx 0, 16, .inl (aI (fun k => σ 9 (198 + k)))))] (wx cx a (sc σ 1 (cpi (σ 1) (σ 0) 321))) := by
  refine leW_k ?_
  refine leW_k ?_
  refine leW_k ?_
  refine leW_k ?_
  refine leW_k ?_
  refine leW_k ?_
  refine leW_k ?_
  refine leW_k ?_
  refine leW_k ?_
  refine leW_k ?_
  refine leW_k ?_
  refine leW_k ?_
  refine leW_k ?_
  refine leW_k ?_
  refine leW_k ?_
  refine leW_k ?_
  refine leW_k ?_
  refine leW_k ?_
  refine leW_k ?_
  refine leW_o ?_ ?_
  rotate_left
  · rw [show σ 1 0 = sc σ 1 (cpi (σ 1) (σ 0) 321) 1 0 from (cpi_out (f := σ 1) (w := σ 0) (o := 321) (k := 0) (by omega)).symm, show σ 1 74 = sc σ 1 (cpi (σ 1) (σ 0) 321) 1 74 from (cpi_out (f := σ 1) (w := σ 0) (o := 321) (k := 74) (by omega)).symm]
  refine leW_i ?_ (fun k h1 h2 => ?_)
  rotate_left
  · show σ 1 (10 + k) = (cpi (σ 1) (σ 0) 321) (10 + k)
    unfold cpi
    rw [if_neg (by omega)]
  refine leW_i ?_ (fun k h1 h2 => ?_)
  rotate_left
  · show σ 1 (1 + k) = (cpi (σ 1) (σ 0) 321) (1 + k)
    unfold cpi
    rw [if_neg (by omega)]
  refine leW_i ?_ (fun k h1 h2 => ?_)
  rotate_left
  · show σ 1 (75 + k) = (cpi (σ 1) (σ 0) 321) (75 + k)
    unfold cpi
    rw [if_neg (by omega)]
  refine leW_i ?_ (fun k h1 h2 => ?_)
  rotate_left
  · show σ 1 (91 + k) = (cpi (σ 1) (σ 0) 321) (91 + k)
    unfold cpi
    rw [if_neg (by omega)]
  refine leW_o ?_ ?_
  rotate_left
  · rw [show σ 1 107 = sc σ 1 (cpi (σ 1) (σ 0) 321) 1 107 from (cpi_out (f := σ 1) (w := σ 0) (o := 321) (k := 107) (by omega)).symm, show σ 1 181 = sc σ 1 (cpi (σ 1) (σ 0) 321) 1 181 from (cpi_out (f := σ 1) (w := σ 0) (o := 321) (k := 181) (by omega)).symm]
  refine leW_i ?_ (fun k h1 h2 => ?_)
  rotate_left
  · show σ 1 (117 + k) = (cpi (σ 1) (σ 0) 321) (117 + k)
    unfold cpi
    rw [if_neg (by omega)]
  refine leW_i ?_ (fun k h1 h2 => ?_)
  rotate_left
  · show σ 1 (108 + k) = (cpi (σ 1) (σ 0) 321) (108 + k)
    unfold cpi
    rw [if_neg (by omega)]
  refine leW_i ?_ (fun k h1 h2 => ?_)
  rotate_left
  · show σ 1 (182 + k) = (cpi (σ 1) (σ 0) 321) (182 + k)
    unfold cpi
    rw [if_neg (by omega)]
  refine leW_i ?_ (fun k h1 h2 => ?_)
  rotate_left
  · show σ 1 (198 + k) = (cpi (σ 1) (σ 0) 321) (198 + k)
    unfold cpi
    rw [if_neg (by omega)]
  refine leW_o ?_ ?_
  rotate_left
  · rw [show σ 1 214 = sc σ 1 (cpi (σ 1) (σ 0) 321) 1 214 from (cpi_out (f := σ 1) (w := σ 0) (o := 321) (k := 214) (by omega)).symm, show σ 1 288 = sc σ 1 (cpi (σ 1) (σ 0) 321) 1 288 from (cpi_out (f := σ 1) (w := σ 0) (o := 321) (k := 288) (by omega)).symm]
  refine leW_i ?_ (fun k h1 h2 => ?_)
  rotate_left
  · show σ 1 (224 + k) = (cpi (σ 1) (σ 0) 321) (224 + k)
    unfold cpi
    rw [if_neg (by omega)]
  refine leW_i ?_ (fun k h1 h2 => ?_)
  rotate_left
  · show σ 1 (215 + k) = (cpi (σ 1) (σ 0) 321) (215 + k)
    unfold cpi
    rw [if_neg (by omega)]
  refine leW_i ?_ (fun k h1 h2 => ?_)
  rotate_left
  · show σ 1 (289 + k) = (cpi (σ 1) (σ 0) 321) (289 + k)
    unfold cpi
    rw [if_neg (by omega)]
  refine leW_i ?_ (fun k h1 h2 => ?_)
  rotate_left
  · show σ 1 (305 + k) = (cpi (σ 1) (σ 0) 321) (305 + k)
    unfold cpi
    rw [if_neg (by omega)]
  refine leW_o ?_ ?_
  rotate_left
  · rw [show σ 0 0 = sc σ 1 (cpi (σ 1) (σ 0) 321) 1 321 from (cpi_in (f := σ 1) (w := σ 0) (o := 321) (k := 321) (by omega)).symm, show σ 0 74 = sc σ 1 (cpi (σ 1) (σ 0) 321) 1 395 from (cpi_in (f := σ 1) (w := σ 0) (o := 321) (k := 395) (by omega)).symm]
  refine leW_c ?_ (fun k h1 h2 => ?_)
  rotate_left
  · show σ 0 (10 + k) = (cpi (σ 1) (σ 0) 321) (331 + k)
    first | unfold cpi | unfold cpo
    rw [if_pos (by omega)]
    first | rfl | exact congrArg _ (by omega)
  refine leW_c ?_ (fun k h1 h2 => ?_)
  rotate_left
  · show σ 0 (1 + k) = (cpi (σ 1) (σ 0) 321) (322 + k)
    first | unfold cpi | unfold cpo
    rw [if_pos (by omega)]
    first | rfl | exact congrArg _ (by omega)
  refine leW_c ?_ (fun k h1 h2 => ?_)
  rotate_left
  · show σ 0 (75 + k) = (cpi (σ 1) (σ 0) 321) (396 + k)
    first | unfold cpi | unfold cpo
    rw [if_pos (by omega)]
    first | rfl | exact congrArg _ (by omega)
  refine leW_c ?_ (fun k h1 h2 => ?_)
  rotate_left
  · show σ 0 (91 + k) = (cpi (σ 1) (σ 0) 321) (412 + k)
    first | unfold cpi | unfold cpo
    rw [if_pos (by omega)]
    first | rfl | exact congrArg _ (by omega)
  refine leW_o ?_ ?_
  rotate_left
  · rw [show σ 1 428 = sc σ 1 (cpi (σ 1) (σ 0) 321) 1 428 from (cpi_out (f := σ 1) (w := σ 0) (o := 321) (k := 428) (by omega)).symm, show σ 1 502 = sc σ 1 (cpi (σ 1) (σ 0) 321) 1 502 from (cpi_out (f := σ 1) (w := σ 0) (o := 321) (k := 502) (by omega)).symm]
  refine leW_i ?_ (fun k h1 h2 => ?_)
  rotate_left
  · show σ 1 (438 + k) = (cpi (σ 1) (σ 0) 321) (438 + k)
    unfold cpi
    rw [if_neg (by omega)]
  refine leW_i ?_ (fun k h1 h2 => ?_)
  rotate_left
  · show σ 1 (429 + k) = (cpi (σ 1) (σ 0) 321) (429 + k)
    unfold cpi
    rw [if_neg (by omega)]
  refine leW_i ?_ (fun k h1 h2 => ?_)
  rotate_left
  · show σ 1 (503 + k) = (cpi (σ 1) (σ 0) 321) (503 + k)
    unfold cpi
    rw [if_neg (by omega)]
  refine leW_i ?_ (fun k h1 h2 => ?_)
  rotate_left
  · show σ 1 (519 + k) = (cpi (σ 1) (σ 0) 321) (519 + k)
    unfold cpi
    rw [if_neg (by omega)]
  refine leW_o ?_ ?_
  rotate_left
  · rw [show σ 1 535 = sc σ 1 (cpi (σ 1) (σ 0) 321) 1 535 from (cpi_out (f := σ 1) (w := σ 0) (o := 321) (k := 535) (by omega)).symm, show σ 1 609 = sc σ 1 (cpi (σ 1) (σ 0) 321) 1 609 from (cpi_out (f := σ 1) (w := σ 0) (o := 321) (k := 609) (by omega)).symm]
  refine leW_i ?_ (fun k h1 h2 => ?_)
  rotate_left
  · show σ 1 (545 + k) = (cpi (σ 1) (σ 0) 321) (545 + k)
    unfold cpi
    rw [if_neg (by omega)]
  refine leW_i ?_ (fun k h1 h2 => ?_)
  rotate_left
  · show σ 1 (536 + k) = (cpi (σ 1) (σ 0) 321) (536 + k)
    unfold cpi
    rw [if_neg (by omega)]
  refine leW_i ?_ (fun k h1 h2 => ?_)
  rotate_left
  · show σ 1 (610 + k) = (cpi (σ 1) (σ 0) 321) (610 + k)
    unfold cpi
    rw [if_neg (by omega)]
  refine leW_i ?_ (fun k h1 h2 => ?_)
  rotate_left
  · show σ 1 (626 + k) = (cpi (σ 1) (σ 0) 321) (626 + k)
    unfold cpi
    rw [if_neg (by omega)]
  refine leW_o ?_ ?_
  rotate_left
  · rw [show σ 1 642 = sc σ 1 (cpi (σ 1) (σ 0) 321) 1 642 from (cpi_out (f := σ 1) (w := σ 0) (o := 321) (k := 642) (by omega)).symm, show σ 1 716 = sc σ 1 (cpi (σ 1) (σ 0) 321) 1 716 from (cpi_out (f := σ 1) (w := σ 0) (o := 321) (k := 716) (by omega)).symm]
  refine leW_i ?_ (fun k h1 h2 => ?_)
  rotate_left
  · show σ 1 (652 + k) = (cpi (σ 1) (σ 0) 321) (652 + k)
    unfold cpi
    rw [if_neg (by omega)]
  refine leW_i ?_ (fun k h1 h2 => ?_)
  rotate_left
  · show σ 1 (643 + k) = (cpi (σ 1) (σ 0) 321) (643 + k)
    unfold cpi
    rw [if_neg (by omega)]
  refine leW_i ?_ (fun k h1 h2 => ?_)
  rotate_left
  · show σ 1 (717 + k) = (cpi (σ 1) (σ 0) 321) (717 + k)
    unfold cpi
    rw [if_neg (by omega)]
  refine leW_i ?_ (fun k h1 h2 => ?_)
  rotate_left
  · show σ 1 (733 + k) = (cpi (σ 1) (σ 0) 321) (733 + k)
    unfold cpi
    rw [if_neg (by omega)]
  refine leW_o ?_ ?_
  rotate_left
  · rw [show σ 1 749 = sc σ 1 (cpi (σ 1) (σ 0) 321) 1 749 from (cpi_out (f := σ 1) (w := σ 0) (o := 321) (k := 749) (by omega)).symm, show σ 1 823 = sc σ 1 (cpi (σ 1) (σ 0) 321) 1 823 from (cpi_out (f := σ 1) (w := σ 0) (o := 321) (k := 823) (by omega)).symm]
  refine leW_i ?_ (fun k h1 h2 => ?_)
  rotate_left
  · show σ 1 (759 + k) = (cpi (σ 1) (σ 0) 321) (759 + k)
    unfold cpi
    rw [if_neg (by omega)]
  refine leW_i ?_ (fun k h1 h2 => ?_)
  rotate_left
  · show σ 1 (750 + k) = (cpi (σ 1) (σ 0) 321) (750 + k)
    unfold cpi
    rw [if_neg (by omega)]
  refine leW_i ?_ (fun k h1 h2 => ?_)
  rotate_left
  · show σ 1 (824 + k) = (cpi (σ 1) (σ 0) 321) (824 + k)
    unfold cpi
    rw [if_neg (by omega)]
  refine leW_i ?_ (fun k h1 h2 => ?_)
  rotate_left
  · show σ 1 (840 + k) = (cpi (σ 1) (σ 0) 321) (840 + k)
    unfold cpi
    rw [if_neg (by omega)]
  refine leW_k ?_
  refine leW_k ?_
  refine leW_k ?_
  refine leW_k ?_
  refine leW_k ?_
  refine leW_k ?_
  refine leW_k ?_
  refine leW_k ?_
  refine leW_k ?_
  refine leW_k ?_
  refine leW_k ?_
  exact leW_0
theorem wx_cp_p4 {G : va_G} {cx a : Nat → Nat} {σ : Nat → Int → Int} : leW G vwCl [(a 0, .inr (4, [.ref (a 3), .ref (a 8), .ref (a 14), .ref (a 17), .ref (a 59), .ref (a 1), .ref (a 2)])), (a 1, .inl (cx 2, 2, .inl (aI (σ 11)))), (a 2, .inl (cx 0, 16, .inl (aI (σ 13)))), (a 3, .inr (2, [.int (iI (σ 0 0)), .int (iI (σ 0 74)), .ref (a 4), .ref (a 5), .ref (a 6), .ref (a 7)])), (a 4, .inl (cx 0, 64, .inl (aI (fun k => σ 0 (10 + k))))), (a 5, .inl (cx 0, 9, .inl (aI (fun k => σ 0 (1 + k))))), (a 6, .inl (cx 0, 16, .inl (aI (fun k => σ 0 (75 + k))))), (a 7, .inl (cx 0, 16, .inl (aI (fun k => σ 0 (91 + k))))), (a 8, .inr (0, [.ref (a 3), .int (iI (σ 21 0)), .int (iI (σ 21 1)), .ref (a 9), .ref (a 10), .ref (a 11), .ref (a 12), .ref (a 13)])), (a 9, .inl (cx 0, 33, .inl (aI (σ 14)))), (a 10, .inl (cx 0, 16, .inl (aI (σ 15)))), (a 11, .inl (cx 0, 16, .inl (aI (σ 16)))), (a 12, .inl (cx 0, 561, .inl (aI (σ 17)))), (a 13, .inl (cx 0, 17, .inl (aI (σ 18)))), (a 14, .inr (3, [.ref (a 3), .ref (a 8), .ref (a 15), .ref (a 16)])), (a 15, .inl (cx 0, 16, .inl (aI (σ 19)))), (a 16, .inl (cx 1, 16, .inr (.inl (aL (σ 20))))), (a 17, .inr (1, [.ref (a 18), .int (iI (σ 12 0)), .int (iI (σ 12 1))])), (a 18, .inl (cx 3, 8, .inr (.inr (.inr (.inr (fun k => some (a (19 + 5 * k)))))))), (a 19, .inr (2, [.int (iI (σ 1 0)), .int (iI (σ 1 74)), .ref (a 20), .ref (a 21), .ref (a 22), .ref (a 23)])), (a 20, .inl (cx 0, 64, .inl (aI (fun k => σ 1 (10 + k))))), (a 21, .inl (cx 0, 9, .inl (aI (fun k => σ 1 (1 + k))))), (a 22, .inl (cx 0, 16, .inl (aI (fun k => σ 1 (75 + k))))), (a 23, .inl (cx 0, 16, .inl (aI (fun k => σ 1 (91 + k))))), (a 24, .inr (2, [.int (iI (σ 1 107)), .int (iI (σ 1 181)), .ref (a 25), .ref (a 26), .ref (a 27), .ref (a 28)])), (a 25, .inl (cx 0, 64, .inl (aI (fun k => σ 1 (117 + k))))), (a 26, .inl (cx 0, 9, .inl (aI (fun k => σ 1 (108 + k))))), (a 27, .inl (cx 0, 16, .inl (aI (fun k => σ 1 (182 + k))))), (a 28, .inl (cx 0, 16, .inl (aI (fun k => σ 1 (198 + k))))), (a 29, .inr (2, [.int (iI (σ 1 214)), .int (iI (σ 1 288)), .ref (a 30), .ref (a 31), .ref (a 32), .ref (a 33)])), (a 30, .inl (cx 0, 64, .inl (aI (fun k => σ 1 (224 + k))))), (a 31, .inl (cx 0, 9, .inl (aI (fun k => σ 1 (215 + k))))), (a 32, .inl (cx 0, 16, .inl (aI (fun k => σ 1 (289 + k))))), (a 33, .inl (cx 0, 16, .inl (aI (fun k => σ 1 (305 + k))))), (a 34, .inr (2, [.int (iI (σ 1 321)), .int (iI (σ 1 395)), .ref (a 35), .ref (a 36), .ref (a 37), .ref (a 38)])), (a 35, .inl (cx 0, 64, .inl (aI (fun k => σ 1 (331 + k))))), (a 36, .inl (cx 0, 9, .inl (aI (fun k => σ 1 (322 + k))))), (a 37, .inl (cx 0, 16, .inl (aI (fun k => σ 1 (396 + k))))), (a 38, .inl (cx 0, 16, .inl (aI (fun k => σ 1 (412 + k))))), (a 39, .inr (2, [.int (iI (σ 0 0)), .int (iI (σ 0 74)), .ref (a 40), .ref (a 41), .ref (a 42), .ref (a 43)])), (a 40, .inl (cx 0, 64, .inl (va_cpy (aI (fun k => σ 0 (10 + k))) (aI (fun k => σ 1 (438 + k))) (iI 0).toNatClampNeg (iI 0).toNatClampNeg (iI 64).toNatClampNeg))), (a 41, .inl (cx 0, 9, .inl (va_cpy (aI (fun k => σ 0 (1 + k))) (aI (fun k => σ 1 (429 + k))) (iI 0).toNatClampNeg (iI 0).toNatClampNeg (iI 9).toNatClampNeg))), (a 42, .inl (cx 0, 16, .inl (va_cpy (aI (fun k => σ 0 (75 + k))) (aI (fun k => σ 1 (503 + k))) (iI 0).toNatClampNeg (iI 0).toNatClampNeg (iI 16).toNatClampNeg))), (a 43, .inl (cx 0, 16, .inl (va_cpy (aI (fun k => σ 0 (91 + k))) (aI (fun k => σ 1 (519 + k))) (iI 0).toNatClampNeg (iI 0).toNatClampNeg (iI 16).toNatClampNeg))), (a 44, .inr (2, [.int (iI (σ 1 535)), .int (iI (σ 1 609)), .ref (a 45), .ref (a 46), .ref (a 47), .ref (a 48)])), (a 45, .inl (cx 0, 64, .inl (aI (fun k => σ 1 (545 + k))))), (a 46, .inl (cx 0, 9, .inl (aI (fun k => σ 1 (536 + k))))), (a 47, .inl (cx 0, 16, .inl (aI (fun k => σ 1 (610 + k))))), (a 48, .inl (cx 0, 16, .inl (aI (fun k => σ 1 (626 + k))))), (a 49, .inr (2, [.int (iI (σ 1 642)), .int (iI (σ 1 716)), .ref (a 50), .ref (a 51), .ref (a 52), .ref (a 53)])), (a 50, .inl (cx 0, 64, .inl (aI (fun k => σ 1 (652 + k))))), (a 51, .inl (cx 0, 9, .inl (aI (fun k => σ 1 (643 + k))))), (a 52, .inl (cx 0, 16, .inl (aI (fun k => σ 1 (717 + k))))), (a 53, .inl (cx 0, 16, .inl (aI (fun k => σ 1 (733 + k))))), (a 54, .inr (2, [.int (iI (σ 1 749)), .int (iI (σ 1 823)), .ref (a 55), .ref (a 56), .ref (a 57), .ref (a 58)])), (a 55, .inl (cx 0, 64, .inl (aI (fun k => σ 1 (759 + k))))), (a 56, .inl (cx 0, 9, .inl (aI (fun k => σ 1 (750 + k))))), (a 57, .inl (cx 0, 16, .inl (aI (fun k => σ 1 (824 + k))))), (a 58, .inl (cx 0, 16, .inl (aI (fun k => σ 1 (840 + k))))), (a 59, .inl (cx 3, 2, .inr (.inr (.inr (.inr (fun k => some (a (60 + 5 * k)))))))), (a 60, .inr (2, [.int (iI (σ 9 0)), .int (iI (σ 9 74)), .ref (a 61), .ref (a 62), .ref (a 63), .ref (a 64)])), (a 61, .inl (cx 0, 64, .inl (aI (fun k => σ 9 (10 + k))))), (a 62, .inl (cx 0, 9, .inl (aI (fun k => σ 9 (1 + k))))), (a 63, .inl (cx 0, 16, .inl (aI (fun k => σ 9 (75 + k))))), (a 64, .inl (cx 0, 16, .inl (aI (fun k => σ 9 (91 + k))))), (a 65, .inr (2, [.int (iI (σ 9 107)), .int (iI (σ 9 181)), .ref (a 66), .ref (a 67), .ref (a 68), .ref (a 69)])), (a 66, .inl (cx 0, 64, .inl (aI (fun k => σ 9 (117 + k))))), (a 67, .inl (cx 0, 9, .inl (aI (fun k => σ 9 (108 + k))))), (a 68, .inl (cx 0, 16, .inl (aI (fun k => σ 9 (182 + k))))), (a 69, .inl (cx 0, 16, .inl (aI (fun k => σ 9 (198 + k)))))] (wx cx a (sc σ 1 (cpi (σ 1) (σ 0) 428))) := by
  refine leW_k ?_
  refine leW_k ?_
  refine leW_k ?_
  refine leW_k ?_
  refine leW_k ?_
  refine leW_k ?_
  refine leW_k ?_
  refine leW_k ?_
  refine leW_k ?_
  refine leW_k ?_
  refine leW_k ?_
  refine leW_k ?_
  refine leW_k ?_
  refine leW_k ?_
  refine leW_k ?_
  refine leW_k ?_
  refine leW_k ?_
  refine leW_k ?_
  refine leW_k ?_
  refine leW_o ?_ ?_
  rotate_left
  · rw [show σ 1 0 = sc σ 1 (cpi (σ 1) (σ 0) 428) 1 0 from (cpi_out (f := σ 1) (w := σ 0) (o := 428) (k := 0) (by omega)).symm, show σ 1 74 = sc σ 1 (cpi (σ 1) (σ 0) 428) 1 74 from (cpi_out (f := σ 1) (w := σ 0) (o := 428) (k := 74) (by omega)).symm]
  refine leW_i ?_ (fun k h1 h2 => ?_)
  rotate_left
  · show σ 1 (10 + k) = (cpi (σ 1) (σ 0) 428) (10 + k)
    unfold cpi
    rw [if_neg (by omega)]
  refine leW_i ?_ (fun k h1 h2 => ?_)
  rotate_left
  · show σ 1 (1 + k) = (cpi (σ 1) (σ 0) 428) (1 + k)
    unfold cpi
    rw [if_neg (by omega)]
  refine leW_i ?_ (fun k h1 h2 => ?_)
  rotate_left
  · show σ 1 (75 + k) = (cpi (σ 1) (σ 0) 428) (75 + k)
    unfold cpi
    rw [if_neg (by omega)]
  refine leW_i ?_ (fun k h1 h2 => ?_)
  rotate_left
  · show σ 1 (91 + k) = (cpi (σ 1) (σ 0) 428) (91 + k)
    unfold cpi
    rw [if_neg (by omega)]
  refine leW_o ?_ ?_
  rotate_left
  · rw [show σ 1 107 = sc σ 1 (cpi (σ 1) (σ 0) 428) 1 107 from (cpi_out (f := σ 1) (w := σ 0) (o := 428) (k := 107) (by omega)).symm, show σ 1 181 = sc σ 1 (cpi (σ 1) (σ 0) 428) 1 181 from (cpi_out (f := σ 1) (w := σ 0) (o := 428) (k := 181) (by omega)).symm]
  refine leW_i ?_ (fun k h1 h2 => ?_)
  rotate_left
  · show σ 1 (117 + k) = (cpi (σ 1) (σ 0) 428) (117 + k)
    unfold cpi
    rw [if_neg (by omega)]
  refine leW_i ?_ (fun k h1 h2 => ?_)
  rotate_left
  · show σ 1 (108 + k) = (cpi (σ 1) (σ 0) 428) (108 + k)
    unfold cpi
    rw [if_neg (by omega)]
  refine leW_i ?_ (fun k h1 h2 => ?_)
  rotate_left
  · show σ 1 (182 + k) = (cpi (σ 1) (σ 0) 428) (182 + k)
    unfold cpi
    rw [if_neg (by omega)]
  refine leW_i ?_ (fun k h1 h2 => ?_)
  rotate_left
  · show σ 1 (198 + k) = (cpi (σ 1) (σ 0) 428) (198 + k)
    unfold cpi
    rw [if_neg (by omega)]
  refine leW_o ?_ ?_
  rotate_left
  · rw [show σ 1 214 = sc σ 1 (cpi (σ 1) (σ 0) 428) 1 214 from (cpi_out (f := σ 1) (w := σ 0) (o := 428) (k := 214) (by omega)).symm, show σ 1 288 = sc σ 1 (cpi (σ 1) (σ 0) 428) 1 288 from (cpi_out (f := σ 1) (w := σ 0) (o := 428) (k := 288) (by omega)).symm]
  refine leW_i ?_ (fun k h1 h2 => ?_)
  rotate_left
  · show σ 1 (224 + k) = (cpi (σ 1) (σ 0) 428) (224 + k)
    unfold cpi
    rw [if_neg (by omega)]
  refine leW_i ?_ (fun k h1 h2 => ?_)
  rotate_left
  · show σ 1 (215 + k) = (cpi (σ 1) (σ 0) 428) (215 + k)
    unfold cpi
    rw [if_neg (by omega)]
  refine leW_i ?_ (fun k h1 h2 => ?_)
  rotate_left
  · show σ 1 (289 + k) = (cpi (σ 1) (σ 0) 428) (289 + k)
    unfold cpi
    rw [if_neg (by omega)]
  refine leW_i ?_ (fun k h1 h2 => ?_)
  rotate_left
  · show σ 1 (305 + k) = (cpi (σ 1) (σ 0) 428) (305 + k)
    unfold cpi
    rw [if_neg (by omega)]
  refine leW_o ?_ ?_
  rotate_left
  · rw [show σ 1 321 = sc σ 1 (cpi (σ 1) (σ 0) 428) 1 321 from (cpi_out (f := σ 1) (w := σ 0) (o := 428) (k := 321) (by omega)).symm, show σ 1 395 = sc σ 1 (cpi (σ 1) (σ 0) 428) 1 395 from (cpi_out (f := σ 1) (w := σ 0) (o := 428) (k := 395) (by omega)).symm]
  refine leW_i ?_ (fun k h1 h2 => ?_)
  rotate_left
  · show σ 1 (331 + k) = (cpi (σ 1) (σ 0) 428) (331 + k)
    unfold cpi
    rw [if_neg (by omega)]
  refine leW_i ?_ (fun k h1 h2 => ?_)
  rotate_left
  · show σ 1 (322 + k) = (cpi (σ 1) (σ 0) 428) (322 + k)
    unfold cpi
    rw [if_neg (by omega)]
  refine leW_i ?_ (fun k h1 h2 => ?_)
  rotate_left
  · show σ 1 (396 + k) = (cpi (σ 1) (σ 0) 428) (396 + k)
    unfold cpi
    rw [if_neg (by omega)]
  refine leW_i ?_ (fun k h1 h2 => ?_)
  rotate_left
  · show σ 1 (412 + k) = (cpi (σ 1) (σ 0) 428) (412 + k)
    unfold cpi
    rw [if_neg (by omega)]
  refine leW_o ?_ ?_
  rotate_left
  · rw [show σ 0 0 = sc σ 1 (cpi (σ 1) (σ 0) 428) 1 428 from (cpi_in (f := σ 1) (w := σ 0) (o := 428) (k := 428) (by omega)).symm, show σ 0 74 = sc σ 1 (cpi (σ 1) (σ 0) 428) 1 502 from (cpi_in (f := σ 1) (w := σ 0) (o := 428) (k := 502) (by omega)).symm]
  refine leW_c ?_ (fun k h1 h2 => ?_)
  rotate_left
  · show σ 0 (10 + k) = (cpi (σ 1) (σ 0) 428) (438 + k)
    first | unfold cpi | unfold cpo
    rw [if_pos (by omega)]
    first | rfl | exact congrArg _ (by omega)
  refine leW_c ?_ (fun k h1 h2 => ?_)
  rotate_left
  · show σ 0 (1 + k) = (cpi (σ 1) (σ 0) 428) (429 + k)
    first | unfold cpi | unfold cpo
    rw [if_pos (by omega)]
    first | rfl | exact congrArg _ (by omega)
  refine leW_c ?_ (fun k h1 h2 => ?_)
  rotate_left
  · show σ 0 (75 + k) = (cpi (σ 1) (σ 0) 428) (503 + k)
    first | unfold cpi | unfold cpo
    rw [if_pos (by omega)]
    first | rfl | exact congrArg _ (by omega)
  refine leW_c ?_ (fun k h1 h2 => ?_)
  rotate_left
  · show σ 0 (91 + k) = (cpi (σ 1) (σ 0) 428) (519 + k)
    first | unfold cpi | unfold cpo
    rw [if_pos (by omega)]
    first | rfl | exact congrArg _ (by omega)
  refine leW_o ?_ ?_
  rotate_left
  · rw [show σ 1 535 = sc σ 1 (cpi (σ 1) (σ 0) 428) 1 535 from (cpi_out (f := σ 1) (w := σ 0) (o := 428) (k := 535) (by omega)).symm, show σ 1 609 = sc σ 1 (cpi (σ 1) (σ 0) 428) 1 609 from (cpi_out (f := σ 1) (w := σ 0) (o := 428) (k := 609) (by omega)).symm]
  refine leW_i ?_ (fun k h1 h2 => ?_)
  rotate_left
  · show σ 1 (545 + k) = (cpi (σ 1) (σ 0) 428) (545 + k)
    unfold cpi
    rw [if_neg (by omega)]
  refine leW_i ?_ (fun k h1 h2 => ?_)
  rotate_left
  · show σ 1 (536 + k) = (cpi (σ 1) (σ 0) 428) (536 + k)
    unfold cpi
    rw [if_neg (by omega)]
  refine leW_i ?_ (fun k h1 h2 => ?_)
  rotate_left
  · show σ 1 (610 + k) = (cpi (σ 1) (σ 0) 428) (610 + k)
    unfold cpi
    rw [if_neg (by omega)]
  refine leW_i ?_ (fun k h1 h2 => ?_)
  rotate_left
  · show σ 1 (626 + k) = (cpi (σ 1) (σ 0) 428) (626 + k)
    unfold cpi
    rw [if_neg (by omega)]
  refine leW_o ?_ ?_
  rotate_left
  · rw [show σ 1 642 = sc σ 1 (cpi (σ 1) (σ 0) 428) 1 642 from (cpi_out (f := σ 1) (w := σ 0) (o := 428) (k := 642) (by omega)).symm, show σ 1 716 = sc σ 1 (cpi (σ 1) (σ 0) 428) 1 716 from (cpi_out (f := σ 1) (w := σ 0) (o := 428) (k := 716) (by omega)).symm]
  refine leW_i ?_ (fun k h1 h2 => ?_)
  rotate_left
  · show σ 1 (652 + k) = (cpi (σ 1) (σ 0) 428) (652 + k)
    unfold cpi
    rw [if_neg (by omega)]
  refine leW_i ?_ (fun k h1 h2 => ?_)
  rotate_left
  · show σ 1 (643 + k) = (cpi (σ 1) (σ 0) 428) (643 + k)
    unfold cpi
    rw [if_neg (by omega)]
  refine leW_i ?_ (fun k h1 h2 => ?_)
  rotate_left
  · show σ 1 (717 + k) = (cpi (σ 1) (σ 0) 428) (717 + k)
    unfold cpi
    rw [if_neg (by omega)]
  refine leW_i ?_ (fun k h1 h2 => ?_)
  rotate_left
  · show σ 1 (733 + k) = (cpi (σ 1) (σ 0) 428) (733 + k)
    unfold cpi
    rw [if_neg (by omega)]
  refine leW_o ?_ ?_
  rotate_left
  · rw [show σ 1 749 = sc σ 1 (cpi (σ 1) (σ 0) 428) 1 749 from (cpi_out (f := σ 1) (w := σ 0) (o := 428) (k := 749) (by omega)).symm, show σ 1 823 = sc σ 1 (cpi (σ 1) (σ 0) 428) 1 823 from (cpi_out (f := σ 1) (w := σ 0) (o := 428) (k := 823) (by omega)).symm]
  refine leW_i ?_ (fun k h1 h2 => ?_)
  rotate_left
  · show σ 1 (759 + k) = (cpi (σ 1) (σ 0) 428) (759 + k)
    unfold cpi
    rw [if_neg (by omega)]
  refine leW_i ?_ (fun k h1 h2 => ?_)
  rotate_left
  · show σ 1 (750 + k) = (cpi (σ 1) (σ 0) 428) (750 + k)
    unfold cpi
    rw [if_neg (by omega)]
  refine leW_i ?_ (fun k h1 h2 => ?_)
  rotate_left
  · show σ 1 (824 + k) = (cpi (σ 1) (σ 0) 428) (824 + k)
    unfold cpi
    rw [if_neg (by omega)]
  refine leW_i ?_ (fun k h1 h2 => ?_)
  rotate_left
  · show σ 1 (840 + k) = (cpi (σ 1) (σ 0) 428) (840 + k)
    unfold cpi
    rw [if_neg (by omega)]
  refine leW_k ?_
  refine leW_k ?_
  refine leW_k ?_
  refine leW_k ?_
  refine leW_k ?_
  refine leW_k ?_
  refine leW_k ?_
  refine leW_k ?_
  refine leW_k ?_
  refine leW_k ?_
  refine leW_k ?_
  exact leW_0
theorem wx_cp_p5 {G : va_G} {cx a : Nat → Nat} {σ : Nat → Int → Int} : leW G vwCl [(a 0, .inr (4, [.ref (a 3), .ref (a 8), .ref (a 14), .ref (a 17), .ref (a 59), .ref (a 1), .ref (a 2)])), (a 1, .inl (cx 2, 2, .inl (aI (σ 11)))), (a 2, .inl (cx 0, 16, .inl (aI (σ 13)))), (a 3, .inr (2, [.int (iI (σ 0 0)), .int (iI (σ 0 74)), .ref (a 4), .ref (a 5), .ref (a 6), .ref (a 7)])), (a 4, .inl (cx 0, 64, .inl (aI (fun k => σ 0 (10 + k))))), (a 5, .inl (cx 0, 9, .inl (aI (fun k => σ 0 (1 + k))))), (a 6, .inl (cx 0, 16, .inl (aI (fun k => σ 0 (75 + k))))), (a 7, .inl (cx 0, 16, .inl (aI (fun k => σ 0 (91 + k))))), (a 8, .inr (0, [.ref (a 3), .int (iI (σ 21 0)), .int (iI (σ 21 1)), .ref (a 9), .ref (a 10), .ref (a 11), .ref (a 12), .ref (a 13)])), (a 9, .inl (cx 0, 33, .inl (aI (σ 14)))), (a 10, .inl (cx 0, 16, .inl (aI (σ 15)))), (a 11, .inl (cx 0, 16, .inl (aI (σ 16)))), (a 12, .inl (cx 0, 561, .inl (aI (σ 17)))), (a 13, .inl (cx 0, 17, .inl (aI (σ 18)))), (a 14, .inr (3, [.ref (a 3), .ref (a 8), .ref (a 15), .ref (a 16)])), (a 15, .inl (cx 0, 16, .inl (aI (σ 19)))), (a 16, .inl (cx 1, 16, .inr (.inl (aL (σ 20))))), (a 17, .inr (1, [.ref (a 18), .int (iI (σ 12 0)), .int (iI (σ 12 1))])), (a 18, .inl (cx 3, 8, .inr (.inr (.inr (.inr (fun k => some (a (19 + 5 * k)))))))), (a 19, .inr (2, [.int (iI (σ 1 0)), .int (iI (σ 1 74)), .ref (a 20), .ref (a 21), .ref (a 22), .ref (a 23)])), (a 20, .inl (cx 0, 64, .inl (aI (fun k => σ 1 (10 + k))))), (a 21, .inl (cx 0, 9, .inl (aI (fun k => σ 1 (1 + k))))), (a 22, .inl (cx 0, 16, .inl (aI (fun k => σ 1 (75 + k))))), (a 23, .inl (cx 0, 16, .inl (aI (fun k => σ 1 (91 + k))))), (a 24, .inr (2, [.int (iI (σ 1 107)), .int (iI (σ 1 181)), .ref (a 25), .ref (a 26), .ref (a 27), .ref (a 28)])), (a 25, .inl (cx 0, 64, .inl (aI (fun k => σ 1 (117 + k))))), (a 26, .inl (cx 0, 9, .inl (aI (fun k => σ 1 (108 + k))))), (a 27, .inl (cx 0, 16, .inl (aI (fun k => σ 1 (182 + k))))), (a 28, .inl (cx 0, 16, .inl (aI (fun k => σ 1 (198 + k))))), (a 29, .inr (2, [.int (iI (σ 1 214)), .int (iI (σ 1 288)), .ref (a 30), .ref (a 31), .ref (a 32), .ref (a 33)])), (a 30, .inl (cx 0, 64, .inl (aI (fun k => σ 1 (224 + k))))), (a 31, .inl (cx 0, 9, .inl (aI (fun k => σ 1 (215 + k))))), (a 32, .inl (cx 0, 16, .inl (aI (fun k => σ 1 (289 + k))))), (a 33, .inl (cx 0, 16, .inl (aI (fun k => σ 1 (305 + k))))), (a 34, .inr (2, [.int (iI (σ 1 321)), .int (iI (σ 1 395)), .ref (a 35), .ref (a 36), .ref (a 37), .ref (a 38)])), (a 35, .inl (cx 0, 64, .inl (aI (fun k => σ 1 (331 + k))))), (a 36, .inl (cx 0, 9, .inl (aI (fun k => σ 1 (322 + k))))), (a 37, .inl (cx 0, 16, .inl (aI (fun k => σ 1 (396 + k))))), (a 38, .inl (cx 0, 16, .inl (aI (fun k => σ 1 (412 + k))))), (a 39, .inr (2, [.int (iI (σ 1 428)), .int (iI (σ 1 502)), .ref (a 40), .ref (a 41), .ref (a 42), .ref (a 43)])), (a 40, .inl (cx 0, 64, .inl (aI (fun k => σ 1 (438 + k))))), (a 41, .inl (cx 0, 9, .inl (aI (fun k => σ 1 (429 + k))))), (a 42, .inl (cx 0, 16, .inl (aI (fun k => σ 1 (503 + k))))), (a 43, .inl (cx 0, 16, .inl (aI (fun k => σ 1 (519 + k))))), (a 44, .inr (2, [.int (iI (σ 0 0)), .int (iI (σ 0 74)), .ref (a 45), .ref (a 46), .ref (a 47), .ref (a 48)])), (a 45, .inl (cx 0, 64, .inl (va_cpy (aI (fun k => σ 0 (10 + k))) (aI (fun k => σ 1 (545 + k))) (iI 0).toNatClampNeg (iI 0).toNatClampNeg (iI 64).toNatClampNeg))), (a 46, .inl (cx 0, 9, .inl (va_cpy (aI (fun k => σ 0 (1 + k))) (aI (fun k => σ 1 (536 + k))) (iI 0).toNatClampNeg (iI 0).toNatClampNeg (iI 9).toNatClampNeg))), (a 47, .inl (cx 0, 16, .inl (va_cpy (aI (fun k => σ 0 (75 + k))) (aI (fun k => σ 1 (610 + k))) (iI 0).toNatClampNeg (iI 0).toNatClampNeg (iI 16).toNatClampNeg))), (a 48, .inl (cx 0, 16, .inl (va_cpy (aI (fun k => σ 0 (91 + k))) (aI (fun k => σ 1 (626 + k))) (iI 0).toNatClampNeg (iI 0).toNatClampNeg (iI 16).toNatClampNeg))), (a 49, .inr (2, [.int (iI (σ 1 642)), .int (iI (σ 1 716)), .ref (a 50), .ref (a 51), .ref (a 52), .ref (a 53)])), (a 50, .inl (cx 0, 64, .inl (aI (fun k => σ 1 (652 + k))))), (a 51, .inl (cx 0, 9, .inl (aI (fun k => σ 1 (643 + k))))), (a 52, .inl (cx 0, 16, .inl (aI (fun k => σ 1 (717 + k))))), (a 53, .inl (cx 0, 16, .inl (aI (fun k => σ 1 (733 + k))))), (a 54, .inr (2, [.int (iI (σ 1 749)), .int (iI (σ 1 823)), .ref (a 55), .ref (a 56), .ref (a 57), .ref (a 58)])), (a 55, .inl (cx 0, 64, .inl (aI (fun k => σ 1 (759 + k))))), (a 56, .inl (cx 0, 9, .inl (aI (fun k => σ 1 (750 + k))))), (a 57, .inl (cx 0, 16, .inl (aI (fun k => σ 1 (824 + k))))), (a 58, .inl (cx 0, 16, .inl (aI (fun k => σ 1 (840 + k))))), (a 59, .inl (cx 3, 2, .inr (.inr (.inr (.inr (fun k => some (a (60 + 5 * k)))))))), (a 60, .inr (2, [.int (iI (σ 9 0)), .int (iI (σ 9 74)), .ref (a 61), .ref (a 62), .ref (a 63), .ref (a 64)])), (a 61, .inl (cx 0, 64, .inl (aI (fun k => σ 9 (10 + k))))), (a 62, .inl (cx 0, 9, .inl (aI (fun k => σ 9 (1 + k))))), (a 63, .inl (cx 0, 16, .inl (aI (fun k => σ 9 (75 + k))))), (a 64, .inl (cx 0, 16, .inl (aI (fun k => σ 9 (91 + k))))), (a 65, .inr (2, [.int (iI (σ 9 107)), .int (iI (σ 9 181)), .ref (a 66), .ref (a 67), .ref (a 68), .ref (a 69)])), (a 66, .inl (cx 0, 64, .inl (aI (fun k => σ 9 (117 + k))))), (a 67, .inl (cx 0, 9, .inl (aI (fun k => σ 9 (108 + k))))), (a 68, .inl (cx 0, 16, .inl (aI (fun k => σ 9 (182 + k))))), (a 69, .inl (cx 0, 16, .inl (aI (fun k => σ 9 (198 + k)))))] (wx cx a (sc σ 1 (cpi (σ 1) (σ 0) 535))) := by
  refine leW_k ?_
  refine leW_k ?_
  refine leW_k ?_
  refine leW_k ?_
  refine leW_k ?_
  refine leW_k ?_
  refine leW_k ?_
  refine leW_k ?_
  refine leW_k ?_
  refine leW_k ?_
  refine leW_k ?_
  refine leW_k ?_
  refine leW_k ?_
  refine leW_k ?_
  refine leW_k ?_
  refine leW_k ?_
  refine leW_k ?_
  refine leW_k ?_
  refine leW_k ?_
  refine leW_o ?_ ?_
  rotate_left
  · rw [show σ 1 0 = sc σ 1 (cpi (σ 1) (σ 0) 535) 1 0 from (cpi_out (f := σ 1) (w := σ 0) (o := 535) (k := 0) (by omega)).symm, show σ 1 74 = sc σ 1 (cpi (σ 1) (σ 0) 535) 1 74 from (cpi_out (f := σ 1) (w := σ 0) (o := 535) (k := 74) (by omega)).symm]
  refine leW_i ?_ (fun k h1 h2 => ?_)
  rotate_left
  · show σ 1 (10 + k) = (cpi (σ 1) (σ 0) 535) (10 + k)
    unfold cpi
    rw [if_neg (by omega)]
  refine leW_i ?_ (fun k h1 h2 => ?_)
  rotate_left
  · show σ 1 (1 + k) = (cpi (σ 1) (σ 0) 535) (1 + k)
    unfold cpi
    rw [if_neg (by omega)]
  refine leW_i ?_ (fun k h1 h2 => ?_)
  rotate_left
  · show σ 1 (75 + k) = (cpi (σ 1) (σ 0) 535) (75 + k)
    unfold cpi
    rw [if_neg (by omega)]
  refine leW_i ?_ (fun k h1 h2 => ?_)
  rotate_left
  · show σ 1 (91 + k) = (cpi (σ 1) (σ 0) 535) (91 + k)
    unfold cpi
    rw [if_neg (by omega)]
  refine leW_o ?_ ?_
  rotate_left
  · rw [show σ 1 107 = sc σ 1 (cpi (σ 1) (σ 0) 535) 1 107 from (cpi_out (f := σ 1) (w := σ 0) (o := 535) (k := 107) (by omega)).symm, show σ 1 181 = sc σ 1 (cpi (σ 1) (σ 0) 535) 1 181 from (cpi_out (f := σ 1) (w := σ 0) (o := 535) (k := 181) (by omega)).symm]
  refine leW_i ?_ (fun k h1 h2 => ?_)
  rotate_left
  · show σ 1 (117 + k) = (cpi (σ 1) (σ 0) 535) (117 + k)
    unfold cpi
    rw [if_neg (by omega)]
  refine leW_i ?_ (fun k h1 h2 => ?_)
  rotate_left
  · show σ 1 (108 + k) = (cpi (σ 1) (σ 0) 535) (108 + k)
    unfold cpi
    rw [if_neg (by omega)]
  refine leW_i ?_ (fun k h1 h2 => ?_)
  rotate_left
  · show σ 1 (182 + k) = (cpi (σ 1) (σ 0) 535) (182 + k)
    unfold cpi
    rw [if_neg (by omega)]
  refine leW_i ?_ (fun k h1 h2 => ?_)
  rotate_left
  · show σ 1 (198 + k) = (cpi (σ 1) (σ 0) 535) (198 + k)
    unfold cpi
    rw [if_neg (by omega)]
  refine leW_o ?_ ?_
  rotate_left
  · rw [show σ 1 214 = sc σ 1 (cpi (σ 1) (σ 0) 535) 1 214 from (cpi_out (f := σ 1) (w := σ 0) (o := 535) (k := 214) (by omega)).symm, show σ 1 288 = sc σ 1 (cpi (σ 1) (σ 0) 535) 1 288 from (cpi_out (f := σ 1) (w := σ 0) (o := 535) (k := 288) (by omega)).symm]
  refine leW_i ?_ (fun k h1 h2 => ?_)
  rotate_left
  · show σ 1 (224 + k) = (cpi (σ 1) (σ 0) 535) (224 + k)
    unfold cpi
    rw [if_neg (by omega)]
  refine leW_i ?_ (fun k h1 h2 => ?_)
  rotate_left
  · show σ 1 (215 + k) = (cpi (σ 1) (σ 0) 535) (215 + k)
    unfold cpi
    rw [if_neg (by omega)]
  refine leW_i ?_ (fun k h1 h2 => ?_)
  rotate_left
  · show σ 1 (289 + k) = (cpi (σ 1) (σ 0) 535) (289 + k)
    unfold cpi
    rw [if_neg (by omega)]
  refine leW_i ?_ (fun k h1 h2 => ?_)
  rotate_left
  · show σ 1 (305 + k) = (cpi (σ 1) (σ 0) 535) (305 + k)
    unfold cpi
    rw [if_neg (by omega)]
  refine leW_o ?_ ?_
  rotate_left
  · rw [show σ 1 321 = sc σ 1 (cpi (σ 1) (σ 0) 535) 1 321 from (cpi_out (f := σ 1) (w := σ 0) (o := 535) (k := 321) (by omega)).symm, show σ 1 395 = sc σ 1 (cpi (σ 1) (σ 0) 535) 1 395 from (cpi_out (f := σ 1) (w := σ 0) (o := 535) (k := 395) (by omega)).symm]
  refine leW_i ?_ (fun k h1 h2 => ?_)
  rotate_left
  · show σ 1 (331 + k) = (cpi (σ 1) (σ 0) 535) (331 + k)
    unfold cpi
    rw [if_neg (by omega)]
  refine leW_i ?_ (fun k h1 h2 => ?_)
  rotate_left
  · show σ 1 (322 + k) = (cpi (σ 1) (σ 0) 535) (322 + k)
    unfold cpi
    rw [if_neg (by omega)]
  refine leW_i ?_ (fun k h1 h2 => ?_)
  rotate_left
  · show σ 1 (396 + k) = (cpi (σ 1) (σ 0) 535) (396 + k)
    unfold cpi
    rw [if_neg (by omega)]
  refine leW_i ?_ (fun k h1 h2 => ?_)
  rotate_left
  · show σ 1 (412 + k) = (cpi (σ 1) (σ 0) 535) (412 + k)
    unfold cpi
    rw [if_neg (by omega)]
  refine leW_o ?_ ?_
  rotate_left
  · rw [show σ 1 428 = sc σ 1 (cpi (σ 1) (σ 0) 535) 1 428 from (cpi_out (f := σ 1) (w := σ 0) (o := 535) (k := 428) (by omega)).symm, show σ 1 502 = sc σ 1 (cpi (σ 1) (σ 0) 535) 1 502 from (cpi_out (f := σ 1) (w := σ 0) (o := 535) (k := 502) (by omega)).symm]
  refine leW_i ?_ (fun k h1 h2 => ?_)
  rotate_left
  · show σ 1 (438 + k) = (cpi (σ 1) (σ 0) 535) (438 + k)
    unfold cpi
    rw [if_neg (by omega)]
  refine leW_i ?_ (fun k h1 h2 => ?_)
  rotate_left
  · show σ 1 (429 + k) = (cpi (σ 1) (σ 0) 535) (429 + k)
    unfold cpi
    rw [if_neg (by omega)]
  refine leW_i ?_ (fun k h1 h2 => ?_)
  rotate_left
  · show σ 1 (503 + k) = (cpi (σ 1) (σ 0) 535) (503 + k)
    unfold cpi
    rw [if_neg (by omega)]
  refine leW_i ?_ (fun k h1 h2 => ?_)
  rotate_left
  · show σ 1 (519 + k) = (cpi (σ 1) (σ 0) 535) (519 + k)
    unfold cpi
    rw [if_neg (by omega)]
  refine leW_o ?_ ?_
  rotate_left
  · rw [show σ 0 0 = sc σ 1 (cpi (σ 1) (σ 0) 535) 1 535 from (cpi_in (f := σ 1) (w := σ 0) (o := 535) (k := 535) (by omega)).symm, show σ 0 74 = sc σ 1 (cpi (σ 1) (σ 0) 535) 1 609 from (cpi_in (f := σ 1) (w := σ 0) (o := 535) (k := 609) (by omega)).symm]
  refine leW_c ?_ (fun k h1 h2 => ?_)
  rotate_left
  · show σ 0 (10 + k) = (cpi (σ 1) (σ 0) 535) (545 + k)
    first | unfold cpi | unfold cpo
    rw [if_pos (by omega)]
    first | rfl | exact congrArg _ (by omega)
  refine leW_c ?_ (fun k h1 h2 => ?_)
  rotate_left
  · show σ 0 (1 + k) = (cpi (σ 1) (σ 0) 535) (536 + k)
    first | unfold cpi | unfold cpo
    rw [if_pos (by omega)]
    first | rfl | exact congrArg _ (by omega)
  refine leW_c ?_ (fun k h1 h2 => ?_)
  rotate_left
  · show σ 0 (75 + k) = (cpi (σ 1) (σ 0) 535) (610 + k)
    first | unfold cpi | unfold cpo
    rw [if_pos (by omega)]
    first | rfl | exact congrArg _ (by omega)
  refine leW_c ?_ (fun k h1 h2 => ?_)
  rotate_left
  · show σ 0 (91 + k) = (cpi (σ 1) (σ 0) 535) (626 + k)
    first | unfold cpi | unfold cpo
    rw [if_pos (by omega)]
    first | rfl | exact congrArg _ (by omega)
  refine leW_o ?_ ?_
  rotate_left
  · rw [show σ 1 642 = sc σ 1 (cpi (σ 1) (σ 0) 535) 1 642 from (cpi_out (f := σ 1) (w := σ 0) (o := 535) (k := 642) (by omega)).symm, show σ 1 716 = sc σ 1 (cpi (σ 1) (σ 0) 535) 1 716 from (cpi_out (f := σ 1) (w := σ 0) (o := 535) (k := 716) (by omega)).symm]
  refine leW_i ?_ (fun k h1 h2 => ?_)
  rotate_left
  · show σ 1 (652 + k) = (cpi (σ 1) (σ 0) 535) (652 + k)
    unfold cpi
    rw [if_neg (by omega)]
  refine leW_i ?_ (fun k h1 h2 => ?_)
  rotate_left
  · show σ 1 (643 + k) = (cpi (σ 1) (σ 0) 535) (643 + k)
    unfold cpi
    rw [if_neg (by omega)]
  refine leW_i ?_ (fun k h1 h2 => ?_)
  rotate_left
  · show σ 1 (717 + k) = (cpi (σ 1) (σ 0) 535) (717 + k)
    unfold cpi
    rw [if_neg (by omega)]
  refine leW_i ?_ (fun k h1 h2 => ?_)
  rotate_left
  · show σ 1 (733 + k) = (cpi (σ 1) (σ 0) 535) (733 + k)
    unfold cpi
    rw [if_neg (by omega)]
  refine leW_o ?_ ?_
  rotate_left
  · rw [show σ 1 749 = sc σ 1 (cpi (σ 1) (σ 0) 535) 1 749 from (cpi_out (f := σ 1) (w := σ 0) (o := 535) (k := 749) (by omega)).symm, show σ 1 823 = sc σ 1 (cpi (σ 1) (σ 0) 535) 1 823 from (cpi_out (f := σ 1) (w := σ 0) (o := 535) (k := 823) (by omega)).symm]
  refine leW_i ?_ (fun k h1 h2 => ?_)
  rotate_left
  · show σ 1 (759 + k) = (cpi (σ 1) (σ 0) 535) (759 + k)
    unfold cpi
    rw [if_neg (by omega)]
  refine leW_i ?_ (fun k h1 h2 => ?_)
  rotate_left
  · show σ 1 (750 + k) = (cpi (σ 1) (σ 0) 535) (750 + k)
    unfold cpi
    rw [if_neg (by omega)]
  refine leW_i ?_ (fun k h1 h2 => ?_)
  rotate_left
  · show σ 1 (824 + k) = (cpi (σ 1) (σ 0) 535) (824 + k)
    unfold cpi
    rw [if_neg (by omega)]
  refine leW_i ?_ (fun k h1 h2 => ?_)
  rotate_left
  · show σ 1 (840 + k) = (cpi (σ 1) (σ 0) 535) (840 + k)
    unfold cpi
    rw [if_neg (by omega)]
  refine leW_k ?_
  refine leW_k ?_
  refine leW_k ?_
  refine leW_k ?_
  refine leW_k ?_
  refine leW_k ?_
  refine leW_k ?_
  refine leW_k ?_
  refine leW_k ?_
  refine leW_k ?_
  refine leW_k ?_
  exact leW_0
theorem wx_cp_p6 {G : va_G} {cx a : Nat → Nat} {σ : Nat → Int → Int} : leW G vwCl [(a 0, .inr (4, [.ref (a 3), .ref (a 8), .ref (a 14), .ref (a 17), .ref (a 59), .ref (a 1), .ref (a 2)])), (a 1, .inl (cx 2, 2, .inl (aI (σ 11)))), (a 2, .inl (cx 0, 16, .inl (aI (σ 13)))), (a 3, .inr (2, [.int (iI (σ 0 0)), .int (iI (σ 0 74)), .ref (a 4), .ref (a 5), .ref (a 6), .ref (a 7)])), (a 4, .inl (cx 0, 64, .inl (aI (fun k => σ 0 (10 + k))))), (a 5, .inl (cx 0, 9, .inl (aI (fun k => σ 0 (1 + k))))), (a 6, .inl (cx 0, 16, .inl (aI (fun k => σ 0 (75 + k))))), (a 7, .inl (cx 0, 16, .inl (aI (fun k => σ 0 (91 + k))))), (a 8, .inr (0, [.ref (a 3), .int (iI (σ 21 0)), .int (iI (σ 21 1)), .ref (a 9), .ref (a 10), .ref (a 11), .ref (a 12), .ref (a 13)])), (a 9, .inl (cx 0, 33, .inl (aI (σ 14)))), (a 10, .inl (cx 0, 16, .inl (aI (σ 15)))), (a 11, .inl (cx 0, 16, .inl (aI (σ 16)))), (a 12, .inl (cx 0, 561, .inl (aI (σ 17)))), (a 13, .inl (cx 0, 17, .inl (aI (σ 18)))), (a 14, .inr (3, [.ref (a 3), .ref (a 8), .ref (a 15), .ref (a 16)])), (a 15, .inl (cx 0, 16, .inl (aI (σ 19)))), (a 16, .inl (cx 1, 16, .inr (.inl (aL (σ 20))))), (a 17, .inr (1, [.ref (a 18), .int (iI (σ 12 0)), .int (iI (σ 12 1))])), (a 18, .inl (cx 3, 8, .inr (.inr (.inr (.inr (fun k => some (a (19 + 5 * k)))))))), (a 19, .inr (2, [.int (iI (σ 1 0)), .int (iI (σ 1 74)), .ref (a 20), .ref (a 21), .ref (a 22), .ref (a 23)])), (a 20, .inl (cx 0, 64, .inl (aI (fun k => σ 1 (10 + k))))), (a 21, .inl (cx 0, 9, .inl (aI (fun k => σ 1 (1 + k))))), (a 22, .inl (cx 0, 16, .inl (aI (fun k => σ 1 (75 + k))))), (a 23, .inl (cx 0, 16, .inl (aI (fun k => σ 1 (91 + k))))), (a 24, .inr (2, [.int (iI (σ 1 107)), .int (iI (σ 1 181)), .ref (a 25), .ref (a 26), .ref (a 27), .ref (a 28)])), (a 25, .inl (cx 0, 64, .inl (aI (fun k => σ 1 (117 + k))))), (a 26, .inl (cx 0, 9, .inl (aI (fun k => σ 1 (108 + k))))), (a 27, .inl (cx 0, 16, .inl (aI (fun k => σ 1 (182 + k))))), (a 28, .inl (cx 0, 16, .inl (aI (fun k => σ 1 (198 + k))))), (a 29, .inr (2, [.int (iI (σ 1 214)), .int (iI (σ 1 288)), .ref (a 30), .ref (a 31), .ref (a 32), .ref (a 33)])), (a 30, .inl (cx 0, 64, .inl (aI (fun k => σ 1 (224 + k))))), (a 31, .inl (cx 0, 9, .inl (aI (fun k => σ 1 (215 + k))))), (a 32, .inl (cx 0, 16, .inl (aI (fun k => σ 1 (289 + k))))), (a 33, .inl (cx 0, 16, .inl (aI (fun k => σ 1 (305 + k))))), (a 34, .inr (2, [.int (iI (σ 1 321)), .int (iI (σ 1 395)), .ref (a 35), .ref (a 36), .ref (a 37), .ref (a 38)])), (a 35, .inl (cx 0, 64, .inl (aI (fun k => σ 1 (331 + k))))), (a 36, .inl (cx 0, 9, .inl (aI (fun k => σ 1 (322 + k))))), (a 37, .inl (cx 0, 16, .inl (aI (fun k => σ 1 (396 + k))))), (a 38, .inl (cx 0, 16, .inl (aI (fun k => σ 1 (412 + k))))), (a 39, .inr (2, [.int (iI (σ 1 428)), .int (iI (σ 1 502)), .ref (a 40), .ref (a 41), .ref (a 42), .ref (a 43)])), (a 40, .inl (cx 0, 64, .inl (aI (fun k => σ 1 (438 + k))))), (a 41, .inl (cx 0, 9, .inl (aI (fun k => σ 1 (429 + k))))), (a 42, .inl (cx 0, 16, .inl (aI (fun k => σ 1 (503 + k))))), (a 43, .inl (cx 0, 16, .inl (aI (fun k => σ 1 (519 + k))))), (a 44, .inr (2, [.int (iI (σ 1 535)), .int (iI (σ 1 609)), .ref (a 45), .ref (a 46), .ref (a 47), .ref (a 48)])), (a 45, .inl (cx 0, 64, .inl (aI (fun k => σ 1 (545 + k))))), (a 46, .inl (cx 0, 9, .inl (aI (fun k => σ 1 (536 + k))))), (a 47, .inl (cx 0, 16, .inl (aI (fun k => σ 1 (610 + k))))), (a 48, .inl (cx 0, 16, .inl (aI (fun k => σ 1 (626 + k))))), (a 49, .inr (2, [.int (iI (σ 0 0)), .int (iI (σ 0 74)), .ref (a 50), .ref (a 51), .ref (a 52), .ref (a 53)])), (a 50, .inl (cx 0, 64, .inl (va_cpy (aI (fun k => σ 0 (10 + k))) (aI (fun k => σ 1 (652 + k))) (iI 0).toNatClampNeg (iI 0).toNatClampNeg (iI 64).toNatClampNeg))), (a 51, .inl (cx 0, 9, .inl (va_cpy (aI (fun k => σ 0 (1 + k))) (aI (fun k => σ 1 (643 + k))) (iI 0).toNatClampNeg (iI 0).toNatClampNeg (iI 9).toNatClampNeg))), (a 52, .inl (cx 0, 16, .inl (va_cpy (aI (fun k => σ 0 (75 + k))) (aI (fun k => σ 1 (717 + k))) (iI 0).toNatClampNeg (iI 0).toNatClampNeg (iI 16).toNatClampNeg))), (a 53, .inl (cx 0, 16, .inl (va_cpy (aI (fun k => σ 0 (91 + k))) (aI (fun k => σ 1 (733 + k))) (iI 0).toNatClampNeg (iI 0).toNatClampNeg (iI 16).toNatClampNeg))), (a 54, .inr (2, [.int (iI (σ 1 749)), .int (iI (σ 1 823)), .ref (a 55), .ref (a 56), .ref (a 57), .ref (a 58)])), (a 55, .inl (cx 0, 64, .inl (aI (fun k => σ 1 (759 + k))))), (a 56, .inl (cx 0, 9, .inl (aI (fun k => σ 1 (750 + k))))), (a 57, .inl (cx 0, 16, .inl (aI (fun k => σ 1 (824 + k))))), (a 58, .inl (cx 0, 16, .inl (aI (fun k => σ 1 (840 + k))))), (a 59, .inl (cx 3, 2, .inr (.inr (.inr (.inr (fun k => some (a (60 + 5 * k)))))))), (a 60, .inr (2, [.int (iI (σ 9 0)), .int (iI (σ 9 74)), .ref (a 61), .ref (a 62), .ref (a 63), .ref (a 64)])), (a 61, .inl (cx 0, 64, .inl (aI (fun k => σ 9 (10 + k))))), (a 62, .inl (cx 0, 9, .inl (aI (fun k => σ 9 (1 + k))))), (a 63, .inl (cx 0, 16, .inl (aI (fun k => σ 9 (75 + k))))), (a 64, .inl (cx 0, 16, .inl (aI (fun k => σ 9 (91 + k))))), (a 65, .inr (2, [.int (iI (σ 9 107)), .int (iI (σ 9 181)), .ref (a 66), .ref (a 67), .ref (a 68), .ref (a 69)])), (a 66, .inl (cx 0, 64, .inl (aI (fun k => σ 9 (117 + k))))), (a 67, .inl (cx 0, 9, .inl (aI (fun k => σ 9 (108 + k))))), (a 68, .inl (cx 0, 16, .inl (aI (fun k => σ 9 (182 + k))))), (a 69, .inl (cx 0, 16, .inl (aI (fun k => σ 9 (198 + k)))))] (wx cx a (sc σ 1 (cpi (σ 1) (σ 0) 642))) := by
  refine leW_k ?_
  refine leW_k ?_
  refine leW_k ?_
  refine leW_k ?_
  refine leW_k ?_
  refine leW_k ?_
  refine leW_k ?_
  refine leW_k ?_
  refine leW_k ?_
  refine leW_k ?_
  refine leW_k ?_
  refine leW_k ?_
  refine leW_k ?_
  refine leW_k ?_
  refine leW_k ?_
  refine leW_k ?_
  refine leW_k ?_
  refine leW_k ?_
  refine leW_k ?_
  refine leW_o ?_ ?_
  rotate_left
  · rw [show σ 1 0 = sc σ 1 (cpi (σ 1) (σ 0) 642) 1 0 from (cpi_out (f := σ 1) (w := σ 0) (o := 642) (k := 0) (by omega)).symm, show σ 1 74 = sc σ 1 (cpi (σ 1) (σ 0) 642) 1 74 from (cpi_out (f := σ 1) (w := σ 0) (o := 642) (k := 74) (by omega)).symm]
  refine leW_i ?_ (fun k h1 h2 => ?_)
  rotate_left
  · show σ 1 (10 + k) = (cpi (σ 1) (σ 0) 642) (10 + k)
    unfold cpi
    rw [if_neg (by omega)]
  refine leW_i ?_ (fun k h1 h2 => ?_)
  rotate_left
  · show σ 1 (1 + k) = (cpi (σ 1) (σ 0) 642) (1 + k)
    unfold cpi
    rw [if_neg (by omega)]
  refine leW_i ?_ (fun k h1 h2 => ?_)
  rotate_left
  · show σ 1 (75 + k) = (cpi (σ 1) (σ 0) 642) (75 + k)
    unfold cpi
    rw [if_neg (by omega)]
  refine leW_i ?_ (fun k h1 h2 => ?_)
  rotate_left
  · show σ 1 (91 + k) = (cpi (σ 1) (σ 0) 642) (91 + k)
    unfold cpi
    rw [if_neg (by omega)]
  refine leW_o ?_ ?_
  rotate_left
  · rw [show σ 1 107 = sc σ 1 (cpi (σ 1) (σ 0) 642) 1 107 from (cpi_out (f := σ 1) (w := σ 0) (o := 642) (k := 107) (by omega)).symm, show σ 1 181 = sc σ 1 (cpi (σ 1) (σ 0) 642) 1 181 from (cpi_out (f := σ 1) (w := σ 0) (o := 642) (k := 181) (by omega)).symm]
  refine leW_i ?_ (fun k h1 h2 => ?_)
  rotate_left
  · show σ 1 (117 + k) = (cpi (σ 1) (σ 0) 642) (117 + k)
    unfold cpi
    rw [if_neg (by omega)]
  refine leW_i ?_ (fun k h1 h2 => ?_)
  rotate_left
  · show σ 1 (108 + k) = (cpi (σ 1) (σ 0) 642) (108 + k)
    unfold cpi
    rw [if_neg (by omega)]
  refine leW_i ?_ (fun k h1 h2 => ?_)
  rotate_left
  · show σ 1 (182 + k) = (cpi (σ 1) (σ 0) 642) (182 + k)
    unfold cpi
    rw [if_neg (by omega)]
  refine leW_i ?_ (fun k h1 h2 => ?_)
  rotate_left
  · show σ 1 (198 + k) = (cpi (σ 1) (σ 0) 642) (198 + k)
    unfold cpi
    rw [if_neg (by omega)]
  refine leW_o ?_ ?_
  rotate_left
  · rw [show σ 1 214 = sc σ 1 (cpi (σ 1) (σ 0) 642) 1 214 from (cpi_out (f := σ 1) (w := σ 0) (o := 642) (k := 214) (by omega)).symm, show σ 1 288 = sc σ 1 (cpi (σ 1) (σ 0) 642) 1 288 from (cpi_out (f := σ 1) (w := σ 0) (o := 642) (k := 288) (by omega)).symm]
  refine leW_i ?_ (fun k h1 h2 => ?_)
  rotate_left
  · show σ 1 (224 + k) = (cpi (σ 1) (σ 0) 642) (224 + k)
    unfold cpi
    rw [if_neg (by omega)]
  refine leW_i ?_ (fun k h1 h2 => ?_)
  rotate_left
  · show σ 1 (215 + k) = (cpi (σ 1) (σ 0) 642) (215 + k)
    unfold cpi
    rw [if_neg (by omega)]
  refine leW_i ?_ (fun k h1 h2 => ?_)
  rotate_left
  · show σ 1 (289 + k) = (cpi (σ 1) (σ 0) 642) (289 + k)
    unfold cpi
    rw [if_neg (by omega)]
  refine leW_i ?_ (fun k h1 h2 => ?_)
  rotate_left
  · show σ 1 (305 + k) = (cpi (σ 1) (σ 0) 642) (305 + k)
    unfold cpi
    rw [if_neg (by omega)]
  refine leW_o ?_ ?_
  rotate_left
  · rw [show σ 1 321 = sc σ 1 (cpi (σ 1) (σ 0) 642) 1 321 from (cpi_out (f := σ 1) (w := σ 0) (o := 642) (k := 321) (by omega)).symm, show σ 1 395 = sc σ 1 (cpi (σ 1) (σ 0) 642) 1 395 from (cpi_out (f := σ 1) (w := σ 0) (o := 642) (k := 395) (by omega)).symm]
  refine leW_i ?_ (fun k h1 h2 => ?_)
  rotate_left
  · show σ 1 (331 + k) = (cpi (σ 1) (σ 0) 642) (331 + k)
    unfold cpi
    rw [if_neg (by omega)]
  refine leW_i ?_ (fun k h1 h2 => ?_)
  rotate_left
  · show σ 1 (322 + k) = (cpi (σ 1) (σ 0) 642) (322 + k)
    unfold cpi
    rw [if_neg (by omega)]
  refine leW_i ?_ (fun k h1 h2 => ?_)
  rotate_left
  · show σ 1 (396 + k) = (cpi (σ 1) (σ 0) 642) (396 + k)
    unfold cpi
    rw [if_neg (by omega)]
  refine leW_i ?_ (fun k h1 h2 => ?_)
  rotate_left
  · show σ 1 (412 + k) = (cpi (σ 1) (σ 0) 642) (412 + k)
    unfold cpi
    rw [if_neg (by omega)]
  refine leW_o ?_ ?_
  rotate_left
  · rw [show σ 1 428 = sc σ 1 (cpi (σ 1) (σ 0) 642) 1 428 from (cpi_out (f := σ 1) (w := σ 0) (o := 642) (k := 428) (by omega)).symm, show σ 1 502 = sc σ 1 (cpi (σ 1) (σ 0) 642) 1 502 from (cpi_out (f := σ 1) (w := σ 0) (o := 642) (k := 502) (by omega)).symm]
  refine leW_i ?_ (fun k h1 h2 => ?_)
  rotate_left
  · show σ 1 (438 + k) = (cpi (σ 1) (σ 0) 642) (438 + k)
    unfold cpi
    rw [if_neg (by omega)]
  refine leW_i ?_ (fun k h1 h2 => ?_)
  rotate_left
  · show σ 1 (429 + k) = (cpi (σ 1) (σ 0) 642) (429 + k)
    unfold cpi
    rw [if_neg (by omega)]
  refine leW_i ?_ (fun k h1 h2 => ?_)
  rotate_left
  · show σ 1 (503 + k) = (cpi (σ 1) (σ 0) 642) (503 + k)
    unfold cpi
    rw [if_neg (by omega)]
  refine leW_i ?_ (fun k h1 h2 => ?_)
  rotate_left
  · show σ 1 (519 + k) = (cpi (σ 1) (σ 0) 642) (519 + k)
    unfold cpi
    rw [if_neg (by omega)]
  refine leW_o ?_ ?_
  rotate_left
  · rw [show σ 1 535 = sc σ 1 (cpi (σ 1) (σ 0) 642) 1 535 from (cpi_out (f := σ 1) (w := σ 0) (o := 642) (k := 535) (by omega)).symm, show σ 1 609 = sc σ 1 (cpi (σ 1) (σ 0) 642) 1 609 from (cpi_out (f := σ 1) (w := σ 0) (o := 642) (k := 609) (by omega)).symm]
  refine leW_i ?_ (fun k h1 h2 => ?_)
  rotate_left
  · show σ 1 (545 + k) = (cpi (σ 1) (σ 0) 642) (545 + k)
    unfold cpi
    rw [if_neg (by omega)]
  refine leW_i ?_ (fun k h1 h2 => ?_)
  rotate_left
  · show σ 1 (536 + k) = (cpi (σ 1) (σ 0) 642) (536 + k)
    unfold cpi
    rw [if_neg (by omega)]
  refine leW_i ?_ (fun k h1 h2 => ?_)
  rotate_left
  · show σ 1 (610 + k) = (cpi (σ 1) (σ 0) 642) (610 + k)
    unfold cpi
    rw [if_neg (by omega)]
  refine leW_i ?_ (fun k h1 h2 => ?_)
  rotate_left
  · show σ 1 (626 + k) = (cpi (σ 1) (σ 0) 642) (626 + k)
    unfold cpi
    rw [if_neg (by omega)]
  refine leW_o ?_ ?_
  rotate_left
  · rw [show σ 0 0 = sc σ 1 (cpi (σ 1) (σ 0) 642) 1 642 from (cpi_in (f := σ 1) (w := σ 0) (o := 642) (k := 642) (by omega)).symm, show σ 0 74 = sc σ 1 (cpi (σ 1) (σ 0) 642) 1 716 from (cpi_in (f := σ 1) (w := σ 0) (o := 642) (k := 716) (by omega)).symm]
  refine leW_c ?_ (fun k h1 h2 => ?_)
  rotate_left
  · show σ 0 (10 + k) = (cpi (σ 1) (σ 0) 642) (652 + k)
    first | unfold cpi | unfold cpo
    rw [if_pos (by omega)]
    first | rfl | exact congrArg _ (by omega)
  refine leW_c ?_ (fun k h1 h2 => ?_)
  rotate_left
  · show σ 0 (1 + k) = (cpi (σ 1) (σ 0) 642) (643 + k)
    first | unfold cpi | unfold cpo
    rw [if_pos (by omega)]
    first | rfl | exact congrArg _ (by omega)
  refine leW_c ?_ (fun k h1 h2 => ?_)
  rotate_left
  · show σ 0 (75 + k) = (cpi (σ 1) (σ 0) 642) (717 + k)
    first | unfold cpi | unfold cpo
    rw [if_pos (by omega)]
    first | rfl | exact congrArg _ (by omega)
  refine leW_c ?_ (fun k h1 h2 => ?_)
  rotate_left
  · show σ 0 (91 + k) = (cpi (σ 1) (σ 0) 642) (733 + k)
    first | unfold cpi | unfold cpo
    rw [if_pos (by omega)]
    first | rfl | exact congrArg _ (by omega)
  refine leW_o ?_ ?_
  rotate_left
  · rw [show σ 1 749 = sc σ 1 (cpi (σ 1) (σ 0) 642) 1 749 from (cpi_out (f := σ 1) (w := σ 0) (o := 642) (k := 749) (by omega)).symm, show σ 1 823 = sc σ 1 (cpi (σ 1) (σ 0) 642) 1 823 from (cpi_out (f := σ 1) (w := σ 0) (o := 642) (k := 823) (by omega)).symm]
  refine leW_i ?_ (fun k h1 h2 => ?_)
  rotate_left
  · show σ 1 (759 + k) = (cpi (σ 1) (σ 0) 642) (759 + k)
    unfold cpi
    rw [if_neg (by omega)]
  refine leW_i ?_ (fun k h1 h2 => ?_)
  rotate_left
  · show σ 1 (750 + k) = (cpi (σ 1) (σ 0) 642) (750 + k)
    unfold cpi
    rw [if_neg (by omega)]
  refine leW_i ?_ (fun k h1 h2 => ?_)
  rotate_left
  · show σ 1 (824 + k) = (cpi (σ 1) (σ 0) 642) (824 + k)
    unfold cpi
    rw [if_neg (by omega)]
  refine leW_i ?_ (fun k h1 h2 => ?_)
  rotate_left
  · show σ 1 (840 + k) = (cpi (σ 1) (σ 0) 642) (840 + k)
    unfold cpi
    rw [if_neg (by omega)]
  refine leW_k ?_
  refine leW_k ?_
  refine leW_k ?_
  refine leW_k ?_
  refine leW_k ?_
  refine leW_k ?_
  refine leW_k ?_
  refine leW_k ?_
  refine leW_k ?_
  refine leW_k ?_
  refine leW_k ?_
  exact leW_0
theorem wx_cp_p7 {G : va_G} {cx a : Nat → Nat} {σ : Nat → Int → Int} : leW G vwCl [(a 0, .inr (4, [.ref (a 3), .ref (a 8), .ref (a 14), .ref (a 17), .ref (a 59), .ref (a 1), .ref (a 2)])), (a 1, .inl (cx 2, 2, .inl (aI (σ 11)))), (a 2, .inl (cx 0, 16, .inl (aI (σ 13)))), (a 3, .inr (2, [.int (iI (σ 0 0)), .int (iI (σ 0 74)), .ref (a 4), .ref (a 5), .ref (a 6), .ref (a 7)])), (a 4, .inl (cx 0, 64, .inl (aI (fun k => σ 0 (10 + k))))), (a 5, .inl (cx 0, 9, .inl (aI (fun k => σ 0 (1 + k))))), (a 6, .inl (cx 0, 16, .inl (aI (fun k => σ 0 (75 + k))))), (a 7, .inl (cx 0, 16, .inl (aI (fun k => σ 0 (91 + k))))), (a 8, .inr (0, [.ref (a 3), .int (iI (σ 21 0)), .int (iI (σ 21 1)), .ref (a 9), .ref (a 10), .ref (a 11), .ref (a 12), .ref (a 13)])), (a 9, .inl (cx 0, 33, .inl (aI (σ 14)))), (a 10, .inl (cx 0, 16, .inl (aI (σ 15)))), (a 11, .inl (cx 0, 16, .inl (aI (σ 16)))), (a 12, .inl (cx 0, 561, .inl (aI (σ 17)))), (a 13, .inl (cx 0, 17, .inl (aI (σ 18)))), (a 14, .inr (3, [.ref (a 3), .ref (a 8), .ref (a 15), .ref (a 16)])), (a 15, .inl (cx 0, 16, .inl (aI (σ 19)))), (a 16, .inl (cx 1, 16, .inr (.inl (aL (σ 20))))), (a 17, .inr (1, [.ref (a 18), .int (iI (σ 12 0)), .int (iI (σ 12 1))])), (a 18, .inl (cx 3, 8, .inr (.inr (.inr (.inr (fun k => some (a (19 + 5 * k)))))))), (a 19, .inr (2, [.int (iI (σ 1 0)), .int (iI (σ 1 74)), .ref (a 20), .ref (a 21), .ref (a 22), .ref (a 23)])), (a 20, .inl (cx 0, 64, .inl (aI (fun k => σ 1 (10 + k))))), (a 21, .inl (cx 0, 9, .inl (aI (fun k => σ 1 (1 + k))))), (a 22, .inl (cx 0, 16, .inl (aI (fun k => σ 1 (75 + k))))), (a 23, .inl (cx 0, 16, .inl (aI (fun k => σ 1 (91 + k))))), (a 24, .inr (2, [.int (iI (σ 1 107)), .int (iI (σ 1 181)), .ref (a 25), .ref (a 26), .ref (a 27), .ref (a 28)])), (a 25, .inl (cx 0, 64, .inl (aI (fun k => σ 1 (117 + k))))), (a 26, .inl (cx 0, 9, .inl (aI (fun k => σ 1 (108 + k))))), (a 27, .inl (cx 0, 16, .inl (aI (fun k => σ 1 (182 + k))))), (a 28, .inl (cx 0, 16, .inl (aI (fun k => σ 1 (198 + k))))), (a 29, .inr (2, [.int (iI (σ 1 214)), .int (iI (σ 1 288)), .ref (a 30), .ref (a 31), .ref (a 32), .ref (a 33)])), (a 30, .inl (cx 0, 64, .inl (aI (fun k => σ 1 (224 + k))))), (a 31, .inl (cx 0, 9, .inl (aI (fun k => σ 1 (215 + k))))), (a 32, .inl (cx 0, 16, .inl (aI (fun k => σ 1 (289 + k))))), (a 33, .inl (cx 0, 16, .inl (aI (fun k => σ 1 (305 + k))))), (a 34, .inr (2, [.int (iI (σ 1 321)), .int (iI (σ 1 395)), .ref (a 35), .ref (a 36), .ref (a 37), .ref (a 38)])), (a 35, .inl (cx 0, 64, .inl (aI (fun k => σ 1 (331 + k))))), (a 36, .inl (cx 0, 9, .inl (aI (fun k => σ 1 (322 + k))))), (a 37, .inl (cx 0, 16, .inl (aI (fun k => σ 1 (396 + k))))), (a 38, .inl (cx 0, 16, .inl (aI (fun k => σ 1 (412 + k))))), (a 39, .inr (2, [.int (iI (σ 1 428)), .int (iI (σ 1 502)), .ref (a 40), .ref (a 41), .ref (a 42), .ref (a 43)])), (a 40, .inl (cx 0, 64, .inl (aI (fun k => σ 1 (438 + k))))), (a 41, .inl (cx 0, 9, .inl (aI (fun k => σ 1 (429 + k))))), (a 42, .inl (cx 0, 16, .inl (aI (fun k => σ 1 (503 + k))))), (a 43, .inl (cx 0, 16, .inl (aI (fun k => σ 1 (519 + k))))), (a 44, .inr (2, [.int (iI (σ 1 535)), .int (iI (σ 1 609)), .ref (a 45), .ref (a 46), .ref (a 47), .ref (a 48)])), (a 45, .inl (cx 0, 64, .inl (aI (fun k => σ 1 (545 + k))))), (a 46, .inl (cx 0, 9, .inl (aI (fun k => σ 1 (536 + k))))), (a 47, .inl (cx 0, 16, .inl (aI (fun k => σ 1 (610 + k))))), (a 48, .inl (cx 0, 16, .inl (aI (fun k => σ 1 (626 + k))))), (a 49, .inr (2, [.int (iI (σ 1 642)), .int (iI (σ 1 716)), .ref (a 50), .ref (a 51), .ref (a 52), .ref (a 53)])), (a 50, .inl (cx 0, 64, .inl (aI (fun k => σ 1 (652 + k))))), (a 51, .inl (cx 0, 9, .inl (aI (fun k => σ 1 (643 + k))))), (a 52, .inl (cx 0, 16, .inl (aI (fun k => σ 1 (717 + k))))), (a 53, .inl (cx 0, 16, .inl (aI (fun k => σ 1 (733 + k))))), (a 54, .inr (2, [.int (iI (σ 0 0)), .int (iI (σ 0 74)), .ref (a 55), .ref (a 56), .ref (a 57), .ref (a 58)])), (a 55, .inl (cx 0, 64, .inl (va_cpy (aI (fun k => σ 0 (10 + k))) (aI (fun k => σ 1 (759 + k))) (iI 0).toNatClampNeg (iI 0).toNatClampNeg (iI 64).toNatClampNeg))), (a 56, .inl (cx 0, 9, .inl (va_cpy (aI (fun k => σ 0 (1 + k))) (aI (fun k => σ 1 (750 + k))) (iI 0).toNatClampNeg (iI 0).toNatClampNeg (iI 9).toNatClampNeg))), (a 57, .inl (cx 0, 16, .inl (va_cpy (aI (fun k => σ 0 (75 + k))) (aI (fun k => σ 1 (824 + k))) (iI 0).toNatClampNeg (iI 0).toNatClampNeg (iI 16).toNatClampNeg))), (a 58, .inl (cx 0, 16, .inl (va_cpy (aI (fun k => σ 0 (91 + k))) (aI (fun k => σ 1 (840 + k))) (iI 0).toNatClampNeg (iI 0).toNatClampNeg (iI 16).toNatClampNeg))), (a 59, .inl (cx 3, 2, .inr (.inr (.inr (.inr (fun k => some (a (60 + 5 * k)))))))), (a 60, .inr (2, [.int (iI (σ 9 0)), .int (iI (σ 9 74)), .ref (a 61), .ref (a 62), .ref (a 63), .ref (a 64)])), (a 61, .inl (cx 0, 64, .inl (aI (fun k => σ 9 (10 + k))))), (a 62, .inl (cx 0, 9, .inl (aI (fun k => σ 9 (1 + k))))), (a 63, .inl (cx 0, 16, .inl (aI (fun k => σ 9 (75 + k))))), (a 64, .inl (cx 0, 16, .inl (aI (fun k => σ 9 (91 + k))))), (a 65, .inr (2, [.int (iI (σ 9 107)), .int (iI (σ 9 181)), .ref (a 66), .ref (a 67), .ref (a 68), .ref (a 69)])), (a 66, .inl (cx 0, 64, .inl (aI (fun k => σ 9 (117 + k))))), (a 67, .inl (cx 0, 9, .inl (aI (fun k => σ 9 (108 + k))))), (a 68, .inl (cx 0, 16, .inl (aI (fun k => σ 9 (182 + k))))), (a 69, .inl (cx 0, 16, .inl (aI (fun k => σ 9 (198 + k)))))] (wx cx a (sc σ 1 (cpi (σ 1) (σ 0) 749))) := by
  refine leW_k ?_
  refine leW_k ?_
  refine leW_k ?_
  refine leW_k ?_
  refine leW_k ?_
  refine leW_k ?_
  refine leW_k ?_
  refine leW_k ?_
  refine leW_k ?_
  refine leW_k ?_
  refine leW_k ?_
  refine leW_k ?_
  refine leW_k ?_
  refine leW_k ?_
  refine leW_k ?_
  refine leW_k ?_
  refine leW_k ?_
  refine leW_k ?_
  refine leW_k ?_
  refine leW_o ?_ ?_
  rotate_left
  · rw [show σ 1 0 = sc σ 1 (cpi (σ 1) (σ 0) 749) 1 0 from (cpi_out (f := σ 1) (w := σ 0) (o := 749) (k := 0) (by omega)).symm, show σ 1 74 = sc σ 1 (cpi (σ 1) (σ 0) 749) 1 74 from (cpi_out (f := σ 1) (w := σ 0) (o := 749) (k := 74) (by omega)).symm]
  refine leW_i ?_ (fun k h1 h2 => ?_)
  rotate_left
  · show σ 1 (10 + k) = (cpi (σ 1) (σ 0) 749) (10 + k)
    unfold cpi
    rw [if_neg (by omega)]
  refine leW_i ?_ (fun k h1 h2 => ?_)
  rotate_left
  · show σ 1 (1 + k) = (cpi (σ 1) (σ 0) 749) (1 + k)
    unfold cpi
    rw [if_neg (by omega)]
  refine leW_i ?_ (fun k h1 h2 => ?_)
  rotate_left
  · show σ 1 (75 + k) = (cpi (σ 1) (σ 0) 749) (75 + k)
    unfold cpi
    rw [if_neg (by omega)]
  refine leW_i ?_ (fun k h1 h2 => ?_)
  rotate_left
  · show σ 1 (91 + k) = (cpi (σ 1) (σ 0) 749) (91 + k)
    unfold cpi
    rw [if_neg (by omega)]
  refine leW_o ?_ ?_
  rotate_left
  · rw [show σ 1 107 = sc σ 1 (cpi (σ 1) (σ 0) 749) 1 107 from (cpi_out (f := σ 1) (w := σ 0) (o := 749) (k := 107) (by omega)).symm, show σ 1 181 = sc σ 1 (cpi (σ 1) (σ 0) 749) 1 181 from (cpi_out (f := σ 1) (w := σ 0) (o := 749) (k := 181) (by omega)).symm]
  refine leW_i ?_ (fun k h1 h2 => ?_)
  rotate_left
  · show σ 1 (117 + k) = (cpi (σ 1) (σ 0) 749) (117 + k)
    unfold cpi
    rw [if_neg (by omega)]
  refine leW_i ?_ (fun k h1 h2 => ?_)
  rotate_left
  · show σ 1 (108 + k) = (cpi (σ 1) (σ 0) 749) (108 + k)
    unfold cpi
    rw [if_neg (by omega)]
  refine leW_i ?_ (fun k h1 h2 => ?_)
  rotate_left
  · show σ 1 (182 + k) = (cpi (σ 1) (σ 0) 749) (182 + k)
    unfold cpi
    rw [if_neg (by omega)]
  refine leW_i ?_ (fun k h1 h2 => ?_)
  rotate_left
  · show σ 1 (198 + k) = (cpi (σ 1) (σ 0) 749) (198 + k)
    unfold cpi
    rw [if_neg (by omega)]
  refine leW_o ?_ ?_
  rotate_left
  · rw [show σ 1 214 = sc σ 1 (cpi (σ 1) (σ 0) 749) 1 214 from (cpi_out (f := σ 1) (w := σ 0) (o := 749) (k := 214) (by omega)).symm, show σ 1 288 = sc σ 1 (cpi (σ 1) (σ 0) 749) 1 288 from (cpi_out (f := σ 1) (w := σ 0) (o := 749) (k := 288) (by omega)).symm]
  refine leW_i ?_ (fun k h1 h2 => ?_)
  rotate_left
  · show σ 1 (224 + k) = (cpi (σ 1) (σ 0) 749) (224 + k)
    unfold cpi
    rw [if_neg (by omega)]
  refine leW_i ?_ (fun k h1 h2 => ?_)
  rotate_left
  · show σ 1 (215 + k) = (cpi (σ 1) (σ 0) 749) (215 + k)
    unfold cpi
    rw [if_neg (by omega)]
  refine leW_i ?_ (fun k h1 h2 => ?_)
  rotate_left
  · show σ 1 (289 + k) = (cpi (σ 1) (σ 0) 749) (289 + k)
    unfold cpi
    rw [if_neg (by omega)]
  refine leW_i ?_ (fun k h1 h2 => ?_)
  rotate_left
  · show σ 1 (305 + k) = (cpi (σ 1) (σ 0) 749) (305 + k)
    unfold cpi
    rw [if_neg (by omega)]
  refine leW_o ?_ ?_
  rotate_left
  · rw [show σ 1 321 = sc σ 1 (cpi (σ 1) (σ 0) 749) 1 321 from (cpi_out (f := σ 1) (w := σ 0) (o := 749) (k := 321) (by omega)).symm, show σ 1 395 = sc σ 1 (cpi (σ 1) (σ 0) 749) 1 395 from (cpi_out (f := σ 1) (w := σ 0) (o := 749) (k := 395) (by omega)).symm]
  refine leW_i ?_ (fun k h1 h2 => ?_)
  rotate_left
  · show σ 1 (331 + k) = (cpi (σ 1) (σ 0) 749) (331 + k)
    unfold cpi
    rw [if_neg (by omega)]
  refine leW_i ?_ (fun k h1 h2 => ?_)
  rotate_left
  · show σ 1 (322 + k) = (cpi (σ 1) (σ 0) 749) (322 + k)
    unfold cpi
    rw [if_neg (by omega)]
  refine leW_i ?_ (fun k h1 h2 => ?_)
  rotate_left
  · show σ 1 (396 + k) = (cpi (σ 1) (σ 0) 749) (396 + k)
    unfold cpi
    rw [if_neg (by omega)]
  refine leW_i ?_ (fun k h1 h2 => ?_)
  rotate_left
  · show σ 1 (412 + k) = (cpi (σ 1) (σ 0) 749) (412 + k)
    unfold cpi
    rw [if_neg (by omega)]
  refine leW_o ?_ ?_
  rotate_left
  · rw [show σ 1 428 = sc σ 1 (cpi (σ 1) (σ 0) 749) 1 428 from (cpi_out (f := σ 1) (w := σ 0) (o := 749) (k := 428) (by omega)).symm, show σ 1 502 = sc σ 1 (cpi (σ 1) (σ 0) 749) 1 502 from (cpi_out (f := σ 1) (w := σ 0) (o := 749) (k := 502) (by omega)).symm]
  refine leW_i ?_ (fun k h1 h2 => ?_)
  rotate_left
  · show σ 1 (438 + k) = (cpi (σ 1) (σ 0) 749) (438 + k)
    unfold cpi
    rw [if_neg (by omega)]
  refine leW_i ?_ (fun k h1 h2 => ?_)
  rotate_left
  · show σ 1 (429 + k) = (cpi (σ 1) (σ 0) 749) (429 + k)
    unfold cpi
    rw [if_neg (by omega)]
  refine leW_i ?_ (fun k h1 h2 => ?_)
  rotate_left
  · show σ 1 (503 + k) = (cpi (σ 1) (σ 0) 749) (503 + k)
    unfold cpi
    rw [if_neg (by omega)]
  refine leW_i ?_ (fun k h1 h2 => ?_)
  rotate_left
  · show σ 1 (519 + k) = (cpi (σ 1) (σ 0) 749) (519 + k)
    unfold cpi
    rw [if_neg (by omega)]
  refine leW_o ?_ ?_
  rotate_left
  · rw [show σ 1 535 = sc σ 1 (cpi (σ 1) (σ 0) 749) 1 535 from (cpi_out (f := σ 1) (w := σ 0) (o := 749) (k := 535) (by omega)).symm, show σ 1 609 = sc σ 1 (cpi (σ 1) (σ 0) 749) 1 609 from (cpi_out (f := σ 1) (w := σ 0) (o := 749) (k := 609) (by omega)).symm]
  refine leW_i ?_ (fun k h1 h2 => ?_)
  rotate_left
  · show σ 1 (545 + k) = (cpi (σ 1) (σ 0) 749) (545 + k)
    unfold cpi
    rw [if_neg (by omega)]
  refine leW_i ?_ (fun k h1 h2 => ?_)
  rotate_left
  · show σ 1 (536 + k) = (cpi (σ 1) (σ 0) 749) (536 + k)
    unfold cpi
    rw [if_neg (by omega)]
  refine leW_i ?_ (fun k h1 h2 => ?_)
  rotate_left
  · show σ 1 (610 + k) = (cpi (σ 1) (σ 0) 749) (610 + k)
    unfold cpi
    rw [if_neg (by omega)]
  refine leW_i ?_ (fun k h1 h2 => ?_)
  rotate_left
  · show σ 1 (626 + k) = (cpi (σ 1) (σ 0) 749) (626 + k)
    unfold cpi
    rw [if_neg (by omega)]
  refine leW_o ?_ ?_
  rotate_left
  · rw [show σ 1 642 = sc σ 1 (cpi (σ 1) (σ 0) 749) 1 642 from (cpi_out (f := σ 1) (w := σ 0) (o := 749) (k := 642) (by omega)).symm, show σ 1 716 = sc σ 1 (cpi (σ 1) (σ 0) 749) 1 716 from (cpi_out (f := σ 1) (w := σ 0) (o := 749) (k := 716) (by omega)).symm]
  refine leW_i ?_ (fun k h1 h2 => ?_)
  rotate_left
  · show σ 1 (652 + k) = (cpi (σ 1) (σ 0) 749) (652 + k)
    unfold cpi
    rw [if_neg (by omega)]
  refine leW_i ?_ (fun k h1 h2 => ?_)
  rotate_left
  · show σ 1 (643 + k) = (cpi (σ 1) (σ 0) 749) (643 + k)
    unfold cpi
    rw [if_neg (by omega)]
  refine leW_i ?_ (fun k h1 h2 => ?_)
  rotate_left
  · show σ 1 (717 + k) = (cpi (σ 1) (σ 0) 749) (717 + k)
    unfold cpi
    rw [if_neg (by omega)]
  refine leW_i ?_ (fun k h1 h2 => ?_)
  rotate_left
  · show σ 1 (733 + k) = (cpi (σ 1) (σ 0) 749) (733 + k)
    unfold cpi
    rw [if_neg (by omega)]
  refine leW_o ?_ ?_
  rotate_left
  · rw [show σ 0 0 = sc σ 1 (cpi (σ 1) (σ 0) 749) 1 749 from (cpi_in (f := σ 1) (w := σ 0) (o := 749) (k := 749) (by omega)).symm, show σ 0 74 = sc σ 1 (cpi (σ 1) (σ 0) 749) 1 823 from (cpi_in (f := σ 1) (w := σ 0) (o := 749) (k := 823) (by omega)).symm]
  refine leW_c ?_ (fun k h1 h2 => ?_)
  rotate_left
  · show σ 0 (10 + k) = (cpi (σ 1) (σ 0) 749) (759 + k)
    first | unfold cpi | unfold cpo
    rw [if_pos (by omega)]
    first | rfl | exact congrArg _ (by omega)
  refine leW_c ?_ (fun k h1 h2 => ?_)
  rotate_left
  · show σ 0 (1 + k) = (cpi (σ 1) (σ 0) 749) (750 + k)
    first | unfold cpi | unfold cpo
    rw [if_pos (by omega)]
    first | rfl | exact congrArg _ (by omega)
  refine leW_c ?_ (fun k h1 h2 => ?_)
  rotate_left
  · show σ 0 (75 + k) = (cpi (σ 1) (σ 0) 749) (824 + k)
    first | unfold cpi | unfold cpo
    rw [if_pos (by omega)]
    first | rfl | exact congrArg _ (by omega)
  refine leW_c ?_ (fun k h1 h2 => ?_)
  rotate_left
  · show σ 0 (91 + k) = (cpi (σ 1) (σ 0) 749) (840 + k)
    first | unfold cpi | unfold cpo
    rw [if_pos (by omega)]
    first | rfl | exact congrArg _ (by omega)
  refine leW_k ?_
  refine leW_k ?_
  refine leW_k ?_
  refine leW_k ?_
  refine leW_k ?_
  refine leW_k ?_
  refine leW_k ?_
  refine leW_k ?_
  refine leW_k ?_
  refine leW_k ?_
  refine leW_k ?_
  exact leW_0
theorem wx_cp_q0 {G : va_G} {cx a : Nat → Nat} {σ : Nat → Int → Int} : leW G vwCl [(a 0, .inr (4, [.ref (a 3), .ref (a 8), .ref (a 14), .ref (a 17), .ref (a 59), .ref (a 1), .ref (a 2)])), (a 1, .inl (cx 2, 2, .inl (aI (σ 11)))), (a 2, .inl (cx 0, 16, .inl (aI (σ 13)))), (a 3, .inr (2, [.int (iI (σ 1 0)), .int (iI (σ 1 74)), .ref (a 4), .ref (a 5), .ref (a 6), .ref (a 7)])), (a 4, .inl (cx 0, 64, .inl (va_cpy (aI (fun k => σ 1 (10 + k))) (aI (fun k => σ 0 (10 + k))) (iI 0).toNatClampNeg (iI 0).toNatClampNeg (iI 64).toNatClampNeg))), (a 5, .inl (cx 0, 9, .inl (va_cpy (aI (fun k => σ 1 (1 + k))) (aI (fun k => σ 0 (1 + k))) (iI 0).toNatClampNeg (iI 0).toNatClampNeg (iI 9).toNatClampNeg))), (a 6, .inl (cx 0, 16, .inl (va_cpy (aI (fun k => σ 1 (75 + k))) (aI (fun k => σ 0 (75 + k))) (iI 0).toNatClampNeg (iI 0).toNatClampNeg (iI 16).toNatClampNeg))), (a 7, .inl (cx 0, 16, .inl (va_cpy (aI (fun k => σ 1 (91 + k))) (aI (fun k => σ 0 (91 + k))) (iI 0).toNatClampNeg (iI 0).toNatClampNeg (iI 16).toNatClampNeg))), (a 8, .inr (0, [.ref (a 3), .int (iI (σ 21 0)), .int (iI (σ 21 1)), .ref (a 9), .ref (a 10), .ref (a 11), .ref (a 12), .ref (a 13)])), (a 9, .inl (cx 0, 33, .inl (aI (σ 14)))), (a 10, .inl (cx 0, 16, .inl (aI (σ 15)))), (a 11, .inl (cx 0, 16, .inl (aI (σ 16)))), (a 12, .inl (cx 0, 561, .inl (aI (σ 17)))), (a 13, .inl (cx 0, 17, .inl (aI (σ 18)))), (a 14, .inr (3, [.ref (a 3), .ref (a 8), .ref (a 15), .ref (a 16)])), (a 15, .inl (cx 0, 16, .inl (aI (σ 19)))), (a 16, .inl (cx 1, 16, .inr (.inl (aL (σ 20))))), (a 17, .inr (1, [.ref (a 18), .int (iI (σ 12 0)), .int (iI (σ 12 1))])), (a 18, .inl (cx 3, 8, .inr (.inr (.inr (.inr (fun k => some (a (19 + 5 * k)))))))), (a 19, .inr (2, [.int (iI (σ 1 0)), .int (iI (σ 1 74)), .ref (a 20), .ref (a 21), .ref (a 22), .ref (a 23)])), (a 20, .inl (cx 0, 64, .inl (aI (fun k => σ 1 (10 + k))))), (a 21, .inl (cx 0, 9, .inl (aI (fun k => σ 1 (1 + k))))), (a 22, .inl (cx 0, 16, .inl (aI (fun k => σ 1 (75 + k))))), (a 23, .inl (cx 0, 16, .inl (aI (fun k => σ 1 (91 + k))))), (a 24, .inr (2, [.int (iI (σ 1 107)), .int (iI (σ 1 181)), .ref (a 25), .ref (a 26), .ref (a 27), .ref (a 28)])), (a 25, .inl (cx 0, 64, .inl (aI (fun k => σ 1 (117 + k))))), (a 26, .inl (cx 0, 9, .inl (aI (fun k => σ 1 (108 + k))))), (a 27, .inl (cx 0, 16, .inl (aI (fun k => σ 1 (182 + k))))), (a 28, .inl (cx 0, 16, .inl (aI (fun k => σ 1 (198 + k))))), (a 29, .inr (2, [.int (iI (σ 1 214)), .int (iI (σ 1 288)), .ref (a 30), .ref (a 31), .ref (a 32), .ref (a 33)])), (a 30, .inl (cx 0, 64, .inl (aI (fun k => σ 1 (224 + k))))), (a 31, .inl (cx 0, 9, .inl (aI (fun k => σ 1 (215 + k))))), (a 32, .inl (cx 0, 16, .inl (aI (fun k => σ 1 (289 + k))))), (a 33, .inl (cx 0, 16, .inl (aI (fun k => σ 1 (305 + k))))), (a 34, .inr (2, [.int (iI (σ 1 321)), .int (iI (σ 1 395)), .ref (a 35), .ref (a 36), .ref (a 37), .ref (a 38)])), (a 35, .inl (cx 0, 64, .inl (aI (fun k => σ 1 (331 + k))))), (a 36, .inl (cx 0, 9, .inl (aI (fun k => σ 1 (322 + k))))), (a 37, .inl (cx 0, 16, .inl (aI (fun k => σ 1 (396 + k))))), (a 38, .inl (cx 0, 16, .inl (aI (fun k => σ 1 (412 + k))))), (a 39, .inr (2, [.int (iI (σ 1 428)), .int (iI (σ 1 502)), .ref (a 40), .ref (a 41), .ref (a 42), .ref (a 43)])), (a 40, .inl (cx 0, 64, .inl (aI (fun k => σ 1 (438 + k))))), (a 41, .inl (cx 0, 9, .inl (aI (fun k => σ 1 (429 + k))))), (a 42, .inl (cx 0, 16, .inl (aI (fun k => σ 1 (503 + k))))), (a 43, .inl (cx 0, 16, .inl (aI (fun k => σ 1 (519 + k))))), (a 44, .inr (2, [.int (iI (σ 1 535)), .int (iI (σ 1 609)), .ref (a 45), .ref (a 46), .ref (a 47), .ref (a 48)])), (a 45, .inl (cx 0, 64, .inl (aI (fun k => σ 1 (545 + k))))), (a 46, .inl (cx 0, 9, .inl (aI (fun k => σ 1 (536 + k))))), (a 47, .inl (cx 0, 16, .inl (aI (fun k => σ 1 (610 + k))))), (a 48, .inl (cx 0, 16, .inl (aI (fun k => σ 1 (626 + k))))), (a 49, .inr (2, [.int (iI (σ 1 642)), .int (iI (σ 1 716)), .ref (a 50), .ref (a 51), .ref (a 52), .ref (a 53)])), (a 50, .inl (cx 0, 64, .inl (aI (fun k => σ 1 (652 + k))))), (a 51, .inl (cx 0, 9, .inl (aI (fun k => σ 1 (643 + k))))), (a 52, .inl (cx 0, 16, .inl (aI (fun k => σ 1 (717 + k))))), (a 53, .inl (cx 0, 16, .inl (aI (fun k => σ 1 (733 + k))))), (a 54, .inr (2, [.int (iI (σ 1 749)), .int (iI (σ 1 823)), .ref (a 55), .ref (a 56), .ref (a 57), .ref (a 58)])), (a 55, .inl (cx 0, 64, .inl (aI (fun k => σ 1 (759 + k))))), (a 56, .inl (cx 0, 9, .inl (aI (fun k => σ 1 (750 + k))))), (a 57, .inl (cx 0, 16, .inl (aI (fun k => σ 1 (824 + k))))), (a 58, .inl (cx 0, 16, .inl (aI (fun k => σ 1 (840 + k))))), (a 59, .inl (cx 3, 2, .inr (.inr (.inr (.inr (fun k => some (a (60 + 5 * k)))))))), (a 60, .inr (2, [.int (iI (σ 9 0)), .int (iI (σ 9 74)), .ref (a 61), .ref (a 62), .ref (a 63), .ref (a 64)])), (a 61, .inl (cx 0, 64, .inl (aI (fun k => σ 9 (10 + k))))), (a 62, .inl (cx 0, 9, .inl (aI (fun k => σ 9 (1 + k))))), (a 63, .inl (cx 0, 16, .inl (aI (fun k => σ 9 (75 + k))))), (a 64, .inl (cx 0, 16, .inl (aI (fun k => σ 9 (91 + k))))), (a 65, .inr (2, [.int (iI (σ 9 107)), .int (iI (σ 9 181)), .ref (a 66), .ref (a 67), .ref (a 68), .ref (a 69)])), (a 66, .inl (cx 0, 64, .inl (aI (fun k => σ 9 (117 + k))))), (a 67, .inl (cx 0, 9, .inl (aI (fun k => σ 9 (108 + k))))), (a 68, .inl (cx 0, 16, .inl (aI (fun k => σ 9 (182 + k))))), (a 69, .inl (cx 0, 16, .inl (aI (fun k => σ 9 (198 + k)))))] (wx cx a (sc σ 0 (cpo (σ 0) (σ 1) 0))) := by
  refine leW_k ?_
  refine leW_k ?_
  refine leW_k ?_
  refine leW_o ?_ ?_
  rotate_left
  · rw [show σ 1 0 = sc σ 0 (cpo (σ 0) (σ 1) 0) 0 0 from (cpo_in (w := σ 0) (f := σ 1) (o := 0) (k := 0) (by omega)).symm, show σ 1 74 = sc σ 0 (cpo (σ 0) (σ 1) 0) 0 74 from (cpo_in (w := σ 0) (f := σ 1) (o := 0) (k := 74) (by omega)).symm]
  refine leW_c ?_ (fun k h1 h2 => ?_)
  rotate_left
  · show σ 1 (10 + k) = (cpo (σ 0) (σ 1) 0) (10 + k)
    first | unfold cpi | unfold cpo
    rw [if_pos (by omega)]
    first | rfl | exact congrArg _ (by omega)
  refine leW_c ?_ (fun k h1 h2 => ?_)
  rotate_left
  · show σ 1 (1 + k) = (cpo (σ 0) (σ 1) 0) (1 + k)
    first | unfold cpi | unfold cpo
    rw [if_pos (by omega)]
    first | rfl | exact congrArg _ (by omega)
  refine leW_c ?_ (fun k h1 h2 => ?_)
  rotate_left
  · show σ 1 (75 + k) = (cpo (σ 0) (σ 1) 0) (75 + k)
    first | unfold cpi | unfold cpo
    rw [if_pos (by omega)]
    first | rfl | exact congrArg _ (by omega)
  refine leW_c ?_ (fun k h1 h2 => ?_)
  rotate_left
  · show σ 1 (91 + k) = (cpo (σ 0) (σ 1) 0) (91 + k)
    first | unfold cpi | unfold cpo
    rw [if_pos (by omega)]
    first | rfl | exact congrArg _ (by omega)
  refine leW_k ?_
  refine leW_k ?_
  refine leW_k ?_
  refine leW_k ?_
  refine leW_k ?_
  refine leW_k ?_
  refine leW_k ?_
  refine leW_k ?_
  refine leW_k ?_
  refine leW_k ?_
  refine leW_k ?_
  refine leW_k ?_
  refine leW_k ?_
  refine leW_k ?_
  refine leW_k ?_
  refine leW_k ?_
  refine leW_k ?_
  refine leW_k ?_
  refine leW_k ?_
  refine leW_k ?_
  refine leW_k ?_
  refine leW_k ?_
  refine leW_k ?_
  refine leW_k ?_
  refine leW_k ?_
  refine leW_k ?_
  refine leW_k ?_
  refine leW_k ?_
  refine leW_k ?_
  refine leW_k ?_
  refine leW_k ?_
  refine leW_k ?_
  refine leW_k ?_
  refine leW_k ?_
  refine leW_k ?_
  refine leW_k ?_
  refine leW_k ?_
  refine leW_k ?_
  refine leW_k ?_
  refine leW_k ?_
  refine leW_k ?_
  refine leW_k ?_
  refine leW_k ?_
  refine leW_k ?_
  refine leW_k ?_
  refine leW_k ?_
  refine leW_k ?_
  refine leW_k ?_
  refine leW_k ?_
  refine leW_k ?_
  refine leW_k ?_
  refine leW_k ?_
  refine leW_k ?_
  refine leW_k ?_
  refine leW_k ?_
  refine leW_k ?_
  refine leW_k ?_
  refine leW_k ?_
  refine leW_k ?_
  refine leW_k ?_
  refine leW_k ?_
  refine leW_k ?_
  exact leW_0
theorem wx_cp_q1 {G : va_G} {cx a : Nat → Nat} {σ : Nat → Int → Int} : leW G vwCl [(a 0, .inr (4, [.ref (a 3), .ref (a 8), .ref (a 14), .ref (a 17), .ref (a 59), .ref (a 1), .ref (a 2)])), (a 1, .inl (cx 2, 2, .inl (aI (σ 11)))), (a 2, .inl (cx 0, 16, .inl (aI (σ 13)))), (a 3, .inr (2, [.int (iI (σ 1 107)), .int (iI (σ 1 181)), .ref (a 4), .ref (a 5), .ref (a 6), .ref (a 7)])), (a 4, .inl (cx 0, 64, .inl (va_cpy (aI (fun k => σ 1 (117 + k))) (aI (fun k => σ 0 (10 + k))) (iI 0).toNatClampNeg (iI 0).toNatClampNeg (iI 64).toNatClampNeg))), (a 5, .inl (cx 0, 9, .inl (va_cpy (aI (fun k => σ 1 (108 + k))) (aI (fun k => σ 0 (1 + k))) (iI 0).toNatClampNeg (iI 0).toNatClampNeg (iI 9).toNatClampNeg))), (a 6, .inl (cx 0, 16, .inl (va_cpy (aI (fun k => σ 1 (182 + k))) (aI (fun k => σ 0 (75 + k))) (iI 0).toNatClampNeg (iI 0).toNatClampNeg (iI 16).toNatClampNeg))), (a 7, .inl (cx 0, 16, .inl (va_cpy (aI (fun k => σ 1 (198 + k))) (aI (fun k => σ 0 (91 + k))) (iI 0).toNatClampNeg (iI 0).toNatClampNeg (iI 16).toNatClampNeg))), (a 8, .inr (0, [.ref (a 3), .int (iI (σ 21 0)), .int (iI (σ 21 1)), .ref (a 9), .ref (a 10), .ref (a 11), .ref (a 12), .ref (a 13)])), (a 9, .inl (cx 0, 33, .inl (aI (σ 14)))), (a 10, .inl (cx 0, 16, .inl (aI (σ 15)))), (a 11, .inl (cx 0, 16, .inl (aI (σ 16)))), (a 12, .inl (cx 0, 561, .inl (aI (σ 17)))), (a 13, .inl (cx 0, 17, .inl (aI (σ 18)))), (a 14, .inr (3, [.ref (a 3), .ref (a 8), .ref (a 15), .ref (a 16)])), (a 15, .inl (cx 0, 16, .inl (aI (σ 19)))), (a 16, .inl (cx 1, 16, .inr (.inl (aL (σ 20))))), (a 17, .inr (1, [.ref (a 18), .int (iI (σ 12 0)), .int (iI (σ 12 1))])), (a 18, .inl (cx 3, 8, .inr (.inr (.inr (.inr (fun k => some (a (19 + 5 * k)))))))), (a 19, .inr (2, [.int (iI (σ 1 0)), .int (iI (σ 1 74)), .ref (a 20), .ref (a 21), .ref (a 22), .ref (a 23)])), (a 20, .inl (cx 0, 64, .inl (aI (fun k => σ 1 (10 + k))))), (a 21, .inl (cx 0, 9, .inl (aI (fun k => σ 1 (1 + k))))), (a 22, .inl (cx 0, 16, .inl (aI (fun k => σ 1 (75 + k))))), (a 23, .inl (cx 0, 16, .inl (aI (fun k => σ 1 (91 + k))))), (a 24, .inr (2, [.int (iI (σ 1 107)), .int (iI (σ 1 181)), .ref (a 25), .ref (a 26), .ref (a 27), .ref (a 28)])), (a 25, .inl (cx 0, 64, .inl (aI (fun k => σ 1 (117 + k))))), (a 26, .inl (cx 0, 9, .inl (aI (fun k => σ 1 (108 + k))))), (a 27, .inl (cx 0, 16, .inl (aI (fun k => σ 1 (182 + k))))), (a 28, .inl (cx 0, 16, .inl (aI (fun k => σ 1 (198 + k))))), (a 29, .inr (2, [.int (iI (σ 1 214)), .int (iI (σ 1 288)), .ref (a 30), .ref (a 31), .ref (a 32), .ref (a 33)])), (a 30, .inl (cx 0, 64, .inl (aI (fun k => σ 1 (224 + k))))), (a 31, .inl (cx 0, 9, .inl (aI (fun k => σ 1 (215 + k))))), (a 32, .inl (cx 0, 16, .inl (aI (fun k => σ 1 (289 + k))))), (a 33, .inl (cx 0, 16, .inl (aI (fun k => σ 1 (305 + k))))), (a 34, .inr (2, [.int (iI (σ 1 321)), .int (iI (σ 1 395)), .ref (a 35), .ref (a 36), .ref (a 37), .ref (a 38)])), (a 35, .inl (cx 0, 64, .inl (aI (fun k => σ 1 (331 + k))))), (a 36, .inl (cx 0, 9, .inl (aI (fun k => σ 1 (322 + k))))), (a 37, .inl (cx 0, 16, .inl (aI (fun k => σ 1 (396 + k))))), (a 38, .inl (cx 0, 16, .inl (aI (fun k => σ 1 (412 + k))))), (a 39, .inr (2, [.int (iI (σ 1 428)), .int (iI (σ 1 502)), .ref (a 40), .ref (a 41), .ref (a 42), .ref (a 43)])), (a 40, .inl (cx 0, 64, .inl (aI (fun k => σ 1 (438 + k))))), (a 41, .inl (cx 0, 9, .inl (aI (fun k => σ 1 (429 + k))))), (a 42, .inl (cx 0, 16, .inl (aI (fun k => σ 1 (503 + k))))), (a 43, .inl (cx 0, 16, .inl (aI (fun k => σ 1 (519 + k))))), (a 44, .inr (2, [.int (iI (σ 1 535)), .int (iI (σ 1 609)), .ref (a 45), .ref (a 46), .ref (a 47), .ref (a 48)])), (a 45, .inl (cx 0, 64, .inl (aI (fun k => σ 1 (545 + k))))), (a 46, .inl (cx 0, 9, .inl (aI (fun k => σ 1 (536 + k))))), (a 47, .inl (cx 0, 16, .inl (aI (fun k => σ 1 (610 + k))))), (a 48, .inl (cx 0, 16, .inl (aI (fun k => σ 1 (626 + k))))), (a 49, .inr (2, [.int (iI (σ 1 642)), .int (iI (σ 1 716)), .ref (a 50), .ref (a 51), .ref (a 52), .ref (a 53)])), (a 50, .inl (cx 0, 64, .inl (aI (fun k => σ 1 (652 + k))))), (a 51, .inl (cx 0, 9, .inl (aI (fun k => σ 1 (643 + k))))), (a 52, .inl (cx 0, 16, .inl (aI (fun k => σ 1 (717 + k))))), (a 53, .inl (cx 0, 16, .inl (aI (fun k => σ 1 (733 + k))))), (a 54, .inr (2, [.int (iI (σ 1 749)), .int (iI (σ 1 823)), .ref (a 55), .ref (a 56), .ref (a 57), .ref (a 58)])), (a 55, .inl (cx 0, 64, .inl (aI (fun k => σ 1 (759 + k))))), (a 56, .inl (cx 0, 9, .inl (aI (fun k => σ 1 (750 + k))))), (a 57, .inl (cx 0, 16, .inl (aI (fun k => σ 1 (824 + k))))), (a 58, .inl (cx 0, 16, .inl (aI (fun k => σ 1 (840 + k))))), (a 59, .inl (cx 3, 2, .inr (.inr (.inr (.inr (fun k => some (a (60 + 5 * k)))))))), (a 60, .inr (2, [.int (iI (σ 9 0)), .int (iI (σ 9 74)), .ref (a 61), .ref (a 62), .ref (a 63), .ref (a 64)])), (a 61, .inl (cx 0, 64, .inl (aI (fun k => σ 9 (10 + k))))), (a 62, .inl (cx 0, 9, .inl (aI (fun k => σ 9 (1 + k))))), (a 63, .inl (cx 0, 16, .inl (aI (fun k => σ 9 (75 + k))))), (a 64, .inl (cx 0, 16, .inl (aI (fun k => σ 9 (91 + k))))), (a 65, .inr (2, [.int (iI (σ 9 107)), .int (iI (σ 9 181)), .ref (a 66), .ref (a 67), .ref (a 68), .ref (a 69)])), (a 66, .inl (cx 0, 64, .inl (aI (fun k => σ 9 (117 + k))))), (a 67, .inl (cx 0, 9, .inl (aI (fun k => σ 9 (108 + k))))), (a 68, .inl (cx 0, 16, .inl (aI (fun k => σ 9 (182 + k))))), (a 69, .inl (cx 0, 16, .inl (aI (fun k => σ 9 (198 + k)))))] (wx cx a (sc σ 0 (cpo (σ 0) (σ 1) 107))) := by
  refine leW_k ?_
  refine leW_k ?_
  refine leW_k ?_
  refine leW_o ?_ ?_
  rotate_left
  · rw [show σ 1 107 = sc σ 0 (cpo (σ 0) (σ 1) 107) 0 0 from (cpo_in (w := σ 0) (f := σ 1) (o := 107) (k := 0) (by omega)).symm, show σ 1 181 = sc σ 0 (cpo (σ 0) (σ 1) 107) 0 74 from (cpo_in (w := σ 0) (f := σ 1) (o := 107) (k := 74) (by omega)).symm]
  refine leW_c ?_ (fun k h1 h2 => ?_)
  rotate_left
  · show σ 1 (117 + k) = (cpo (σ 0) (σ 1) 107) (10 + k)
    first | unfold cpi | unfold cpo
    rw [if_pos (by omega)]
    first | rfl | exact congrArg _ (by omega)
  refine leW_c ?_ (fun k h1 h2 => ?_)
  rotate_left
  · show σ 1 (108 + k) = (cpo (σ 0) (σ 1) 107) (1 + k)
    first | unfold cpi | unfold cpo
    rw [if_pos (by omega)]
    first | rfl | exact congrArg _ (by omega)
  refine leW_c ?_ (fun k h1 h2 => ?_)
  rotate_left
  · show σ 1 (182 + k) = (cpo (σ 0) (σ 1) 107) (75 + k)
    first | unfold cpi | unfold cpo
    rw [if_pos (by omega)]
    first | rfl | exact congrArg _ (by omega)
  refine leW_c ?_ (fun k h1 h2 => ?_)
  rotate_left
  · show σ 1 (198 + k) = (cpo (σ 0) (σ 1) 107) (91 + k)
    first | unfold cpi | unfold cpo
    rw [if_pos (by omega)]
    first | rfl | exact congrArg _ (by omega)
  refine leW_k ?_
  refine leW_k ?_
  refine leW_k ?_
  refine leW_k ?_
  refine leW_k ?_
  refine leW_k ?_
  refine leW_k ?_
  refine leW_k ?_
  refine leW_k ?_
  refine leW_k ?_
  refine leW_k ?_
  refine leW_k ?_
  refine leW_k ?_
  refine leW_k ?_
  refine leW_k ?_
  refine leW_k ?_
  refine leW_k ?_
  refine leW_k ?_
  refine leW_k ?_
  refine leW_k ?_
  refine leW_k ?_
  refine leW_k ?_
  refine leW_k ?_
  refine leW_k ?_
  refine leW_k ?_
  refine leW_k ?_
  refine leW_k ?_
  refine leW_k ?_
  refine leW_k ?_
  refine leW_k ?_
  refine leW_k ?_
  refine leW_k ?_
  refine leW_k ?_
  refine leW_k ?_
  refine leW_k ?_
  refine leW_k ?_
  refine leW_k ?_
  refine leW_k ?_
  refine leW_k ?_
  refine leW_k ?_
  refine leW_k ?_
  refine leW_k ?_
  refine leW_k ?_
  refine leW_k ?_
  refine leW_k ?_
  refine leW_k ?_
  refine leW_k ?_
  refine leW_k ?_
  refine leW_k ?_
  refine leW_k ?_
  refine leW_k ?_
  refine leW_k ?_
  refine leW_k ?_
  refine leW_k ?_
  refine leW_k ?_
  refine leW_k ?_
  refine leW_k ?_
  refine leW_k ?_
  refine leW_k ?_
  refine leW_k ?_
  refine leW_k ?_
  refine leW_k ?_
  exact leW_0
theorem wx_cp_q2 {G : va_G} {cx a : Nat → Nat} {σ : Nat → Int → Int} : leW G vwCl [(a 0, .inr (4, [.ref (a 3), .ref (a 8), .ref (a 14), .ref (a 17), .ref (a 59), .ref (a 1), .ref (a 2)])), (a 1, .inl (cx 2, 2, .inl (aI (σ 11)))), (a 2, .inl (cx 0, 16, .inl (aI (σ 13)))), (a 3, .inr (2, [.int (iI (σ 1 214)), .int (iI (σ 1 288)), .ref (a 4), .ref (a 5), .ref (a 6), .ref (a 7)])), (a 4, .inl (cx 0, 64, .inl (va_cpy (aI (fun k => σ 1 (224 + k))) (aI (fun k => σ 0 (10 + k))) (iI 0).toNatClampNeg (iI 0).toNatClampNeg (iI 64).toNatClampNeg))), (a 5, .inl (cx 0, 9, .inl (va_cpy (aI (fun k => σ 1 (215 + k))) (aI (fun k => σ 0 (1 + k))) (iI 0).toNatClampNeg (iI 0).toNatClampNeg (iI 9).toNatClampNeg))), (a 6, .inl (cx 0, 16, .inl (va_cpy (aI (fun k => σ 1 (289 + k))) (aI (fun k => σ 0 (75 + k))) (iI 0).toNatClampNeg (iI 0).toNatClampNeg (iI 16).toNatClampNeg))), (a 7, .inl (cx 0, 16, .inl (va_cpy (aI (fun k => σ 1 (305 + k))) (aI (fun k => σ 0 (91 + k))) (iI 0).toNatClampNeg (iI 0).toNatClampNeg (iI 16).toNatClampNeg))), (a 8, .inr (0, [.ref (a 3), .int (iI (σ 21 0)), .int (iI (σ 21 1)), .ref (a 9), .ref (a 10), .ref (a 11), .ref (a 12), .ref (a 13)])), (a 9, .inl (cx 0, 33, .inl (aI (σ 14)))), (a 10, .inl (cx 0, 16, .inl (aI (σ 15)))), (a 11, .inl (cx 0, 16, .inl (aI (σ 16)))), (a 12, .inl (cx 0, 561, .inl (aI (σ 17)))), (a 13, .inl (cx 0, 17, .inl (aI (σ 18)))), (a 14, .inr (3, [.ref (a 3), .ref (a 8), .ref (a 15), .ref (a 16)])), (a 15, .inl (cx 0, 16, .inl (aI (σ 19)))), (a 16, .inl (cx 1, 16, .inr (.inl (aL (σ 20))))), (a 17, .inr (1, [.ref (a 18), .int (iI (σ 12 0)), .int (iI (σ 12 1))])), (a 18, .inl (cx 3, 8, .inr (.inr (.inr (.inr (fun k => some (a (19 + 5 * k)))))))), (a 19, .inr (2, [.int (iI (σ 1 0)), .int (iI (σ 1 74)), .ref (a 20), .ref (a 21), .ref (a 22), .ref (a 23)])), (a 20, .inl (cx 0, 64, .inl (aI (fun k => σ 1 (10 + k))))), (a 21, .inl (cx 0, 9, .inl (aI (fun k => σ 1 (1 + k))))), (a 22, .inl (cx 0, 16, .inl (aI (fun k => σ 1 (75 + k))))), (a 23, .inl (cx 0, 16, .inl (aI (fun k => σ 1 (91 + k))))), (a 24, .inr (2, [.int (iI (σ 1 107)), .int (iI (σ 1 181)), .ref (a 25), .ref (a 26), .ref (a 27), .ref (a 28)])), (a 25, .inl (cx 0, 64, .inl (aI (fun k => σ 1 (117 + k))))), (a 26, .inl (cx 0, 9, .inl (aI (fun k => σ 1 (108 + k))))), (a 27, .inl (cx 0, 16, .inl (aI (fun k => σ 1 (182 + k))))), (a 28, .inl (cx 0, 16, .inl (aI (fun k => σ 1 (198 + k))))), (a 29, .inr (2, [.int (iI (σ 1 214)), .int (iI (σ 1 288)), .ref (a 30), .ref (a 31), .ref (a 32), .ref (a 33)])), (a 30, .inl (cx 0, 64, .inl (aI (fun k => σ 1 (224 + k))))), (a 31, .inl (cx 0, 9, .inl (aI (fun k => σ 1 (215 + k))))), (a 32, .inl (cx 0, 16, .inl (aI (fun k => σ 1 (289 + k))))), (a 33, .inl (cx 0, 16, .inl (aI (fun k => σ 1 (305 + k))))), (a 34, .inr (2, [.int (iI (σ 1 321)), .int (iI (σ 1 395)), .ref (a 35), .ref (a 36), .ref (a 37), .ref (a 38)])), (a 35, .inl (cx 0, 64, .inl (aI (fun k => σ 1 (331 + k))))), (a 36, .inl (cx 0, 9, .inl (aI (fun k => σ 1 (322 + k))))), (a 37, .inl (cx 0, 16, .inl (aI (fun k => σ 1 (396 + k))))), (a 38, .inl (cx 0, 16, .inl (aI (fun k => σ 1 (412 + k))))), (a 39, .inr (2, [.int (iI (σ 1 428)), .int (iI (σ 1 502)), .ref (a 40), .ref (a 41), .ref (a 42), .ref (a 43)])), (a 40, .inl (cx 0, 64, .inl (aI (fun k => σ 1 (438 + k))))), (a 41, .inl (cx 0, 9, .inl (aI (fun k => σ 1 (429 + k))))), (a 42, .inl (cx 0, 16, .inl (aI (fun k => σ 1 (503 + k))))), (a 43, .inl (cx 0, 16, .inl (aI (fun k => σ 1 (519 + k))))), (a 44, .inr (2, [.int (iI (σ 1 535)), .int (iI (σ 1 609)), .ref (a 45), .ref (a 46), .ref (a 47), .ref (a 48)])), (a 45, .inl (cx 0, 64, .inl (aI (fun k => σ 1 (545 + k))))), (a 46, .inl (cx 0, 9, .inl (aI (fun k => σ 1 (536 + k))))), (a 47, .inl (cx 0, 16, .inl (aI (fun k => σ 1 (610 + k))))), (a 48, .inl (cx 0, 16, .inl (aI (fun k => σ 1 (626 + k))))), (a 49, .inr (2, [.int (iI (σ 1 642)), .int (iI (σ 1 716)), .ref (a 50), .ref (a 51), .ref (a 52), .ref (a 53)])), (a 50, .inl (cx 0, 64, .inl (aI (fun k => σ 1 (652 + k))))), (a 51, .inl (cx 0, 9, .inl (aI (fun k => σ 1 (643 + k))))), (a 52, .inl (cx 0, 16, .inl (aI (fun k => σ 1 (717 + k))))), (a 53, .inl (cx 0, 16, .inl (aI (fun k => σ 1 (733 + k))))), (a 54, .inr (2, [.int (iI (σ 1 749)), .int (iI (σ 1 823)), .ref (a 55), .ref (a 56), .ref (a 57), .ref (a 58)])), (a 55, .inl (cx 0, 64, .inl (aI (fun k => σ 1 (759 + k))))), (a 56, .inl (cx 0, 9, .inl (aI (fun k => σ 1 (750 + k))))), (a 57, .inl (cx 0, 16, .inl (aI (fun k => σ 1 (824 + k))))), (a 58, .inl (cx 0, 16, .inl (aI (fun k => σ 1 (840 + k))))), (a 59, .inl (cx 3, 2, .inr (.inr (.inr (.inr (fun k => some (a (60 + 5 * k)))))))), (a 60, .inr (2, [.int (iI (σ 9 0)), .int (iI (σ 9 74)), .ref (a 61), .ref (a 62), .ref (a 63), .ref (a 64)])), (a 61, .inl (cx 0, 64, .inl (aI (fun k => σ 9 (10 + k))))), (a 62, .inl (cx 0, 9, .inl (aI (fun k => σ 9 (1 + k))))), (a 63, .inl (cx 0, 16, .inl (aI (fun k => σ 9 (75 + k))))), (a 64, .inl (cx 0, 16, .inl (aI (fun k => σ 9 (91 + k))))), (a 65, .inr (2, [.int (iI (σ 9 107)), .int (iI (σ 9 181)), .ref (a 66), .ref (a 67), .ref (a 68), .ref (a 69)])), (a 66, .inl (cx 0, 64, .inl (aI (fun k => σ 9 (117 + k))))), (a 67, .inl (cx 0, 9, .inl (aI (fun k => σ 9 (108 + k))))), (a 68, .inl (cx 0, 16, .inl (aI (fun k => σ 9 (182 + k))))), (a 69, .inl (cx 0, 16, .inl (aI (fun k => σ 9 (198 + k)))))] (wx cx a (sc σ 0 (cpo (σ 0) (σ 1) 214))) := by
  refine leW_k ?_
  refine leW_k ?_
  refine leW_k ?_
  refine leW_o ?_ ?_
  rotate_left
  · rw [show σ 1 214 = sc σ 0 (cpo (σ 0) (σ 1) 214) 0 0 from (cpo_in (w := σ 0) (f := σ 1) (o := 214) (k := 0) (by omega)).symm, show σ 1 288 = sc σ 0 (cpo (σ 0) (σ 1) 214) 0 74 from (cpo_in (w := σ 0) (f := σ 1) (o := 214) (k := 74) (by omega)).symm]
  refine leW_c ?_ (fun k h1 h2 => ?_)
  rotate_left
  · show σ 1 (224 + k) = (cpo (σ 0) (σ 1) 214) (10 + k)
    first | unfold cpi | unfold cpo
    rw [if_pos (by omega)]
    first | rfl | exact congrArg _ (by omega)
  refine leW_c ?_ (fun k h1 h2 => ?_)
  rotate_left
  · show σ 1 (215 + k) = (cpo (σ 0) (σ 1) 214) (1 + k)
    first | unfold cpi | unfold cpo
    rw [if_pos (by omega)]
    first | rfl | exact congrArg _ (by omega)
  refine leW_c ?_ (fun k h1 h2 => ?_)
  rotate_left
  · show σ 1 (289 + k) = (cpo (σ 0) (σ 1) 214) (75 + k)
    first | unfold cpi | unfold cpo
    rw [if_pos (by omega)]
    first | rfl | exact congrArg _ (by omega)
  refine leW_c ?_ (fun k h1 h2 => ?_)
  rotate_left
  · show σ 1 (305 + k) = (cpo (σ 0) (σ 1) 214) (91 + k)
    first | unfold cpi | unfold cpo
    rw [if_pos (by omega)]
    first | rfl | exact congrArg _ (by omega)
  refine leW_k ?_
  refine leW_k ?_
  refine leW_k ?_
  refine leW_k ?_
  refine leW_k ?_
  refine leW_k ?_
  refine leW_k ?_
  refine leW_k ?_
  refine leW_k ?_
  refine leW_k ?_
  refine leW_k ?_
  refine leW_k ?_
  refine leW_k ?_
  refine leW_k ?_
  refine leW_k ?_
  refine leW_k ?_
  refine leW_k ?_
  refine leW_k ?_
  refine leW_k ?_
  refine leW_k ?_
  refine leW_k ?_
  refine leW_k ?_
  refine leW_k ?_
  refine leW_k ?_
  refine leW_k ?_
  refine leW_k ?_
  refine leW_k ?_
  refine leW_k ?_
  refine leW_k ?_
  refine leW_k ?_
  refine leW_k ?_
  refine leW_k ?_
  refine leW_k ?_
  refine leW_k ?_
  refine leW_k ?_
  refine leW_k ?_
  refine leW_k ?_
  refine leW_k ?_
  refine leW_k ?_
  refine leW_k ?_
  refine leW_k ?_
  refine leW_k ?_
  refine leW_k ?_
  refine leW_k ?_
  refine leW_k ?_
  refine leW_k ?_
  refine leW_k ?_
  refine leW_k ?_
  refine leW_k ?_
  refine leW_k ?_
  refine leW_k ?_
  refine leW_k ?_
  refine leW_k ?_
  refine leW_k ?_
  refine leW_k ?_
  refine leW_k ?_
  refine leW_k ?_
  refine leW_k ?_
  refine leW_k ?_
  refine leW_k ?_
  refine leW_k ?_
  refine leW_k ?_
  exact leW_0
theorem wx_cp_q3 {G : va_G} {cx a : Nat → Nat} {σ : Nat → Int → Int} : leW G vwCl [(a 0, .inr (4, [.ref (a 3), .ref (a 8), .ref (a 14), .ref (a 17), .ref (a 59), .ref (a 1), .ref (a 2)])), (a 1, .inl (cx 2, 2, .inl (aI (σ 11)))), (a 2, .inl (cx 0, 16, .inl (aI (σ 13)))), (a 3, .inr (2, [.int (iI (σ 1 321)), .int (iI (σ 1 395)), .ref (a 4), .ref (a 5), .ref (a 6), .ref (a 7)])), (a 4, .inl (cx 0, 64, .inl (va_cpy (aI (fun k => σ 1 (331 + k))) (aI (fun k => σ 0 (10 + k))) (iI 0).toNatClampNeg (iI 0).toNatClampNeg (iI 64).toNatClampNeg))), (a 5, .inl (cx 0, 9, .inl (va_cpy (aI (fun k => σ 1 (322 + k))) (aI (fun k => σ 0 (1 + k))) (iI 0).toNatClampNeg (iI 0).toNatClampNeg (iI 9).toNatClampNeg))), (a 6, .inl (cx 0, 16, .inl (va_cpy (aI (fun k => σ 1 (396 + k))) (aI (fun k => σ 0 (75 + k))) (iI 0).toNatClampNeg (iI 0).toNatClampNeg (iI 16).toNatClampNeg))), (a 7, .inl (cx 0, 16, .inl (va_cpy (aI (fun k => σ 1 (412 + k))) (aI (fun k => σ 0 (91 + k))) (iI 0).toNatClampNeg (iI 0).toNatClampNeg (iI 16).toNatClampNeg))), (a 8, .inr (0, [.ref (a 3), .int (iI (σ 21 0)), .int (iI (σ 21 1)), .ref (a 9), .ref (a 10), .ref (a 11), .ref (a 12), .ref (a 13)])), (a 9, .inl (cx 0, 33, .inl (aI (σ 14)))), (a 10, .inl (cx 0, 16, .inl (aI (σ 15)))), (a 11, .inl (cx 0, 16, .inl (aI (σ 16)))), (a 12, .inl (cx 0, 561, .inl (aI (σ 17)))), (a 13, .inl (cx 0, 17, .inl (aI (σ 18)))), (a 14, .inr (3, [.ref (a 3), .ref (a 8), .ref (a 15), .ref (a 16)])), (a 15, .inl (cx 0, 16, .inl (aI (σ 19)))), (a 16, .inl (cx 1, 16, .inr (.inl (aL (σ 20))))), (a 17, .inr (1, [.ref (a 18), .int (iI (σ 12 0)), .int (iI (σ 12 1))])), (a 18, .inl (cx 3, 8, .inr (.inr (.inr (.inr (fun k => some (a (19 + 5 * k)))))))), (a 19, .inr (2, [.int (iI (σ 1 0)), .int (iI (σ 1 74)), .ref (a 20), .ref (a 21), .ref (a 22), .ref (a 23)])), (a 20, .inl (cx 0, 64, .inl (aI (fun k => σ 1 (10 + k))))), (a 21, .inl (cx 0, 9, .inl (aI (fun k => σ 1 (1 + k))))), (a 22, .inl (cx 0, 16, .inl (aI (fun k => σ 1 (75 + k))))), (a 23, .inl (cx 0, 16, .inl (aI (fun k => σ 1 (91 + k))))), (a 24, .inr (2, [.int (iI (σ 1 107)), .int (iI (σ 1 181)), .ref (a 25), .ref (a 26), .ref (a 27), .ref (a 28)])), (a 25, .inl (cx 0, 64, .inl (aI (fun k => σ 1 (117 + k))))), (a 26, .inl (cx 0, 9, .inl (aI (fun k => σ 1 (108 + k))))), (a 27, .inl (cx 0, 16, .inl (aI (fun k => σ 1 (182 + k))))), (a 28, .inl (cx 0, 16, .inl (aI (fun k => σ 1 (198 + k))))), (a 29, .inr (2, [.int (iI (σ 1 214)), .int (iI (σ 1 288)), .ref (a 30), .ref (a 31), .ref (a 32), .ref (a 33)])), (a 30, .inl (cx 0, 64, .inl (aI (fun k => σ 1 (224 + k))))), (a 31, .inl (cx 0, 9, .inl (aI (fun k => σ 1 (215 + k))))), (a 32, .inl (cx 0, 16, .inl (aI (fun k => σ 1 (289 + k))))), (a 33, .inl (cx 0, 16, .inl (aI (fun k => σ 1 (305 + k))))), (a 34, .inr (2, [.int (iI (σ 1 321)), .int (iI (σ 1 395)), .ref (a 35), .ref (a 36), .ref (a 37), .ref (a 38)])), (a 35, .inl (cx 0, 64, .inl (aI (fun k => σ 1 (331 + k))))), (a 36, .inl (cx 0, 9, .inl (aI (fun k => σ 1 (322 + k))))), (a 37, .inl (cx 0, 16, .inl (aI (fun k => σ 1 (396 + k))))), (a 38, .inl (cx 0, 16, .inl (aI (fun k => σ 1 (412 + k))))), (a 39, .inr (2, [.int (iI (σ 1 428)), .int (iI (σ 1 502)), .ref (a 40), .ref (a 41), .ref (a 42), .ref (a 43)])), (a 40, .inl (cx 0, 64, .inl (aI (fun k => σ 1 (438 + k))))), (a 41, .inl (cx 0, 9, .inl (aI (fun k => σ 1 (429 + k))))), (a 42, .inl (cx 0, 16, .inl (aI (fun k => σ 1 (503 + k))))), (a 43, .inl (cx 0, 16, .inl (aI (fun k => σ 1 (519 + k))))), (a 44, .inr (2, [.int (iI (σ 1 535)), .int (iI (σ 1 609)), .ref (a 45), .ref (a 46), .ref (a 47), .ref (a 48)])), (a 45, .inl (cx 0, 64, .inl (aI (fun k => σ 1 (545 + k))))), (a 46, .inl (cx 0, 9, .inl (aI (fun k => σ 1 (536 + k))))), (a 47, .inl (cx 0, 16, .inl (aI (fun k => σ 1 (610 + k))))), (a 48, .inl (cx 0, 16, .inl (aI (fun k => σ 1 (626 + k))))), (a 49, .inr (2, [.int (iI (σ 1 642)), .int (iI (σ 1 716)), .ref (a 50), .ref (a 51), .ref (a 52), .ref (a 53)])), (a 50, .inl (cx 0, 64, .inl (aI (fun k => σ 1 (652 + k))))), (a 51, .inl (cx 0, 9, .inl (aI (fun k => σ 1 (643 + k))))), (a 52, .inl (cx 0, 16, .inl (aI (fun k => σ 1 (717 + k))))), (a 53, .inl (cx 0, 16, .inl (aI (fun k => σ 1 (733 + k))))), (a 54, .inr (2, [.int (iI (σ 1 749)), .int (iI (σ 1 823)), .ref (a 55), .ref (a 56), .ref (a 57), .ref (a 58)])), (a 55, .inl (cx 0, 64, .inl (aI (fun k => σ 1 (759 + k))))), (a 56, .inl (cx 0, 9, .inl (aI (fun k => σ 1 (750 + k))))), (a 57, .inl (cx 0, 16, .inl (aI (fun k => σ 1 (824 + k))))), (a 58, .inl (cx 0, 16, .inl (aI (fun k => σ 1 (840 + k))))), (a 59, .inl (cx 3, 2, .inr (.inr (.inr (.inr (fun k => some (a (60 + 5 * k)))))))), (a 60, .inr (2, [.int (iI (σ 9 0)), .int (iI (σ 9 74)), .ref (a 61), .ref (a 62), .ref (a 63), .ref (a 64)])), (a 61, .inl (cx 0, 64, .inl (aI (fun k => σ 9 (10 + k))))), (a 62, .inl (cx 0, 9, .inl (aI (fun k => σ 9 (1 + k))))), (a 63, .inl (cx 0, 16, .inl (aI (fun k => σ 9 (75 + k))))), (a 64, .inl (cx 0, 16, .inl (aI (fun k => σ 9 (91 + k))))), (a 65, .inr (2, [.int (iI (σ 9 107)), .int (iI (σ 9 181)), .ref (a 66), .ref (a 67), .ref (a 68), .ref (a 69)])), (a 66, .inl (cx 0, 64, .inl (aI (fun k => σ 9 (117 + k))))), (a 67, .inl (cx 0, 9, .inl (aI (fun k => σ 9 (108 + k))))), (a 68, .inl (cx 0, 16, .inl (aI (fun k => σ 9 (182 + k))))), (a 69, .inl (cx 0, 16, .inl (aI (fun k => σ 9 (198 + k)))))] (wx cx a (sc σ 0 (cpo (σ 0) (σ 1) 321))) := by
  refine leW_k ?_
  refine leW_k ?_
  refine leW_k ?_
  refine leW_o ?_ ?_
  rotate_left
  · rw [show σ 1 321 = sc σ 0 (cpo (σ 0) (σ 1) 321) 0 0 from (cpo_in (w := σ 0) (f := σ 1) (o := 321) (k := 0) (by omega)).symm, show σ 1 395 = sc σ 0 (cpo (σ 0) (σ 1) 321) 0 74 from (cpo_in (w := σ 0) (f := σ 1) (o := 321) (k := 74) (by omega)).symm]
  refine leW_c ?_ (fun k h1 h2 => ?_)
  rotate_left
  · show σ 1 (331 + k) = (cpo (σ 0) (σ 1) 321) (10 + k)
    first | unfold cpi | unfold cpo
    rw [if_pos (by omega)]
    first | rfl | exact congrArg _ (by omega)
  refine leW_c ?_ (fun k h1 h2 => ?_)
  rotate_left
  · show σ 1 (322 + k) = (cpo (σ 0) (σ 1) 321) (1 + k)
    first | unfold cpi | unfold cpo
    rw [if_pos (by omega)]
    first | rfl | exact congrArg _ (by omega)
  refine leW_c ?_ (fun k h1 h2 => ?_)
  rotate_left
  · show σ 1 (396 + k) = (cpo (σ 0) (σ 1) 321) (75 + k)
    first | unfold cpi | unfold cpo
    rw [if_pos (by omega)]
    first | rfl | exact congrArg _ (by omega)
  refine leW_c ?_ (fun k h1 h2 => ?_)
  rotate_left
  · show σ 1 (412 + k) = (cpo (σ 0) (σ 1) 321) (91 + k)
    first | unfold cpi | unfold cpo
    rw [if_pos (by omega)]
    first | rfl | exact congrArg _ (by omega)
  refine leW_k ?_
  refine leW_k ?_
  refine leW_k ?_
  refine leW_k ?_
  refine leW_k ?_
  refine leW_k ?_
  refine leW_k ?_
  refine leW_k ?_
  refine leW_k ?_
  refine leW_k ?_
  refine leW_k ?_
  refine leW_k ?_
  refine leW_k ?_
  refine leW_k ?_
  refine leW_k ?_
  refine leW_k ?_
  refine leW_k ?_
  refine leW_k ?_
  refine leW_k ?_
  refine leW_k ?_
  refine leW_k ?_
  refine leW_k ?_
  refine leW_k ?_
  refine leW_k ?_
  refine leW_k ?_
  refine leW_k ?_
  refine leW_k ?_
  refine leW_k ?_
  refine leW_k ?_
  refine leW_k ?_
  refine leW_k ?_
  refine leW_k ?_
  refine leW_k ?_
  refine leW_k ?_
  refine leW_k ?_
  refine leW_k ?_
  refine leW_k ?_
  refine leW_k ?_
  refine leW_k ?_
  refine leW_k ?_
  refine leW_k ?_
  refine leW_k ?_
  refine leW_k ?_
  refine leW_k ?_
  refine leW_k ?_
  refine leW_k ?_
  refine leW_k ?_
  refine leW_k ?_
  refine leW_k ?_
  refine leW_k ?_
  refine leW_k ?_
  refine leW_k ?_
  refine leW_k ?_
  refine leW_k ?_
  refine leW_k ?_
  refine leW_k ?_
  refine leW_k ?_
  refine leW_k ?_
  refine leW_k ?_
  refine leW_k ?_
  refine leW_k ?_
  refine leW_k ?_
  exact leW_0
theorem wx_cp_q4 {G : va_G} {cx a : Nat → Nat} {σ : Nat → Int → Int} : leW G vwCl [(a 0, .inr (4, [.ref (a 3), .ref (a 8), .ref (a 14), .ref (a 17), .ref (a 59), .ref (a 1), .ref (a 2)])), (a 1, .inl (cx 2, 2, .inl (aI (σ 11)))), (a 2, .inl (cx 0, 16, .inl (aI (σ 13)))), (a 3, .inr (2, [.int (iI (σ 1 428)), .int (iI (σ 1 502)), .ref (a 4), .ref (a 5), .ref (a 6), .ref (a 7)])), (a 4, .inl (cx 0, 64, .inl (va_cpy (aI (fun k => σ 1 (438 + k))) (aI (fun k => σ 0 (10 + k))) (iI 0).toNatClampNeg (iI 0).toNatClampNeg (iI 64).toNatClampNeg))), (a 5, .inl (cx 0, 9, .inl (va_cpy (aI (fun k => σ 1 (429 + k))) (aI (fun k => σ 0 (1 + k))) (iI 0).toNatClampNeg (iI 0).toNatClampNeg (iI 9).toNatClampNeg))), (a 6, .inl (cx 0, 16, .inl (va_cpy (aI (fun k => σ 1 (503 + k))) (aI (fun k => σ 0 (75 + k))) (iI 0).toNatClampNeg (iI 0).toNatClampNeg (iI 16).toNatClampNeg))), (a 7, .inl (cx 0, 16, .inl (va_cpy (aI (fun k => σ 1 (519 + k))) (aI (fun k => σ 0 (91 + k))) (iI 0).toNatClampNeg (iI 0).toNatClampNeg (iI 16).toNatClampNeg))), (a 8, .inr (0, [.ref (a 3), .int (iI (σ 21 0)), .int (iI (σ 21 1)), .ref (a 9), .ref (a 10), .ref (a 11), .ref (a 12), .ref (a 13)])), (a 9, .inl (cx 0, 33, .inl (aI (σ 14)))), (a 10, .inl (cx 0, 16, .inl (aI (σ 15)))), (a 11, .inl (cx 0, 16, .inl (aI (σ 16)))), (a 12, .inl (cx 0, 561, .inl (aI (σ 17)))), (a 13, .inl (cx 0, 17, .inl (aI (σ 18)))), (a 14, .inr (3, [.ref (a 3), .ref (a 8), .ref (a 15), .ref (a 16)])), (a 15, .inl (cx 0, 16, .inl (aI (σ 19)))), (a 16, .inl (cx 1, 16, .inr (.inl (aL (σ 20))))), (a 17, .inr (1, [.ref (a 18), .int (iI (σ 12 0)), .int (iI (σ 12 1))])), (a 18, .inl (cx 3, 8, .inr (.inr (.inr (.inr (fun k => some (a (19 + 5 * k)))))))), (a 19, .inr (2, [.int (iI (σ 1 0)), .int (iI (σ 1 74)), .ref (a 20), .ref (a 21), .ref (a 22), .ref (a 23)])), (a 20, .inl (cx 0, 64, .inl (aI (fun k => σ 1 (10 + k))))), (a 21, .inl (cx 0, 9, .inl (aI (fun k => σ 1 (1 + k))))), (a 22, .inl (cx 0, 16, .inl (aI (fun k => σ 1 (75 + k))))), (a 23, .inl (cx 0, 16, .inl (aI (fun k => σ 1 (91 + k))))), (a 24, .inr (2, [.int (iI (σ 1 107)), .int (iI (σ 1 181)), .ref (a 25), .ref (a 26), .ref (a 27), .ref (a 28)])), (a 25, .inl (cx 0, 64, .inl (aI (fun k => σ 1 (117 + k))))), (a 26, .inl (cx 0, 9, .inl (aI (fun k => σ 1 (108 + k))))), (a 27, .inl (cx 0, 16, .inl (aI (fun k => σ 1 (182 + k))))), (a 28, .inl (cx 0, 16, .inl (aI (fun k => σ 1 (198 + k))))), (a 29, .inr (2, [.int (iI (σ 1 214)), .int (iI (σ 1 288)), .ref (a 30), .ref (a 31), .ref (a 32), .ref (a 33)])), (a 30, .inl (cx 0, 64, .inl (aI (fun k => σ 1 (224 + k))))), (a 31, .inl (cx 0, 9, .inl (aI (fun k => σ 1 (215 + k))))), (a 32, .inl (cx 0, 16, .inl (aI (fun k => σ 1 (289 + k))))), (a 33, .inl (cx 0, 16, .inl (aI (fun k => σ 1 (305 + k))))), (a 34, .inr (2, [.int (iI (σ 1 321)), .int (iI (σ 1 395)), .ref (a 35), .ref (a 36), .ref (a 37), .ref (a 38)])), (a 35, .inl (cx 0, 64, .inl (aI (fun k => σ 1 (331 + k))))), (a 36, .inl (cx 0, 9, .inl (aI (fun k => σ 1 (322 + k))))), (a 37, .inl (cx 0, 16, .inl (aI (fun k => σ 1 (396 + k))))), (a 38, .inl (cx 0, 16, .inl (aI (fun k => σ 1 (412 + k))))), (a 39, .inr (2, [.int (iI (σ 1 428)), .int (iI (σ 1 502)), .ref (a 40), .ref (a 41), .ref (a 42), .ref (a 43)])), (a 40, .inl (cx 0, 64, .inl (aI (fun k => σ 1 (438 + k))))), (a 41, .inl (cx 0, 9, .inl (aI (fun k => σ 1 (429 + k))))), (a 42, .inl (cx 0, 16, .inl (aI (fun k => σ 1 (503 + k))))), (a 43, .inl (cx 0, 16, .inl (aI (fun k => σ 1 (519 + k))))), (a 44, .inr (2, [.int (iI (σ 1 535)), .int (iI (σ 1 609)), .ref (a 45), .ref (a 46), .ref (a 47), .ref (a 48)])), (a 45, .inl (cx 0, 64, .inl (aI (fun k => σ 1 (545 + k))))), (a 46, .inl (cx 0, 9, .inl (aI (fun k => σ 1 (536 + k))))), (a 47, .inl (cx 0, 16, .inl (aI (fun k => σ 1 (610 + k))))), (a 48, .inl (cx 0, 16, .inl (aI (fun k => σ 1 (626 + k))))), (a 49, .inr (2, [.int (iI (σ 1 642)), .int (iI (σ 1 716)), .ref (a 50), .ref (a 51), .ref (a 52), .ref (a 53)])), (a 50, .inl (cx 0, 64, .inl (aI (fun k => σ 1 (652 + k))))), (a 51, .inl (cx 0, 9, .inl (aI (fun k => σ 1 (643 + k))))), (a 52, .inl (cx 0, 16, .inl (aI (fun k => σ 1 (717 + k))))), (a 53, .inl (cx 0, 16, .inl (aI (fun k => σ 1 (733 + k))))), (a 54, .inr (2, [.int (iI (σ 1 749)), .int (iI (σ 1 823)), .ref (a 55), .ref (a 56), .ref (a 57), .ref (a 58)])), (a 55, .inl (cx 0, 64, .inl (aI (fun k => σ 1 (759 + k))))), (a 56, .inl (cx 0, 9, .inl (aI (fun k => σ 1 (750 + k))))), (a 57, .inl (cx 0, 16, .inl (aI (fun k => σ 1 (824 + k))))), (a 58, .inl (cx 0, 16, .inl (aI (fun k => σ 1 (840 + k))))), (a 59, .inl (cx 3, 2, .inr (.inr (.inr (.inr (fun k => some (a (60 + 5 * k)))))))), (a 60, .inr (2, [.int (iI (σ 9 0)), .int (iI (σ 9 74)), .ref (a 61), .ref (a 62), .ref (a 63), .ref (a 64)])), (a 61, .inl (cx 0, 64, .inl (aI (fun k => σ 9 (10 + k))))), (a 62, .inl (cx 0, 9, .inl (aI (fun k => σ 9 (1 + k))))), (a 63, .inl (cx 0, 16, .inl (aI (fun k => σ 9 (75 + k))))), (a 64, .inl (cx 0, 16, .inl (aI (fun k => σ 9 (91 + k))))), (a 65, .inr (2, [.int (iI (σ 9 107)), .int (iI (σ 9 181)), .ref (a 66), .ref (a 67), .ref (a 68), .ref (a 69)])), (a 66, .inl (cx 0, 64, .inl (aI (fun k => σ 9 (117 + k))))), (a 67, .inl (cx 0, 9, .inl (aI (fun k => σ 9 (108 + k))))), (a 68, .inl (cx 0, 16, .inl (aI (fun k => σ 9 (182 + k))))), (a 69, .inl (cx 0, 16, .inl (aI (fun k => σ 9 (198 + k)))))] (wx cx a (sc σ 0 (cpo (σ 0) (σ 1) 428))) := by
  refine leW_k ?_
  refine leW_k ?_
  refine leW_k ?_
  refine leW_o ?_ ?_
  rotate_left
  · rw [show σ 1 428 = sc σ 0 (cpo (σ 0) (σ 1) 428) 0 0 from (cpo_in (w := σ 0) (f := σ 1) (o := 428) (k := 0) (by omega)).symm, show σ 1 502 = sc σ 0 (cpo (σ 0) (σ 1) 428) 0 74 from (cpo_in (w := σ 0) (f := σ 1) (o := 428) (k := 74) (by omega)).symm]
  refine leW_c ?_ (fun k h1 h2 => ?_)
  rotate_left
  · show σ 1 (438 + k) = (cpo (σ 0) (σ 1) 428) (10 + k)
    first | unfold cpi | unfold cpo
    rw [if_pos (by omega)]
    first | rfl | exact congrArg _ (by omega)
  refine leW_c ?_ (fun k h1 h2 => ?_)
  rotate_left
  · show σ 1 (429 + k) = (cpo (σ 0) (σ 1) 428) (1 + k)
    first | unfold cpi | unfold cpo
    rw [if_pos (by omega)]
    first | rfl | exact congrArg _ (by omega)
  refine leW_c ?_ (fun k h1 h2 => ?_)
  rotate_left
  · show σ 1 (503 + k) = (cpo (σ 0) (σ 1) 428) (75 + k)
    first | unfold cpi | unfold cpo
    rw [if_pos (by omega)]
    first | rfl | exact congrArg _ (by omega)
  refine leW_c ?_ (fun k h1 h2 => ?_)
  rotate_left
  · show σ 1 (519 + k) = (cpo (σ 0) (σ 1) 428) (91 + k)
    first | unfold cpi | unfold cpo
    rw [if_pos (by omega)]
    first | rfl | exact congrArg _ (by omega)
  refine leW_k ?_
  refine leW_k ?_
  refine leW_k ?_
  refine leW_k ?_
  refine leW_k ?_
  refine leW_k ?_
  refine leW_k ?_
  refine leW_k ?_
  refine leW_k ?_
  refine leW_k ?_
  refine leW_k ?_
  refine leW_k ?_
  refine leW_k ?_
  refine leW_k ?_
  refine leW_k ?_
  refine leW_k ?_
  refine leW_k ?_
  refine leW_k ?_
  refine leW_k ?_
  refine leW_k ?_
  refine leW_k ?_
  refine leW_k ?_
  refine leW_k ?_
  refine leW_k ?_
  refine leW_k ?_
  refine leW_k ?_
  refine leW_k ?_
  refine leW_k ?_
  refine leW_k ?_
  refine leW_k ?_
  refine leW_k ?_
  refine leW_k ?_
  refine leW_k ?_
  refine leW_k ?_
  refine leW_k ?_
  refine leW_k ?_
  refine leW_k ?_
  refine leW_k ?_
  refine leW_k ?_
  refine leW_k ?_
  refine leW_k ?_
  refine leW_k ?_
  refine leW_k ?_
  refine leW_k ?_
  refine leW_k ?_
  refine leW_k ?_
  refine leW_k ?_
  refine leW_k ?_
  refine leW_k ?_
  refine leW_k ?_
  refine leW_k ?_
  refine leW_k ?_
  refine leW_k ?_
  refine leW_k ?_
  refine leW_k ?_
  refine leW_k ?_
  refine leW_k ?_
  refine leW_k ?_
  refine leW_k ?_
  refine leW_k ?_
  refine leW_k ?_
  refine leW_k ?_
  exact leW_0
theorem wx_cp_q5 {G : va_G} {cx a : Nat → Nat} {σ : Nat → Int → Int} : leW G vwCl [(a 0, .inr (4, [.ref (a 3), .ref (a 8), .ref (a 14), .ref (a 17), .ref (a 59), .ref (a 1), .ref (a 2)])), (a 1, .inl (cx 2, 2, .inl (aI (σ 11)))), (a 2, .inl (cx 0, 16, .inl (aI (σ 13)))), (a 3, .inr (2, [.int (iI (σ 1 535)), .int (iI (σ 1 609)), .ref (a 4), .ref (a 5), .ref (a 6), .ref (a 7)])), (a 4, .inl (cx 0, 64, .inl (va_cpy (aI (fun k => σ 1 (545 + k))) (aI (fun k => σ 0 (10 + k))) (iI 0).toNatClampNeg (iI 0).toNatClampNeg (iI 64).toNatClampNeg))), (a 5, .inl (cx 0, 9, .inl (va_cpy (aI (fun k => σ 1 (536 + k))) (aI (fun k => σ 0 (1 + k))) (iI 0).toNatClampNeg (iI 0).toNatClampNeg (iI 9).toNatClampNeg))), (a 6, .inl (cx 0, 16, .inl (va_cpy (aI (fun k => σ 1 (610 + k))) (aI (fun k => σ 0 (75 + k))) (iI 0).toNatClampNeg (iI 0).toNatClampNeg (iI 16).toNatClampNeg))), (a 7, .inl (cx 0, 16, .inl (va_cpy (aI (fun k => σ 1 (626 + k))) (aI (fun k => σ 0 (91 + k))) (iI 0).toNatClampNeg (iI 0).toNatClampNeg (iI 16).toNatClampNeg))), (a 8, .inr (0, [.ref (a 3), .int (iI (σ 21 0)), .int (iI (σ 21 1)), .ref (a 9), .ref (a 10), .ref (a 11), .ref (a 12), .ref (a 13)])), (a 9, .inl (cx 0, 33, .inl (aI (σ 14)))), (a 10, .inl (cx 0, 16, .inl (aI (σ 15)))), (a 11, .inl (cx 0, 16, .inl (aI (σ 16)))), (a 12, .inl (cx 0, 561, .inl (aI (σ 17)))), (a 13, .inl (cx 0, 17, .inl (aI (σ 18)))), (a 14, .inr (3, [.ref (a 3), .ref (a 8), .ref (a 15), .ref (a 16)])), (a 15, .inl (cx 0, 16, .inl (aI (σ 19)))), (a 16, .inl (cx 1, 16, .inr (.inl (aL (σ 20))))), (a 17, .inr (1, [.ref (a 18), .int (iI (σ 12 0)), .int (iI (σ 12 1))])), (a 18, .inl (cx 3, 8, .inr (.inr (.inr (.inr (fun k => some (a (19 + 5 * k)))))))), (a 19, .inr (2, [.int (iI (σ 1 0)), .int (iI (σ 1 74)), .ref (a 20), .ref (a 21), .ref (a 22), .ref (a 23)])), (a 20, .inl (cx 0, 64, .inl (aI (fun k => σ 1 (10 + k))))), (a 21, .inl (cx 0, 9, .inl (aI (fun k => σ 1 (1 + k))))), (a 22, .inl (cx 0, 16, .inl (aI (fun k => σ 1 (75 + k))))), (a 23, .inl (cx 0, 16, .inl (aI (fun k => σ 1 (91 + k))))), (a 24, .inr (2, [.int (iI (σ 1 107)), .int (iI (σ 1 181)), .ref (a 25), .ref (a 26), .ref (a 27), .ref (a 28)])), (a 25, .inl (cx 0, 64, .inl (aI (fun k => σ 1 (117 + k))))), (a 26, .inl (cx 0, 9, .inl (aI (fun k => σ 1 (108 + k))))), (a 27, .inl (cx 0, 16, .inl (aI (fun k => σ 1 (182 + k))))), (a 28, .inl (cx 0, 16, .inl (aI (fun k => σ 1 (198 + k))))), (a 29, .inr (2, [.int (iI (σ 1 214)), .int (iI (σ 1 288)), .ref (a 30), .ref (a 31), .ref (a 32), .ref (a 33)])), (a 30, .inl (cx 0, 64, .inl (aI (fun k => σ 1 (224 + k))))), (a 31, .inl (cx 0, 9, .inl (aI (fun k => σ 1 (215 + k))))), (a 32, .inl (cx 0, 16, .inl (aI (fun k => σ 1 (289 + k))))), (a 33, .inl (cx 0, 16, .inl (aI (fun k => σ 1 (305 + k))))), (a 34, .inr (2, [.int (iI (σ 1 321)), .int (iI (σ 1 395)), .ref (a 35), .ref (a 36), .ref (a 37), .ref (a 38)])), (a 35, .inl (cx 0, 64, .inl (aI (fun k => σ 1 (331 + k))))), (a 36, .inl (cx 0, 9, .inl (aI (fun k => σ 1 (322 + k))))), (a 37, .inl (cx 0, 16, .inl (aI (fun k => σ 1 (396 + k))))), (a 38, .inl (cx 0, 16, .inl (aI (fun k => σ 1 (412 + k))))), (a 39, .inr (2, [.int (iI (σ 1 428)), .int (iI (σ 1 502)), .ref (a 40), .ref (a 41), .ref (a 42), .ref (a 43)])), (a 40, .inl (cx 0, 64, .inl (aI (fun k => σ 1 (438 + k))))), (a 41, .inl (cx 0, 9, .inl (aI (fun k => σ 1 (429 + k))))), (a 42, .inl (cx 0, 16, .inl (aI (fun k => σ 1 (503 + k))))), (a 43, .inl (cx 0, 16, .inl (aI (fun k => σ 1 (519 + k))))), (a 44, .inr (2, [.int (iI (σ 1 535)), .int (iI (σ 1 609)), .ref (a 45), .ref (a 46), .ref (a 47), .ref (a 48)])), (a 45, .inl (cx 0, 64, .inl (aI (fun k => σ 1 (545 + k))))), (a 46, .inl (cx 0, 9, .inl (aI (fun k => σ 1 (536 + k))))), (a 47, .inl (cx 0, 16, .inl (aI (fun k => σ 1 (610 + k))))), (a 48, .inl (cx 0, 16, .inl (aI (fun k => σ 1 (626 + k))))), (a 49, .inr (2, [.int (iI (σ 1 642)), .int (iI (σ 1 716)), .ref (a 50), .ref (a 51), .ref (a 52), .ref (a 53)])), (a 50, .inl (cx 0, 64, .inl (aI (fun k => σ 1 (652 + k))))), (a 51, .inl (cx 0, 9, .inl (aI (fun k => σ 1 (643 + k))))), (a 52, .inl (cx 0, 16, .inl (aI (fun k => σ 1 (717 + k))))), (a 53, .inl (cx 0, 16, .inl (aI (fun k => σ 1 (733 + k))))), (a 54, .inr (2, [.int (iI (σ 1 749)), .int (iI (σ 1 823)), .ref (a 55), .ref (a 56), .ref (a 57), .ref (a 58)])), (a 55, .inl (cx 0, 64, .inl (aI (fun k => σ 1 (759 + k))))), (a 56, .inl (cx 0, 9, .inl (aI (fun k => σ 1 (750 + k))))), (a 57, .inl (cx 0, 16, .inl (aI (fun k => σ 1 (824 + k))))), (a 58, .inl (cx 0, 16, .inl (aI (fun k => σ 1 (840 + k))))), (a 59, .inl (cx 3, 2, .inr (.inr (.inr (.inr (fun k => some (a (60 + 5 * k)))))))), (a 60, .inr (2, [.int (iI (σ 9 0)), .int (iI (σ 9 74)), .ref (a 61), .ref (a 62), .ref (a 63), .ref (a 64)])), (a 61, .inl (cx 0, 64, .inl (aI (fun k => σ 9 (10 + k))))), (a 62, .inl (cx 0, 9, .inl (aI (fun k => σ 9 (1 + k))))), (a 63, .inl (cx 0, 16, .inl (aI (fun k => σ 9 (75 + k))))), (a 64, .inl (cx 0, 16, .inl (aI (fun k => σ 9 (91 + k))))), (a 65, .inr (2, [.int (iI (σ 9 107)), .int (iI (σ 9 181)), .ref (a 66), .ref (a 67), .ref (a 68), .ref (a 69)])), (a 66, .inl (cx 0, 64, .inl (aI (fun k => σ 9 (117 + k))))), (a 67, .inl (cx 0, 9, .inl (aI (fun k => σ 9 (108 + k))))), (a 68, .inl (cx 0, 16, .inl (aI (fun k => σ 9 (182 + k))))), (a 69, .inl (cx 0, 16, .inl (aI (fun k => σ 9 (198 + k)))))] (wx cx a (sc σ 0 (cpo (σ 0) (σ 1) 535))) := by
  refine leW_k ?_
  refine leW_k ?_
  refine leW_k ?_
  refine leW_o ?_ ?_
  rotate_left
  · rw [show σ 1 535 = sc σ 0 (cpo (σ 0) (σ 1) 535) 0 0 from (cpo_in (w := σ 0) (f := σ 1) (o := 535) (k := 0) (by omega)).symm, show σ 1 609 = sc σ 0 (cpo (σ 0) (σ 1) 535) 0 74 from (cpo_in (w := σ 0) (f := σ 1) (o := 535) (k := 74) (by omega)).symm]
  refine leW_c ?_ (fun k h1 h2 => ?_)
  rotate_left
  · show σ 1 (545 + k) = (cpo (σ 0) (σ 1) 535) (10 + k)
    first | unfold cpi | unfold cpo
    rw [if_pos (by omega)]
    first | rfl | exact congrArg _ (by omega)
  refine leW_c ?_ (fun k h1 h2 => ?_)
  rotate_left
  · show σ 1 (536 + k) = (cpo (σ 0) (σ 1) 535) (1 + k)
    first | unfold cpi | unfold cpo
    rw [if_pos (by omega)]
    first | rfl | exact congrArg _ (by omega)
  refine leW_c ?_ (fun k h1 h2 => ?_)
  rotate_left
  · show σ 1 (610 + k) = (cpo (σ 0) (σ 1) 535) (75 + k)
    first | unfold cpi | unfold cpo
    rw [if_pos (by omega)]
    first | rfl | exact congrArg _ (by omega)
  refine leW_c ?_ (fun k h1 h2 => ?_)
  rotate_left
  · show σ 1 (626 + k) = (cpo (σ 0) (σ 1) 535) (91 + k)
    first | unfold cpi | unfold cpo
    rw [if_pos (by omega)]
    first | rfl | exact congrArg _ (by omega)
  refine leW_k ?_
  refine leW_k ?_
  refine leW_k ?_
  refine leW_k ?_
  refine leW_k ?_
  refine leW_k ?_
  refine leW_k ?_
  refine leW_k ?_
  refine leW_k ?_
  refine leW_k ?_
  refine leW_k ?_
  refine leW_k ?_
  refine leW_k ?_
  refine leW_k ?_
  refine leW_k ?_
  refine leW_k ?_
  refine leW_k ?_
  refine leW_k ?_
  refine leW_k ?_
  refine leW_k ?_
  refine leW_k ?_
  refine leW_k ?_
  refine leW_k ?_
  refine leW_k ?_
  refine leW_k ?_
  refine leW_k ?_
  refine leW_k ?_
  refine leW_k ?_
  refine leW_k ?_
  refine leW_k ?_
  refine leW_k ?_
  refine leW_k ?_
  refine leW_k ?_
  refine leW_k ?_
  refine leW_k ?_
  refine leW_k ?_
  refine leW_k ?_
  refine leW_k ?_
  refine leW_k ?_
  refine leW_k ?_
  refine leW_k ?_
  refine leW_k ?_
  refine leW_k ?_
  refine leW_k ?_
  refine leW_k ?_
  refine leW_k ?_
  refine leW_k ?_
  refine leW_k ?_
  refine leW_k ?_
  refine leW_k ?_
  refine leW_k ?_
  refine leW_k ?_
  refine leW_k ?_
  refine leW_k ?_
  refine leW_k ?_
  refine leW_k ?_
  refine leW_k ?_
  refine leW_k ?_
  refine leW_k ?_
  refine leW_k ?_
  refine leW_k ?_
  refine leW_k ?_
  exact leW_0
theorem wx_cp_q6 {G : va_G} {cx a : Nat → Nat} {σ : Nat → Int → Int} : leW G vwCl [(a 0, .inr (4, [.ref (a 3), .ref (a 8), .ref (a 14), .ref (a 17), .ref (a 59), .ref (a 1), .ref (a 2)])), (a 1, .inl (cx 2, 2, .inl (aI (σ 11)))), (a 2, .inl (cx 0, 16, .inl (aI (σ 13)))), (a 3, .inr (2, [.int (iI (σ 1 642)), .int (iI (σ 1 716)), .ref (a 4), .ref (a 5), .ref (a 6), .ref (a 7)])), (a 4, .inl (cx 0, 64, .inl (va_cpy (aI (fun k => σ 1 (652 + k))) (aI (fun k => σ 0 (10 + k))) (iI 0).toNatClampNeg (iI 0).toNatClampNeg (iI 64).toNatClampNeg))), (a 5, .inl (cx 0, 9, .inl (va_cpy (aI (fun k => σ 1 (643 + k))) (aI (fun k => σ 0 (1 + k))) (iI 0).toNatClampNeg (iI 0).toNatClampNeg (iI 9).toNatClampNeg))), (a 6, .inl (cx 0, 16, .inl (va_cpy (aI (fun k => σ 1 (717 + k))) (aI (fun k => σ 0 (75 + k))) (iI 0).toNatClampNeg (iI 0).toNatClampNeg (iI 16).toNatClampNeg))), (a 7, .inl (cx 0, 16, .inl (va_cpy (aI (fun k => σ 1 (733 + k))) (aI (fun k => σ 0 (91 + k))) (iI 0).toNatClampNeg (iI 0).toNatClampNeg (iI 16).toNatClampNeg))), (a 8, .inr (0, [.ref (a 3), .int (iI (σ 21 0)), .int (iI (σ 21 1)), .ref (a 9), .ref (a 10), .ref (a 11), .ref (a 12), .ref (a 13)])), (a 9, .inl (cx 0, 33, .inl (aI (σ 14)))), (a 10, .inl (cx 0, 16, .inl (aI (σ 15)))), (a 11, .inl (cx 0, 16, .inl (aI (σ 16)))), (a 12, .inl (cx 0, 561, .inl (aI (σ 17)))), (a 13, .inl (cx 0, 17, .inl (aI (σ 18)))), (a 14, .inr (3, [.ref (a 3), .ref (a 8), .ref (a 15), .ref (a 16)])), (a 15, .inl (cx 0, 16, .inl (aI (σ 19)))), (a 16, .inl (cx 1, 16, .inr (.inl (aL (σ 20))))), (a 17, .inr (1, [.ref (a 18), .int (iI (σ 12 0)), .int (iI (σ 12 1))])), (a 18, .inl (cx 3, 8, .inr (.inr (.inr (.inr (fun k => some (a (19 + 5 * k)))))))), (a 19, .inr (2, [.int (iI (σ 1 0)), .int (iI (σ 1 74)), .ref (a 20), .ref (a 21), .ref (a 22), .ref (a 23)])), (a 20, .inl (cx 0, 64, .inl (aI (fun k => σ 1 (10 + k))))), (a 21, .inl (cx 0, 9, .inl (aI (fun k => σ 1 (1 + k))))), (a 22, .inl (cx 0, 16, .inl (aI (fun k => σ 1 (75 + k))))), (a 23, .inl (cx 0, 16, .inl (aI (fun k => σ 1 (91 + k))))), (a 24, .inr (2, [.int (iI (σ 1 107)), .int (iI (σ 1 181)), .ref (a 25), .ref (a 26), .ref (a 27), .ref (a 28)])), (a 25, .inl (cx 0, 64, .inl (aI (fun k => σ 1 (117 + k))))), (a 26, .inl (cx 0, 9, .inl (aI (fun k => σ 1 (108 + k))))), (a 27, .inl (cx 0, 16, .inl (aI (fun k => σ 1 (182 + k))))), (a 28, .inl (cx 0, 16, .inl (aI (fun k => σ 1 (198 + k))))), (a 29, .inr (2, [.int (iI (σ 1 214)), .int (iI (σ 1 288)), .ref (a 30), .ref (a 31), .ref (a 32), .ref (a 33)])), (a 30, .inl (cx 0, 64, .inl (aI (fun k => σ 1 (224 + k))))), (a 31, .inl (cx 0, 9, .inl (aI (fun k => σ 1 (215 + k))))), (a 32, .inl (cx 0, 16, .inl (aI (fun k => σ 1 (289 + k))))), (a 33, .inl (cx 0, 16, .inl (aI (fun k => σ 1 (305 + k))))), (a 34, .inr (2, [.int (iI (σ 1 321)), .int (iI (σ 1 395)), .ref (a 35), .ref (a 36), .ref (a 37), .ref (a 38)])), (a 35, .inl (cx 0, 64, .inl (aI (fun k => σ 1 (331 + k))))), (a 36, .inl (cx 0, 9, .inl (aI (fun k => σ 1 (322 + k))))), (a 37, .inl (cx 0, 16, .inl (aI (fun k => σ 1 (396 + k))))), (a 38, .inl (cx 0, 16, .inl (aI (fun k => σ 1 (412 + k))))), (a 39, .inr (2, [.int (iI (σ 1 428)), .int (iI (σ 1 502)), .ref (a 40), .ref (a 41), .ref (a 42), .ref (a 43)])), (a 40, .inl (cx 0, 64, .inl (aI (fun k => σ 1 (438 + k))))), (a 41, .inl (cx 0, 9, .inl (aI (fun k => σ 1 (429 + k))))), (a 42, .inl (cx 0, 16, .inl (aI (fun k => σ 1 (503 + k))))), (a 43, .inl (cx 0, 16, .inl (aI (fun k => σ 1 (519 + k))))), (a 44, .inr (2, [.int (iI (σ 1 535)), .int (iI (σ 1 609)), .ref (a 45), .ref (a 46), .ref (a 47), .ref (a 48)])), (a 45, .inl (cx 0, 64, .inl (aI (fun k => σ 1 (545 + k))))), (a 46, .inl (cx 0, 9, .inl (aI (fun k => σ 1 (536 + k))))), (a 47, .inl (cx 0, 16, .inl (aI (fun k => σ 1 (610 + k))))), (a 48, .inl (cx 0, 16, .inl (aI (fun k => σ 1 (626 + k))))), (a 49, .inr (2, [.int (iI (σ 1 642)), .int (iI (σ 1 716)), .ref (a 50), .ref (a 51), .ref (a 52), .ref (a 53)])), (a 50, .inl (cx 0, 64, .inl (aI (fun k => σ 1 (652 + k))))), (a 51, .inl (cx 0, 9, .inl (aI (fun k => σ 1 (643 + k))))), (a 52, .inl (cx 0, 16, .inl (aI (fun k => σ 1 (717 + k))))), (a 53, .inl (cx 0, 16, .inl (aI (fun k => σ 1 (733 + k))))), (a 54, .inr (2, [.int (iI (σ 1 749)), .int (iI (σ 1 823)), .ref (a 55), .ref (a 56), .ref (a 57), .ref (a 58)])), (a 55, .inl (cx 0, 64, .inl (aI (fun k => σ 1 (759 + k))))), (a 56, .inl (cx 0, 9, .inl (aI (fun k => σ 1 (750 + k))))), (a 57, .inl (cx 0, 16, .inl (aI (fun k => σ 1 (824 + k))))), (a 58, .inl (cx 0, 16, .inl (aI (fun k => σ 1 (840 + k))))), (a 59, .inl (cx 3, 2, .inr (.inr (.inr (.inr (fun k => some (a (60 + 5 * k)))))))), (a 60, .inr (2, [.int (iI (σ 9 0)), .int (iI (σ 9 74)), .ref (a 61), .ref (a 62), .ref (a 63), .ref (a 64)])), (a 61, .inl (cx 0, 64, .inl (aI (fun k => σ 9 (10 + k))))), (a 62, .inl (cx 0, 9, .inl (aI (fun k => σ 9 (1 + k))))), (a 63, .inl (cx 0, 16, .inl (aI (fun k => σ 9 (75 + k))))), (a 64, .inl (cx 0, 16, .inl (aI (fun k => σ 9 (91 + k))))), (a 65, .inr (2, [.int (iI (σ 9 107)), .int (iI (σ 9 181)), .ref (a 66), .ref (a 67), .ref (a 68), .ref (a 69)])), (a 66, .inl (cx 0, 64, .inl (aI (fun k => σ 9 (117 + k))))), (a 67, .inl (cx 0, 9, .inl (aI (fun k => σ 9 (108 + k))))), (a 68, .inl (cx 0, 16, .inl (aI (fun k => σ 9 (182 + k))))), (a 69, .inl (cx 0, 16, .inl (aI (fun k => σ 9 (198 + k)))))] (wx cx a (sc σ 0 (cpo (σ 0) (σ 1) 642))) := by
  refine leW_k ?_
  refine leW_k ?_
  refine leW_k ?_
  refine leW_o ?_ ?_
  rotate_left
  · rw [show σ 1 642 = sc σ 0 (cpo (σ 0) (σ 1) 642) 0 0 from (cpo_in (w := σ 0) (f := σ 1) (o := 642) (k := 0) (by omega)).symm, show σ 1 716 = sc σ 0 (cpo (σ 0) (σ 1) 642) 0 74 from (cpo_in (w := σ 0) (f := σ 1) (o := 642) (k := 74) (by omega)).symm]
  refine leW_c ?_ (fun k h1 h2 => ?_)
  rotate_left
  · show σ 1 (652 + k) = (cpo (σ 0) (σ 1) 642) (10 + k)
    first | unfold cpi | unfold cpo
    rw [if_pos (by omega)]
    first | rfl | exact congrArg _ (by omega)
  refine leW_c ?_ (fun k h1 h2 => ?_)
  rotate_left
  · show σ 1 (643 + k) = (cpo (σ 0) (σ 1) 642) (1 + k)
    first | unfold cpi | unfold cpo
    rw [if_pos (by omega)]
    first | rfl | exact congrArg _ (by omega)
  refine leW_c ?_ (fun k h1 h2 => ?_)
  rotate_left
  · show σ 1 (717 + k) = (cpo (σ 0) (σ 1) 642) (75 + k)
    first | unfold cpi | unfold cpo
    rw [if_pos (by omega)]
    first | rfl | exact congrArg _ (by omega)
  refine leW_c ?_ (fun k h1 h2 => ?_)
  rotate_left
  · show σ 1 (733 + k) = (cpo (σ 0) (σ 1) 642) (91 + k)
    first | unfold cpi | unfold cpo
    rw [if_pos (by omega)]
    first | rfl | exact congrArg _ (by omega)
  refine leW_k ?_
  refine leW_k ?_
  refine leW_k ?_
  refine leW_k ?_
  refine leW_k ?_
  refine leW_k ?_
  refine leW_k ?_
  refine leW_k ?_
  refine leW_k ?_
  refine leW_k ?_
  refine leW_k ?_
  refine leW_k ?_
  refine leW_k ?_
  refine leW_k ?_
  refine leW_k ?_
  refine leW_k ?_
  refine leW_k ?_
  refine leW_k ?_
  refine leW_k ?_
  refine leW_k ?_
  refine leW_k ?_
  refine leW_k ?_
  refine leW_k ?_
  refine leW_k ?_
  refine leW_k ?_
  refine leW_k ?_
  refine leW_k ?_
  refine leW_k ?_
  refine leW_k ?_
  refine leW_k ?_
  refine leW_k ?_
  refine leW_k ?_
  refine leW_k ?_
  refine leW_k ?_
  refine leW_k ?_
  refine leW_k ?_
  refine leW_k ?_
  refine leW_k ?_
  refine leW_k ?_
  refine leW_k ?_
  refine leW_k ?_
  refine leW_k ?_
  refine leW_k ?_
  refine leW_k ?_
  refine leW_k ?_
  refine leW_k ?_
  refine leW_k ?_
  refine leW_k ?_
  refine leW_k ?_
  refine leW_k ?_
  refine leW_k ?_
  refine leW_k ?_
  refine leW_k ?_
  refine leW_k ?_
  refine leW_k ?_
  refine leW_k ?_
  refine leW_k ?_
  refine leW_k ?_
  refine leW_k ?_
  refine leW_k ?_
  refine leW_k ?_
  refine leW_k ?_
  exact leW_0
theorem wx_cp_q7 {G : va_G} {cx a : Nat → Nat} {σ : Nat → Int → Int} : leW G vwCl [(a 0, .inr (4, [.ref (a 3), .ref (a 8), .ref (a 14), .ref (a 17), .ref (a 59), .ref (a 1), .ref (a 2)])), (a 1, .inl (cx 2, 2, .inl (aI (σ 11)))), (a 2, .inl (cx 0, 16, .inl (aI (σ 13)))), (a 3, .inr (2, [.int (iI (σ 1 749)), .int (iI (σ 1 823)), .ref (a 4), .ref (a 5), .ref (a 6), .ref (a 7)])), (a 4, .inl (cx 0, 64, .inl (va_cpy (aI (fun k => σ 1 (759 + k))) (aI (fun k => σ 0 (10 + k))) (iI 0).toNatClampNeg (iI 0).toNatClampNeg (iI 64).toNatClampNeg))), (a 5, .inl (cx 0, 9, .inl (va_cpy (aI (fun k => σ 1 (750 + k))) (aI (fun k => σ 0 (1 + k))) (iI 0).toNatClampNeg (iI 0).toNatClampNeg (iI 9).toNatClampNeg))), (a 6, .inl (cx 0, 16, .inl (va_cpy (aI (fun k => σ 1 (824 + k))) (aI (fun k => σ 0 (75 + k))) (iI 0).toNatClampNeg (iI 0).toNatClampNeg (iI 16).toNatClampNeg))), (a 7, .inl (cx 0, 16, .inl (va_cpy (aI (fun k => σ 1 (840 + k))) (aI (fun k => σ 0 (91 + k))) (iI 0).toNatClampNeg (iI 0).toNatClampNeg (iI 16).toNatClampNeg))), (a 8, .inr (0, [.ref (a 3), .int (iI (σ 21 0)), .int (iI (σ 21 1)), .ref (a 9), .ref (a 10), .ref (a 11), .ref (a 12), .ref (a 13)])), (a 9, .inl (cx 0, 33, .inl (aI (σ 14)))), (a 10, .inl (cx 0, 16, .inl (aI (σ 15)))), (a 11, .inl (cx 0, 16, .inl (aI (σ 16)))), (a 12, .inl (cx 0, 561, .inl (aI (σ 17)))), (a 13, .inl (cx 0, 17, .inl (aI (σ 18)))), (a 14, .inr (3, [.ref (a 3), .ref (a 8), .ref (a 15), .ref (a 16)])), (a 15, .inl (cx 0, 16, .inl (aI (σ 19)))), (a 16, .inl (cx 1, 16, .inr (.inl (aL (σ 20))))), (a 17, .inr (1, [.ref (a 18), .int (iI (σ 12 0)), .int (iI (σ 12 1))])), (a 18, .inl (cx 3, 8, .inr (.inr (.inr (.inr (fun k => some (a (19 + 5 * k)))))))), (a 19, .inr (2, [.int (iI (σ 1 0)), .int (iI (σ 1 74)), .ref (a 20), .ref (a 21), .ref (a 22), .ref (a 23)])), (a 20, .inl (cx 0, 64, .inl (aI (fun k => σ 1 (10 + k))))), (a 21, .inl (cx 0, 9, .inl (aI (fun k => σ 1 (1 + k))))), (a 22, .inl (cx 0, 16, .inl (aI (fun k => σ 1 (75 + k))))), (a 23, .inl (cx 0, 16, .inl (aI (fun k => σ 1 (91 + k))))), (a 24, .inr (2, [.int (iI (σ 1 107)), .int (iI (σ 1 181)), .ref (a 25), .ref (a 26), .ref (a 27), .ref (a 28)])), (a 25, .inl (cx 0, 64, .inl (aI (fun k => σ 1 (117 + k))))), (a 26, .inl (cx 0, 9, .inl (aI (fun k => σ 1 (108 + k))))), (a 27, .inl (cx 0, 16, .inl (aI (fun k => σ 1 (182 + k))))), (a 28, .inl (cx 0, 16, .inl (aI (fun k => σ 1 (198 + k))))), (a 29, .inr (2, [.int (iI (σ 1 214)), .int (iI (σ 1 288)), .ref (a 30), .ref (a 31), .ref (a 32), .ref (a 33)])), (a 30, .inl (cx 0, 64, .inl (aI (fun k => σ 1 (224 + k))))), (a 31, .inl (cx 0, 9, .inl (aI (fun k => σ 1 (215 + k))))), (a 32, .inl (cx 0, 16, .inl (aI (fun k => σ 1 (289 + k))))), (a 33, .inl (cx 0, 16, .inl (aI (fun k => σ 1 (305 + k))))), (a 34, .inr (2, [.int (iI (σ 1 321)), .int (iI (σ 1 395)), .ref (a 35), .ref (a 36), .ref (a 37), .ref (a 38)])), (a 35, .inl (cx 0, 64, .inl (aI (fun k => σ 1 (331 + k))))), (a 36, .inl (cx 0, 9, .inl (aI (fun k => σ 1 (322 + k))))), (a 37, .inl (cx 0, 16, .inl (aI (fun k => σ 1 (396 + k))))), (a 38, .inl (cx 0, 16, .inl (aI (fun k => σ 1 (412 + k))))), (a 39, .inr (2, [.int (iI (σ 1 428)), .int (iI (σ 1 502)), .ref (a 40), .ref (a 41), .ref (a 42), .ref (a 43)])), (a 40, .inl (cx 0, 64, .inl (aI (fun k => σ 1 (438 + k))))), (a 41, .inl (cx 0, 9, .inl (aI (fun k => σ 1 (429 + k))))), (a 42, .inl (cx 0, 16, .inl (aI (fun k => σ 1 (503 + k))))), (a 43, .inl (cx 0, 16, .inl (aI (fun k => σ 1 (519 + k))))), (a 44, .inr (2, [.int (iI (σ 1 535)), .int (iI (σ 1 609)), .ref (a 45), .ref (a 46), .ref (a 47), .ref (a 48)])), (a 45, .inl (cx 0, 64, .inl (aI (fun k => σ 1 (545 + k))))), (a 46, .inl (cx 0, 9, .inl (aI (fun k => σ 1 (536 + k))))), (a 47, .inl (cx 0, 16, .inl (aI (fun k => σ 1 (610 + k))))), (a 48, .inl (cx 0, 16, .inl (aI (fun k => σ 1 (626 + k))))), (a 49, .inr (2, [.int (iI (σ 1 642)), .int (iI (σ 1 716)), .ref (a 50), .ref (a 51), .ref (a 52), .ref (a 53)])), (a 50, .inl (cx 0, 64, .inl (aI (fun k => σ 1 (652 + k))))), (a 51, .inl (cx 0, 9, .inl (aI (fun k => σ 1 (643 + k))))), (a 52, .inl (cx 0, 16, .inl (aI (fun k => σ 1 (717 + k))))), (a 53, .inl (cx 0, 16, .inl (aI (fun k => σ 1 (733 + k))))), (a 54, .inr (2, [.int (iI (σ 1 749)), .int (iI (σ 1 823)), .ref (a 55), .ref (a 56), .ref (a 57), .ref (a 58)])), (a 55, .inl (cx 0, 64, .inl (aI (fun k => σ 1 (759 + k))))), (a 56, .inl (cx 0, 9, .inl (aI (fun k => σ 1 (750 + k))))), (a 57, .inl (cx 0, 16, .inl (aI (fun k => σ 1 (824 + k))))), (a 58, .inl (cx 0, 16, .inl (aI (fun k => σ 1 (840 + k))))), (a 59, .inl (cx 3, 2, .inr (.inr (.inr (.inr (fun k => some (a (60 + 5 * k)))))))), (a 60, .inr (2, [.int (iI (σ 9 0)), .int (iI (σ 9 74)), .ref (a 61), .ref (a 62), .ref (a 63), .ref (a 64)])), (a 61, .inl (cx 0, 64, .inl (aI (fun k => σ 9 (10 + k))))), (a 62, .inl (cx 0, 9, .inl (aI (fun k => σ 9 (1 + k))))), (a 63, .inl (cx 0, 16, .inl (aI (fun k => σ 9 (75 + k))))), (a 64, .inl (cx 0, 16, .inl (aI (fun k => σ 9 (91 + k))))), (a 65, .inr (2, [.int (iI (σ 9 107)), .int (iI (σ 9 181)), .ref (a 66), .ref (a 67), .ref (a 68), .ref (a 69)])), (a 66, .inl (cx 0, 64, .inl (aI (fun k => σ 9 (117 + k))))), (a 67, .inl (cx 0, 9, .inl (aI (fun k => σ 9 (108 + k))))), (a 68, .inl (cx 0, 16, .inl (aI (fun k => σ 9 (182 + k))))), (a 69, .inl (cx 0, 16, .inl (aI (fun k => σ 9 (198 + k)))))] (wx cx a (sc σ 0 (cpo (σ 0) (σ 1) 749))) := by
  refine leW_k ?_
  refine leW_k ?_
  refine leW_k ?_
  refine leW_o ?_ ?_
  rotate_left
  · rw [show σ 1 749 = sc σ 0 (cpo (σ 0) (σ 1) 749) 0 0 from (cpo_in (w := σ 0) (f := σ 1) (o := 749) (k := 0) (by omega)).symm, show σ 1 823 = sc σ 0 (cpo (σ 0) (σ 1) 749) 0 74 from (cpo_in (w := σ 0) (f := σ 1) (o := 749) (k := 74) (by omega)).symm]
  refine leW_c ?_ (fun k h1 h2 => ?_)
  rotate_left
  · show σ 1 (759 + k) = (cpo (σ 0) (σ 1) 749) (10 + k)
    first | unfold cpi | unfold cpo
    rw [if_pos (by omega)]
    first | rfl | exact congrArg _ (by omega)
  refine leW_c ?_ (fun k h1 h2 => ?_)
  rotate_left
  · show σ 1 (750 + k) = (cpo (σ 0) (σ 1) 749) (1 + k)
    first | unfold cpi | unfold cpo
    rw [if_pos (by omega)]
    first | rfl | exact congrArg _ (by omega)
  refine leW_c ?_ (fun k h1 h2 => ?_)
  rotate_left
  · show σ 1 (824 + k) = (cpo (σ 0) (σ 1) 749) (75 + k)
    first | unfold cpi | unfold cpo
    rw [if_pos (by omega)]
    first | rfl | exact congrArg _ (by omega)
  refine leW_c ?_ (fun k h1 h2 => ?_)
  rotate_left
  · show σ 1 (840 + k) = (cpo (σ 0) (σ 1) 749) (91 + k)
    first | unfold cpi | unfold cpo
    rw [if_pos (by omega)]
    first | rfl | exact congrArg _ (by omega)
  refine leW_k ?_
  refine leW_k ?_
  refine leW_k ?_
  refine leW_k ?_
  refine leW_k ?_
  refine leW_k ?_
  refine leW_k ?_
  refine leW_k ?_
  refine leW_k ?_
  refine leW_k ?_
  refine leW_k ?_
  refine leW_k ?_
  refine leW_k ?_
  refine leW_k ?_
  refine leW_k ?_
  refine leW_k ?_
  refine leW_k ?_
  refine leW_k ?_
  refine leW_k ?_
  refine leW_k ?_
  refine leW_k ?_
  refine leW_k ?_
  refine leW_k ?_
  refine leW_k ?_
  refine leW_k ?_
  refine leW_k ?_
  refine leW_k ?_
  refine leW_k ?_
  refine leW_k ?_
  refine leW_k ?_
  refine leW_k ?_
  refine leW_k ?_
  refine leW_k ?_
  refine leW_k ?_
  refine leW_k ?_
  refine leW_k ?_
  refine leW_k ?_
  refine leW_k ?_
  refine leW_k ?_
  refine leW_k ?_
  refine leW_k ?_
  refine leW_k ?_
  refine leW_k ?_
  refine leW_k ?_
  refine leW_k ?_
  refine leW_k ?_
  refine leW_k ?_
  refine leW_k ?_
  refine leW_k ?_
  refine leW_k ?_
  refine leW_k ?_
  refine leW_k ?_
  refine leW_k ?_
  refine leW_k ?_
  refine leW_k ?_
  refine leW_k ?_
  refine leW_k ?_
  refine leW_k ?_
  refine leW_k ?_
  refine leW_k ?_
  refine leW_k ?_
  refine leW_k ?_
  exact leW_0
theorem wx_cp_k0 {G : va_G} {cx a : Nat → Nat} {σ : Nat → Int → Int} : leW G vwCl [(a 0, .inr (4, [.ref (a 3), .ref (a 8), .ref (a 14), .ref (a 17), .ref (a 59), .ref (a 1), .ref (a 2)])), (a 1, .inl (cx 2, 2, .inl (aI (σ 11)))), (a 2, .inl (cx 0, 16, .inl (aI (σ 13)))), (a 3, .inr (2, [.int (iI (σ 0 0)), .int (iI (σ 0 74)), .ref (a 4), .ref (a 5), .ref (a 6), .ref (a 7)])), (a 4, .inl (cx 0, 64, .inl (aI (fun k => σ 0 (10 + k))))), (a 5, .inl (cx 0, 9, .inl (aI (fun k => σ 0 (1 + k))))), (a 6, .inl (cx 0, 16, .inl (aI (fun k => σ 0 (75 + k))))), (a 7, .inl (cx 0, 16, .inl (aI (fun k => σ 0 (91 + k))))), (a 8, .inr (0, [.ref (a 3), .int (iI (σ 21 0)), .int (iI (σ 21 1)), .ref (a 9), .ref (a 10), .ref (a 11), .ref (a 12), .ref (a 13)])), (a 9, .inl (cx 0, 33, .inl (aI (σ 14)))), (a 10, .inl (cx 0, 16, .inl (aI (σ 15)))), (a 11, .inl (cx 0, 16, .inl (aI (σ 16)))), (a 12, .inl (cx 0, 561, .inl (aI (σ 17)))), (a 13, .inl (cx 0, 17, .inl (aI (σ 18)))), (a 14, .inr (3, [.ref (a 3), .ref (a 8), .ref (a 15), .ref (a 16)])), (a 15, .inl (cx 0, 16, .inl (aI (σ 19)))), (a 16, .inl (cx 1, 16, .inr (.inl (aL (σ 20))))), (a 17, .inr (1, [.ref (a 18), .int (iI (σ 12 0)), .int (iI (σ 12 1))])), (a 18, .inl (cx 3, 8, .inr (.inr (.inr (.inr (fun k => some (a (19 + 5 * k)))))))), (a 19, .inr (2, [.int (iI (σ 1 0)), .int (iI (σ 1 74)), .ref (a 20), .ref (a 21), .ref (a 22), .ref (a 23)])), (a 20, .inl (cx 0, 64, .inl (aI (fun k => σ 1 (10 + k))))), (a 21, .inl (cx 0, 9, .inl (aI (fun k => σ 1 (1 + k))))), (a 22, .inl (cx 0, 16, .inl (aI (fun k => σ 1 (75 + k))))), (a 23, .inl (cx 0, 16, .inl (aI (fun k => σ 1 (91 + k))))), (a 24, .inr (2, [.int (iI (σ 1 107)), .int (iI (σ 1 181)), .ref (a 25), .ref (a 26), .ref (a 27), .ref (a 28)])), (a 25, .inl (cx 0, 64, .inl (aI (fun k => σ 1 (117 + k))))), (a 26, .inl (cx 0, 9, .inl (aI (fun k => σ 1 (108 + k))))), (a 27, .inl (cx 0, 16, .inl (aI (fun k => σ 1 (182 + k))))), (a 28, .inl (cx 0, 16, .inl (aI (fun k => σ 1 (198 + k))))), (a 29, .inr (2, [.int (iI (σ 1 214)), .int (iI (σ 1 288)), .ref (a 30), .ref (a 31), .ref (a 32), .ref (a 33)])), (a 30, .inl (cx 0, 64, .inl (aI (fun k => σ 1 (224 + k))))), (a 31, .inl (cx 0, 9, .inl (aI (fun k => σ 1 (215 + k))))), (a 32, .inl (cx 0, 16, .inl (aI (fun k => σ 1 (289 + k))))), (a 33, .inl (cx 0, 16, .inl (aI (fun k => σ 1 (305 + k))))), (a 34, .inr (2, [.int (iI (σ 1 321)), .int (iI (σ 1 395)), .ref (a 35), .ref (a 36), .ref (a 37), .ref (a 38)])), (a 35, .inl (cx 0, 64, .inl (aI (fun k => σ 1 (331 + k))))), (a 36, .inl (cx 0, 9, .inl (aI (fun k => σ 1 (322 + k))))), (a 37, .inl (cx 0, 16, .inl (aI (fun k => σ 1 (396 + k))))), (a 38, .inl (cx 0, 16, .inl (aI (fun k => σ 1 (412 + k))))), (a 39, .inr (2, [.int (iI (σ 1 428)), .int (iI (σ 1 502)), .ref (a 40), .ref (a 41), .ref (a 42), .ref (a 43)])), (a 40, .inl (cx 0, 64, .inl (aI (fun k => σ 1 (438 + k))))), (a 41, .inl (cx 0, 9, .inl (aI (fun k => σ 1 (429 + k))))), (a 42, .inl (cx 0, 16, .inl (aI (fun k => σ 1 (503 + k))))), (a 43, .inl (cx 0, 16, .inl (aI (fun k => σ 1 (519 + k))))), (a 44, .inr (2, [.int (iI (σ 1 535)), .int (iI (σ 1 609)), .ref (a 45), .ref (a 46), .ref (a 47), .ref (a 48)])), (a 45, .inl (cx 0, 64, .inl (aI (fun k => σ 1 (545 + k))))), (a 46, .inl (cx 0, 9, .inl (aI (fun k => σ 1 (536 + k))))), (a 47, .inl (cx 0, 16, .inl (aI (fun k => σ 1 (610 + k))))), (a 48, .inl (cx 0, 16, .inl (aI (fun k => σ 1 (626 + k))))), (a 49, .inr (2, [.int (iI (σ 1 642)), .int (iI (σ 1 716)), .ref (a 50), .ref (a 51), .ref (a 52), .ref (a 53)])), (a 50, .inl (cx 0, 64, .inl (aI (fun k => σ 1 (652 + k))))), (a 51, .inl (cx 0, 9, .inl (aI (fun k => σ 1 (643 + k))))), (a 52, .inl (cx 0, 16, .inl (aI (fun k => σ 1 (717 + k))))), (a 53, .inl (cx 0, 16, .inl (aI (fun k => σ 1 (733 + k))))), (a 54, .inr (2, [.int (iI (σ 1 749)), .int (iI (σ 1 823)), .ref (a 55), .ref (a 56), .ref (a 57), .ref (a 58)])), (a 55, .inl (cx 0, 64, .inl (aI (fun k => σ 1 (759 + k))))), (a 56, .inl (cx 0, 9, .inl (aI (fun k => σ 1 (750 + k))))), (a 57, .inl (cx 0, 16, .inl (aI (fun k => σ 1 (824 + k))))), (a 58, .inl (cx 0, 16, .inl (aI (fun k => σ 1 (840 + k))))), (a 59, .inl (cx 3, 2, .inr (.inr (.inr (.inr (fun k => some (a (60 + 5 * k)))))))), (a 60, .inr (2, [.int (iI (σ 0 0)), .int (iI (σ 0 74)), .ref (a 61), .ref (a 62), .ref (a 63), .ref (a 64)])), (a 61, .inl (cx 0, 64, .inl (va_cpy (aI (fun k => σ 0 (10 + k))) (aI (fun k => σ 9 (10 + k))) (iI 0).toNatClampNeg (iI 0).toNatClampNeg (iI 64).toNatClampNeg))), (a 62, .inl (cx 0, 9, .inl (va_cpy (aI (fun k => σ 0 (1 + k))) (aI (fun k => σ 9 (1 + k))) (iI 0).toNatClampNeg (iI 0).toNatClampNeg (iI 9).toNatClampNeg))), (a 63, .inl (cx 0, 16, .inl (va_cpy (aI (fun k => σ 0 (75 + k))) (aI (fun k => σ 9 (75 + k))) (iI 0).toNatClampNeg (iI 0).toNatClampNeg (iI 16).toNatClampNeg))), (a 64, .inl (cx 0, 16, .inl (va_cpy (aI (fun k => σ 0 (91 + k))) (aI (fun k => σ 9 (91 + k))) (iI 0).toNatClampNeg (iI 0).toNatClampNeg (iI 16).toNatClampNeg))), (a 65, .inr (2, [.int (iI (σ 9 107)), .int (iI (σ 9 181)), .ref (a 66), .ref (a 67), .ref (a 68), .ref (a 69)])), (a 66, .inl (cx 0, 64, .inl (aI (fun k => σ 9 (117 + k))))), (a 67, .inl (cx 0, 9, .inl (aI (fun k => σ 9 (108 + k))))), (a 68, .inl (cx 0, 16, .inl (aI (fun k => σ 9 (182 + k))))), (a 69, .inl (cx 0, 16, .inl (aI (fun k => σ 9 (198 + k)))))] (wx cx a (sc σ 9 (cpi (σ 9) (σ 0) 0))) := by
  refine leW_k ?_
  refine leW_k ?_
  refine leW_k ?_
  refine leW_k ?_
  refine leW_k ?_
  refine leW_k ?_
  refine leW_k ?_
  refine leW_k ?_
  refine leW_k ?_
  refine leW_k ?_
  refine leW_k ?_
  refine leW_k ?_
  refine leW_k ?_
  refine leW_k ?_
  refine leW_k ?_
  refine leW_k ?_
  refine leW_k ?_
  refine leW_k ?_
  refine leW_k ?_
  refine leW_k ?_
  refine leW_k ?_
  refine leW_k ?_
  refine leW_k ?_
  refine leW_k ?_
  refine leW_k ?_
  refine leW_k ?_
  refine leW_k ?_
  refine leW_k ?_
  refine leW_k ?_
  refine leW_k ?_
  refine leW_k ?_
  refine leW_k ?_
  refine leW_k ?_
  refine leW_k ?_
  refine leW_k ?_
  refine leW_k ?_
  refine leW_k ?_
  refine leW_k ?_
  refine leW_k ?_
  refine leW_k ?_
  refine leW_k ?_
  refine leW_k ?_
  refine leW_k ?_
  refine leW_k ?_
  refine leW_k ?_
  refine leW_k ?_
  refine leW_k ?_
  refine leW_k ?_
  refine leW_k ?_
  refine leW_k ?_
  refine leW_k ?_
  refine leW_k ?_
  refine leW_k ?_
  refine leW_k ?_
  refine leW_k ?_
  refine leW_k ?_
  refine leW_k ?_
  refine leW_k ?_
  refine leW_k ?_
  refine leW_k ?_
  refine leW_o ?_ ?_
  rotate_left
  · rw [show σ 0 0 = sc σ 9 (cpi (σ 9) (σ 0) 0) 9 0 from (cpi_in (f := σ 9) (w := σ 0) (o := 0) (k := 0) (by omega)).symm, show σ 0 74 = sc σ 9 (cpi (σ 9) (σ 0) 0) 9 74 from (cpi_in (f := σ 9) (w := σ 0) (o := 0) (k := 74) (by omega)).symm]
  refine leW_c ?_ (fun k h1 h2 => ?_)
  rotate_left
  · show σ 0 (10 + k) = (cpi (σ 9) (σ 0) 0) (10 + k)
    first | unfold cpi | unfold cpo
    rw [if_pos (by omega)]
    first | rfl | exact congrArg _ (by omega)
  refine leW_c ?_ (fun k h1 h2 => ?_)
  rotate_left
  · show σ 0 (1 + k) = (cpi (σ 9) (σ 0) 0) (1 + k)
    first | unfold cpi | unfold cpo
    rw [if_pos (by omega)]
    first | rfl | exact congrArg _ (by omega)
  refine leW_c ?_ (fun k h1 h2 => ?_)
  rotate_left
  · show σ 0 (75 + k) = (cpi (σ 9) (σ 0) 0) (75 + k)
    first | unfold cpi | unfold cpo
    rw [if_pos (by omega)]
    first | rfl | exact congrArg _ (by omega)
  refine leW_c ?_ (fun k h1 h2 => ?_)
  rotate_left
  · show σ 0 (91 + k) = (cpi (σ 9) (σ 0) 0) (91 + k)
    first | unfold cpi | unfold cpo
    rw [if_pos (by omega)]
    first | rfl | exact congrArg _ (by omega)
  refine leW_o ?_ ?_
  rotate_left
  · rw [show σ 9 107 = sc σ 9 (cpi (σ 9) (σ 0) 0) 9 107 from (cpi_out (f := σ 9) (w := σ 0) (o := 0) (k := 107) (by omega)).symm, show σ 9 181 = sc σ 9 (cpi (σ 9) (σ 0) 0) 9 181 from (cpi_out (f := σ 9) (w := σ 0) (o := 0) (k := 181) (by omega)).symm]
  refine leW_i ?_ (fun k h1 h2 => ?_)
  rotate_left
  · show σ 9 (117 + k) = (cpi (σ 9) (σ 0) 0) (117 + k)
    unfold cpi
    rw [if_neg (by omega)]
  refine leW_i ?_ (fun k h1 h2 => ?_)
  rotate_left
  · show σ 9 (108 + k) = (cpi (σ 9) (σ 0) 0) (108 + k)
    unfold cpi
    rw [if_neg (by omega)]
  refine leW_i ?_ (fun k h1 h2 => ?_)
  rotate_left
  · show σ 9 (182 + k) = (cpi (σ 9) (σ 0) 0) (182 + k)
    unfold cpi
    rw [if_neg (by omega)]
  refine leW_i ?_ (fun k h1 h2 => ?_)
  rotate_left
  · show σ 9 (198 + k) = (cpi (σ 9) (σ 0) 0) (198 + k)
    unfold cpi
    rw [if_neg (by omega)]
  exact leW_0
theorem wx_cp_k1 {G : va_G} {cx a : Nat → Nat} {σ : Nat → Int → Int} : leW G vwCl [(a 0, .inr (4, [.ref (a 3), .ref (a 8), .ref (a 14), .ref (a 17), .ref (a 59), .ref (a 1), .ref (a 2)])), (a 1, .inl (cx 2, 2, .inl (aI (σ 11)))), (a 2, .inl (cx 0, 16, .inl (aI (σ 13)))), (a 3, .inr (2, [.int (iI (σ 0 0)), .int (iI (σ 0 74)), .ref (a 4), .ref (a 5), .ref (a 6), .ref (a 7)])), (a 4, .inl (cx 0, 64, .inl (aI (fun k => σ 0 (10 + k))))), (a 5, .inl (cx 0, 9, .inl (aI (fun k => σ 0 (1 + k))))), (a 6, .inl (cx 0, 16, .inl (aI (fun k => σ 0 (75 + k))))), (a 7, .inl (cx 0, 16, .inl (aI (fun k => σ 0 (91 + k))))), (a 8, .inr (0, [.ref (a 3), .int (iI (σ 21 0)), .int (iI (σ 21 1)), .ref (a 9), .ref (a 10), .ref (a 11), .ref (a 12), .ref (a 13)])), (a 9, .inl (cx 0, 33, .inl (aI (σ 14)))), (a 10, .inl (cx 0, 16, .inl (aI (σ 15)))), (a 11, .inl (cx 0, 16, .inl (aI (σ 16)))), (a 12, .inl (cx 0, 561, .inl (aI (σ 17)))), (a 13, .inl (cx 0, 17, .inl (aI (σ 18)))), (a 14, .inr (3, [.ref (a 3), .ref (a 8), .ref (a 15), .ref (a 16)])), (a 15, .inl (cx 0, 16, .inl (aI (σ 19)))), (a 16, .inl (cx 1, 16, .inr (.inl (aL (σ 20))))), (a 17, .inr (1, [.ref (a 18), .int (iI (σ 12 0)), .int (iI (σ 12 1))])), (a 18, .inl (cx 3, 8, .inr (.inr (.inr (.inr (fun k => some (a (19 + 5 * k)))))))), (a 19, .inr (2, [.int (iI (σ 1 0)), .int (iI (σ 1 74)), .ref (a 20), .ref (a 21), .ref (a 22), .ref (a 23)])), (a 20, .inl (cx 0, 64, .inl (aI (fun k => σ 1 (10 + k))))), (a 21, .inl (cx 0, 9, .inl (aI (fun k => σ 1 (1 + k))))), (a 22, .inl (cx 0, 16, .inl (aI (fun k => σ 1 (75 + k))))), (a 23, .inl (cx 0, 16, .inl (aI (fun k => σ 1 (91 + k))))), (a 24, .inr (2, [.int (iI (σ 1 107)), .int (iI (σ 1 181)), .ref (a 25), .ref (a 26), .ref (a 27), .ref (a 28)])), (a 25, .inl (cx 0, 64, .inl (aI (fun k => σ 1 (117 + k))))), (a 26, .inl (cx 0, 9, .inl (aI (fun k => σ 1 (108 + k))))), (a 27, .inl (cx 0, 16, .inl (aI (fun k => σ 1 (182 + k))))), (a 28, .inl (cx 0, 16, .inl (aI (fun k => σ 1 (198 + k))))), (a 29, .inr (2, [.int (iI (σ 1 214)), .int (iI (σ 1 288)), .ref (a 30), .ref (a 31), .ref (a 32), .ref (a 33)])), (a 30, .inl (cx 0, 64, .inl (aI (fun k => σ 1 (224 + k))))), (a 31, .inl (cx 0, 9, .inl (aI (fun k => σ 1 (215 + k))))), (a 32, .inl (cx 0, 16, .inl (aI (fun k => σ 1 (289 + k))))), (a 33, .inl (cx 0, 16, .inl (aI (fun k => σ 1 (305 + k))))), (a 34, .inr (2, [.int (iI (σ 1 321)), .int (iI (σ 1 395)), .ref (a 35), .ref (a 36), .ref (a 37), .ref (a 38)])), (a 35, .inl (cx 0, 64, .inl (aI (fun k => σ 1 (331 + k))))), (a 36, .inl (cx 0, 9, .inl (aI (fun k => σ 1 (322 + k))))), (a 37, .inl (cx 0, 16, .inl (aI (fun k => σ 1 (396 + k))))), (a 38, .inl (cx 0, 16, .inl (aI (fun k => σ 1 (412 + k))))), (a 39, .inr (2, [.int (iI (σ 1 428)), .int (iI (σ 1 502)), .ref (a 40), .ref (a 41), .ref (a 42), .ref (a 43)])), (a 40, .inl (cx 0, 64, .inl (aI (fun k => σ 1 (438 + k))))), (a 41, .inl (cx 0, 9, .inl (aI (fun k => σ 1 (429 + k))))), (a 42, .inl (cx 0, 16, .inl (aI (fun k => σ 1 (503 + k))))), (a 43, .inl (cx 0, 16, .inl (aI (fun k => σ 1 (519 + k))))), (a 44, .inr (2, [.int (iI (σ 1 535)), .int (iI (σ 1 609)), .ref (a 45), .ref (a 46), .ref (a 47), .ref (a 48)])), (a 45, .inl (cx 0, 64, .inl (aI (fun k => σ 1 (545 + k))))), (a 46, .inl (cx 0, 9, .inl (aI (fun k => σ 1 (536 + k))))), (a 47, .inl (cx 0, 16, .inl (aI (fun k => σ 1 (610 + k))))), (a 48, .inl (cx 0, 16, .inl (aI (fun k => σ 1 (626 + k))))), (a 49, .inr (2, [.int (iI (σ 1 642)), .int (iI (σ 1 716)), .ref (a 50), .ref (a 51), .ref (a 52), .ref (a 53)])), (a 50, .inl (cx 0, 64, .inl (aI (fun k => σ 1 (652 + k))))), (a 51, .inl (cx 0, 9, .inl (aI (fun k => σ 1 (643 + k))))), (a 52, .inl (cx 0, 16, .inl (aI (fun k => σ 1 (717 + k))))), (a 53, .inl (cx 0, 16, .inl (aI (fun k => σ 1 (733 + k))))), (a 54, .inr (2, [.int (iI (σ 1 749)), .int (iI (σ 1 823)), .ref (a 55), .ref (a 56), .ref (a 57), .ref (a 58)])), (a 55, .inl (cx 0, 64, .inl (aI (fun k => σ 1 (759 + k))))), (a 56, .inl (cx 0, 9, .inl (aI (fun k => σ 1 (750 + k))))), (a 57, .inl (cx 0, 16, .inl (aI (fun k => σ 1 (824 + k))))), (a 58, .inl (cx 0, 16, .inl (aI (fun k => σ 1 (840 + k))))), (a 59, .inl (cx 3, 2, .inr (.inr (.inr (.inr (fun k => some (a (60 + 5 * k)))))))), (a 60, .inr (2, [.int (iI (σ 9 0)), .int (iI (σ 9 74)), .ref (a 61), .ref (a 62), .ref (a 63), .ref (a 64)])), (a 61, .inl (cx 0, 64, .inl (aI (fun k => σ 9 (10 + k))))), (a 62, .inl (cx 0, 9, .inl (aI (fun k => σ 9 (1 + k))))), (a 63, .inl (cx 0, 16, .inl (aI (fun k => σ 9 (75 + k))))), (a 64, .inl (cx 0, 16, .inl (aI (fun k => σ 9 (91 + k))))), (a 65, .inr (2, [.int (iI (σ 0 0)), .int (iI (σ 0 74)), .ref (a 66), .ref (a 67), .ref (a 68), .ref (a 69)])), (a 66, .inl (cx 0, 64, .inl (va_cpy (aI (fun k => σ 0 (10 + k))) (aI (fun k => σ 9 (117 + k))) (iI 0).toNatClampNeg (iI 0).toNatClampNeg (iI 64).toNatClampNeg))), (a 67, .inl (cx 0, 9, .inl (va_cpy (aI (fun k => σ 0 (1 + k))) (aI (fun k => σ 9 (108 + k))) (iI 0).toNatClampNeg (iI 0).toNatClampNeg (iI 9).toNatClampNeg))), (a 68, .inl (cx 0, 16, .inl (va_cpy (aI (fun k => σ 0 (75 + k))) (aI (fun k => σ 9 (182 + k))) (iI 0).toNatClampNeg (iI 0).toNatClampNeg (iI 16).toNatClampNeg))), (a 69, .inl (cx 0, 16, .inl (va_cpy (aI (fun k => σ 0 (91 + k))) (aI (fun k => σ 9 (198 + k))) (iI 0).toNatClampNeg (iI 0).toNatClampNeg (iI 16).toNatClampNeg)))] (wx cx a (sc σ 9 (cpi (σ 9) (σ 0) 107))) := by
  refine leW_k ?_
  refine leW_k ?_
  refine leW_k ?_
  refine leW_k ?_
  refine leW_k ?_
  refine leW_k ?_
  refine leW_k ?_
  refine leW_k ?_
  refine leW_k ?_
  refine leW_k ?_
  refine leW_k ?_
  refine leW_k ?_
  refine leW_k ?_
  refine leW_k ?_
  refine leW_k ?_
  refine leW_k ?_
  refine leW_k ?_
  refine leW_k ?_
  refine leW_k ?_
  refine leW_k ?_
  refine leW_k ?_
  refine leW_k ?_
  refine leW_k ?_
  refine leW_k ?_
  refine leW_k ?_
  refine leW_k ?_
  refine leW_k ?_
  refine leW_k ?_
  refine leW_k ?_
  refine leW_k ?_
  refine leW_k ?_
  refine leW_k ?_
  refine leW_k ?_
  refine leW_k ?_
  refine leW_k ?_
  refine leW_k ?_
  refine leW_k ?_
  refine leW_k ?_
  refine leW_k ?_
  refine leW_k ?_
  refine leW_k ?_
  refine leW_k ?_
  refine leW_k ?_
  refine leW_k ?_
  refine leW_k ?_
  refine leW_k ?_
  refine leW_k ?_
  refine leW_k ?_
  refine leW_k ?_
  refine leW_k ?_
  refine leW_k ?_
  refine leW_k ?_
  refine leW_k ?_
  refine leW_k ?_
  refine leW_k ?_
  refine leW_k ?_
  refine leW_k ?_
  refine leW_k ?_
  refine leW_k ?_
  refine leW_k ?_
  refine leW_o ?_ ?_
  rotate_left
  · rw [show σ 9 0 = sc σ 9 (cpi (σ 9) (σ 0) 107) 9 0 from (cpi_out (f := σ 9) (w := σ 0) (o := 107) (k := 0) (by omega)).symm, show σ 9 74 = sc σ 9 (cpi (σ 9) (σ 0) 107) 9 74 from (cpi_out (f := σ 9) (w := σ 0) (o := 107) (k := 74) (by omega)).symm]
  refine leW_i ?_ (fun k h1 h2 => ?_)
  rotate_left
  · show σ 9 (10 + k) = (cpi (σ 9) (σ 0) 107) (10 + k)
    unfold cpi
    rw [if_neg (by omega)]
  refine leW_i ?_ (fun k h1 h2 => ?_)
  rotate_left
  · show σ 9 (1 + k) = (cpi (σ 9) (σ 0) 107) (1 + k)
    unfold cpi
    rw [if_neg (by omega)]
  refine leW_i ?_ (fun k h1 h2 => ?_)
  rotate_left
  · show σ 9 (75 + k) = (cpi (σ 9) (σ 0) 107) (75 + k)
    unfold cpi
    rw [if_neg (by omega)]
  refine leW_i ?_ (fun k h1 h2 => ?_)
  rotate_left
  · show σ 9 (91 + k) = (cpi (σ 9) (σ 0) 107) (91 + k)
    unfold cpi
    rw [if_neg (by omega)]
  refine leW_o ?_ ?_
  rotate_left
  · rw [show σ 0 0 = sc σ 9 (cpi (σ 9) (σ 0) 107) 9 107 from (cpi_in (f := σ 9) (w := σ 0) (o := 107) (k := 107) (by omega)).symm, show σ 0 74 = sc σ 9 (cpi (σ 9) (σ 0) 107) 9 181 from (cpi_in (f := σ 9) (w := σ 0) (o := 107) (k := 181) (by omega)).symm]
  refine leW_c ?_ (fun k h1 h2 => ?_)
  rotate_left
  · show σ 0 (10 + k) = (cpi (σ 9) (σ 0) 107) (117 + k)
    first | unfold cpi | unfold cpo
    rw [if_pos (by omega)]
    first | rfl | exact congrArg _ (by omega)
  refine leW_c ?_ (fun k h1 h2 => ?_)
  rotate_left
  · show σ 0 (1 + k) = (cpi (σ 9) (σ 0) 107) (108 + k)
    first | unfold cpi | unfold cpo
    rw [if_pos (by omega)]
    first | rfl | exact congrArg _ (by omega)
  refine leW_c ?_ (fun k h1 h2 => ?_)
  rotate_left
  · show σ 0 (75 + k) = (cpi (σ 9) (σ 0) 107) (182 + k)
    first | unfold cpi | unfold cpo
    rw [if_pos (by omega)]
    first | rfl | exact congrArg _ (by omega)
  refine leW_c ?_ (fun k h1 h2 => ?_)
  rotate_left
  · show σ 0 (91 + k) = (cpi (σ 9) (σ 0) 107) (198 + k)
    first | unfold cpi | unfold cpo
    rw [if_pos (by omega)]
    first | rfl | exact congrArg _ (by omega)
  exact leW_0
theorem wx_cp_b0 {G : va_G} {cx a : Nat → Nat} {σ : Nat → Int → Int} : leW G vwCl [(a 0, .inr (4, [.ref (a 3), .ref (a 8), .ref (a 14), .ref (a 17), .ref (a 59), .ref (a 1), .ref (a 2)])), (a 1, .inl (cx 2, 2, .inl (aI (σ 11)))), (a 2, .inl (cx 0, 16, .inl (aI (σ 13)))), (a 3, .inr (2, [.int (iI (σ 9 0)), .int (iI (σ 9 74)), .ref (a 4), .ref (a 5), .ref (a 6), .ref (a 7)])), (a 4, .inl (cx 0, 64, .inl (va_cpy (aI (fun k => σ 9 (10 + k))) (aI (fun k => σ 0 (10 + k))) (iI 0).toNatClampNeg (iI 0).toNatClampNeg (iI 64).toNatClampNeg))), (a 5, .inl (cx 0, 9, .inl (va_cpy (aI (fun k => σ 9 (1 + k))) (aI (fun k => σ 0 (1 + k))) (iI 0).toNatClampNeg (iI 0).toNatClampNeg (iI 9).toNatClampNeg))), (a 6, .inl (cx 0, 16, .inl (va_cpy (aI (fun k => σ 9 (75 + k))) (aI (fun k => σ 0 (75 + k))) (iI 0).toNatClampNeg (iI 0).toNatClampNeg (iI 16).toNatClampNeg))), (a 7, .inl (cx 0, 16, .inl (va_cpy (aI (fun k => σ 9 (91 + k))) (aI (fun k => σ 0 (91 + k))) (iI 0).toNatClampNeg (iI 0).toNatClampNeg (iI 16).toNatClampNeg))), (a 8, .inr (0, [.ref (a 3), .int (iI (σ 21 0)), .int (iI (σ 21 1)), .ref (a 9), .ref (a 10), .ref (a 11), .ref (a 12), .ref (a 13)])), (a 9, .inl (cx 0, 33, .inl (aI (σ 14)))), (a 10, .inl (cx 0, 16, .inl (aI (σ 15)))), (a 11, .inl (cx 0, 16, .inl (aI (σ 16)))), (a 12, .inl (cx 0, 561, .inl (aI (σ 17)))), (a 13, .inl (cx 0, 17, .inl (aI (σ 18)))), (a 14, .inr (3, [.ref (a 3), .ref (a 8), .ref (a 15), .ref (a 16)])), (a 15, .inl (cx 0, 16, .inl (aI (σ 19)))), (a 16, .inl (cx 1, 16, .inr (.inl (aL (σ 20))))), (a 17, .inr (1, [.ref (a 18), .int (iI (σ 12 0)), .int (iI (σ 12 1))])), (a 18, .inl (cx 3, 8, .inr (.inr (.inr (.inr (fun k => some (a (19 + 5 * k)))))))), (a 19, .inr (2, [.int (iI (σ 1 0)), .int (iI (σ 1 74)), .ref (a 20), .ref (a 21), .ref (a 22), .ref (a 23)])), (a 20, .inl (cx 0, 64, .inl (aI (fun k => σ 1 (10 + k))))), (a 21, .inl (cx 0, 9, .inl (aI (fun k => σ 1 (1 + k))))), (a 22, .inl (cx 0, 16, .inl (aI (fun k => σ 1 (75 + k))))), (a 23, .inl (cx 0, 16, .inl (aI (fun k => σ 1 (91 + k))))), (a 24, .inr (2, [.int (iI (σ 1 107)), .int (iI (σ 1 181)), .ref (a 25), .ref (a 26), .ref (a 27), .ref (a 28)])), (a 25, .inl (cx 0, 64, .inl (aI (fun k => σ 1 (117 + k))))), (a 26, .inl (cx 0, 9, .inl (aI (fun k => σ 1 (108 + k))))), (a 27, .inl (cx 0, 16, .inl (aI (fun k => σ 1 (182 + k))))), (a 28, .inl (cx 0, 16, .inl (aI (fun k => σ 1 (198 + k))))), (a 29, .inr (2, [.int (iI (σ 1 214)), .int (iI (σ 1 288)), .ref (a 30), .ref (a 31), .ref (a 32), .ref (a 33)])), (a 30, .inl (cx 0, 64, .inl (aI (fun k => σ 1 (224 + k))))), (a 31, .inl (cx 0, 9, .inl (aI (fun k => σ 1 (215 + k))))), (a 32, .inl (cx 0, 16, .inl (aI (fun k => σ 1 (289 + k))))), (a 33, .inl (cx 0, 16, .inl (aI (fun k => σ 1 (305 + k))))), (a 34, .inr (2, [.int (iI (σ 1 321)), .int (iI (σ 1 395)), .ref (a 35), .ref (a 36), .ref (a 37), .ref (a 38)])), (a 35, .inl (cx 0, 64, .inl (aI (fun k => σ 1 (331 + k))))), (a 36, .inl (cx 0, 9, .inl (aI (fun k => σ 1 (322 + k))))), (a 37, .inl (cx 0, 16, .inl (aI (fun k => σ 1 (396 + k))))), (a 38, .inl (cx 0, 16, .inl (aI (fun k => σ 1 (412 + k))))), (a 39, .inr (2, [.int (iI (σ 1 428)), .int (iI (σ 1 502)), .ref (a 40), .ref (a 41), .ref (a 42), .ref (a 43)])), (a 40, .inl (cx 0, 64, .inl (aI (fun k => σ 1 (438 + k))))), (a 41, .inl (cx 0, 9, .inl (aI (fun k => σ 1 (429 + k))))), (a 42, .inl (cx 0, 16, .inl (aI (fun k => σ 1 (503 + k))))), (a 43, .inl (cx 0, 16, .inl (aI (fun k => σ 1 (519 + k))))), (a 44, .inr (2, [.int (iI (σ 1 535)), .int (iI (σ 1 609)), .ref (a 45), .ref (a 46), .ref (a 47), .ref (a 48)])), (a 45, .inl (cx 0, 64, .inl (aI (fun k => σ 1 (545 + k))))), (a 46, .inl (cx 0, 9, .inl (aI (fun k => σ 1 (536 + k))))), (a 47, .inl (cx 0, 16, .inl (aI (fun k => σ 1 (610 + k))))), (a 48, .inl (cx 0, 16, .inl (aI (fun k => σ 1 (626 + k))))), (a 49, .inr (2, [.int (iI (σ 1 642)), .int (iI (σ 1 716)), .ref (a 50), .ref (a 51), .ref (a 52), .ref (a 53)])), (a 50, .inl (cx 0, 64, .inl (aI (fun k => σ 1 (652 + k))))), (a 51, .inl (cx 0, 9, .inl (aI (fun k => σ 1 (643 + k))))), (a 52, .inl (cx 0, 16, .inl (aI (fun k => σ 1 (717 + k))))), (a 53, .inl (cx 0, 16, .inl (aI (fun k => σ 1 (733 + k))))), (a 54, .inr (2, [.int (iI (σ 1 749)), .int (iI (σ 1 823)), .ref (a 55), .ref (a 56), .ref (a 57), .ref (a 58)])), (a 55, .inl (cx 0, 64, .inl (aI (fun k => σ 1 (759 + k))))), (a 56, .inl (cx 0, 9, .inl (aI (fun k => σ 1 (750 + k))))), (a 57, .inl (cx 0, 16, .inl (aI (fun k => σ 1 (824 + k))))), (a 58, .inl (cx 0, 16, .inl (aI (fun k => σ 1 (840 + k))))), (a 59, .inl (cx 3, 2, .inr (.inr (.inr (.inr (fun k => some (a (60 + 5 * k)))))))), (a 60, .inr (2, [.int (iI (σ 9 0)), .int (iI (σ 9 74)), .ref (a 61), .ref (a 62), .ref (a 63), .ref (a 64)])), (a 61, .inl (cx 0, 64, .inl (aI (fun k => σ 9 (10 + k))))), (a 62, .inl (cx 0, 9, .inl (aI (fun k => σ 9 (1 + k))))), (a 63, .inl (cx 0, 16, .inl (aI (fun k => σ 9 (75 + k))))), (a 64, .inl (cx 0, 16, .inl (aI (fun k => σ 9 (91 + k))))), (a 65, .inr (2, [.int (iI (σ 9 107)), .int (iI (σ 9 181)), .ref (a 66), .ref (a 67), .ref (a 68), .ref (a 69)])), (a 66, .inl (cx 0, 64, .inl (aI (fun k => σ 9 (117 + k))))), (a 67, .inl (cx 0, 9, .inl (aI (fun k => σ 9 (108 + k))))), (a 68, .inl (cx 0, 16, .inl (aI (fun k => σ 9 (182 + k))))), (a 69, .inl (cx 0, 16, .inl (aI (fun k => σ 9 (198 + k)))))] (wx cx a (sc σ 0 (cpo (σ 0) (σ 9) 0))) := by
  refine leW_k ?_
  refine leW_k ?_
  refine leW_k ?_
  refine leW_o ?_ ?_
  rotate_left
  · rw [show σ 9 0 = sc σ 0 (cpo (σ 0) (σ 9) 0) 0 0 from (cpo_in (w := σ 0) (f := σ 9) (o := 0) (k := 0) (by omega)).symm, show σ 9 74 = sc σ 0 (cpo (σ 0) (σ 9) 0) 0 74 from (cpo_in (w := σ 0) (f := σ 9) (o := 0) (k := 74) (by omega)).symm]
  refine leW_c ?_ (fun k h1 h2 => ?_)
  rotate_left
  · show σ 9 (10 + k) = (cpo (σ 0) (σ 9) 0) (10 + k)
    first | unfold cpi | unfold cpo
    rw [if_pos (by omega)]
    first | rfl | exact congrArg _ (by omega)
  refine leW_c ?_ (fun k h1 h2 => ?_)
  rotate_left
  · show σ 9 (1 + k) = (cpo (σ 0) (σ 9) 0) (1 + k)
    first | unfold cpi | unfold cpo
    rw [if_pos (by omega)]
    first | rfl | exact congrArg _ (by omega)
  refine leW_c ?_ (fun k h1 h2 => ?_)
  rotate_left
  · show σ 9 (75 + k) = (cpo (σ 0) (σ 9) 0) (75 + k)
    first | unfold cpi | unfold cpo
    rw [if_pos (by omega)]
    first | rfl | exact congrArg _ (by omega)
  refine leW_c ?_ (fun k h1 h2 => ?_)
  rotate_left
  · show σ 9 (91 + k) = (cpo (σ 0) (σ 9) 0) (91 + k)
    first | unfold cpi | unfold cpo
    rw [if_pos (by omega)]
    first | rfl | exact congrArg _ (by omega)
  refine leW_k ?_
  refine leW_k ?_
  refine leW_k ?_
  refine leW_k ?_
  refine leW_k ?_
  refine leW_k ?_
  refine leW_k ?_
  refine leW_k ?_
  refine leW_k ?_
  refine leW_k ?_
  refine leW_k ?_
  refine leW_k ?_
  refine leW_k ?_
  refine leW_k ?_
  refine leW_k ?_
  refine leW_k ?_
  refine leW_k ?_
  refine leW_k ?_
  refine leW_k ?_
  refine leW_k ?_
  refine leW_k ?_
  refine leW_k ?_
  refine leW_k ?_
  refine leW_k ?_
  refine leW_k ?_
  refine leW_k ?_
  refine leW_k ?_
  refine leW_k ?_
  refine leW_k ?_
  refine leW_k ?_
  refine leW_k ?_
  refine leW_k ?_
  refine leW_k ?_
  refine leW_k ?_
  refine leW_k ?_
  refine leW_k ?_
  refine leW_k ?_
  refine leW_k ?_
  refine leW_k ?_
  refine leW_k ?_
  refine leW_k ?_
  refine leW_k ?_
  refine leW_k ?_
  refine leW_k ?_
  refine leW_k ?_
  refine leW_k ?_
  refine leW_k ?_
  refine leW_k ?_
  refine leW_k ?_
  refine leW_k ?_
  refine leW_k ?_
  refine leW_k ?_
  refine leW_k ?_
  refine leW_k ?_
  refine leW_k ?_
  refine leW_k ?_
  refine leW_k ?_
  refine leW_k ?_
  refine leW_k ?_
  refine leW_k ?_
  refine leW_k ?_
  refine leW_k ?_
  exact leW_0
theorem wx_cp_b1 {G : va_G} {cx a : Nat → Nat} {σ : Nat → Int → Int} : leW G vwCl [(a 0, .inr (4, [.ref (a 3), .ref (a 8), .ref (a 14), .ref (a 17), .ref (a 59), .ref (a 1), .ref (a 2)])), (a 1, .inl (cx 2, 2, .inl (aI (σ 11)))), (a 2, .inl (cx 0, 16, .inl (aI (σ 13)))), (a 3, .inr (2, [.int (iI (σ 9 107)), .int (iI (σ 9 181)), .ref (a 4), .ref (a 5), .ref (a 6), .ref (a 7)])), (a 4, .inl (cx 0, 64, .inl (va_cpy (aI (fun k => σ 9 (117 + k))) (aI (fun k => σ 0 (10 + k))) (iI 0).toNatClampNeg (iI 0).toNatClampNeg (iI 64).toNatClampNeg))), (a 5, .inl (cx 0, 9, .inl (va_cpy (aI (fun k => σ 9 (108 + k))) (aI (fun k => σ 0 (1 + k))) (iI 0).toNatClampNeg (iI 0).toNatClampNeg (iI 9).toNatClampNeg))), (a 6, .inl (cx 0, 16, .inl (va_cpy (aI (fun k => σ 9 (182 + k))) (aI (fun k => σ 0 (75 + k))) (iI 0).toNatClampNeg (iI 0).toNatClampNeg (iI 16).toNatClampNeg))), (a 7, .inl (cx 0, 16, .inl (va_cpy (aI (fun k => σ 9 (198 + k))) (aI (fun k => σ 0 (91 + k))) (iI 0).toNatClampNeg (iI 0).toNatClampNeg (iI 16).toNatClampNeg))), (a 8, .inr (0, [.ref (a 3), .int (iI (σ 21 0)), .int (iI (σ 21 1)), .ref (a 9), .ref (a 10), .ref (a 11), .ref (a 12), .ref (a 13)])), (a 9, .inl (cx 0, 33, .inl (aI (σ 14)))), (a 10, .inl (cx 0, 16, .inl (aI (σ 15)))), (a 11, .inl (cx 0, 16, .inl (aI (σ 16)))), (a 12, .inl (cx 0, 561, .inl (aI (σ 17)))), (a 13, .inl (cx 0, 17, .inl (aI (σ 18)))), (a 14, .inr (3, [.ref (a 3), .ref (a 8), .ref (a 15), .ref (a 16)])), (a 15, .inl (cx 0, 16, .inl (aI (σ 19)))), (a 16, .inl (cx 1, 16, .inr (.inl (aL (σ 20))))), (a 17, .inr (1, [.ref (a 18), .int (iI (σ 12 0)), .int (iI (σ 12 1))])), (a 18, .inl (cx 3, 8, .inr (.inr (.inr (.inr (fun k => some (a (19 + 5 * k)))))))), (a 19, .inr (2, [.int (iI (σ 1 0)), .int (iI (σ 1 74)), .ref (a 20), .ref (a 21), .ref (a 22), .ref (a 23)])), (a 20, .inl (cx 0, 64, .inl (aI (fun k => σ 1 (10 + k))))), (a 21, .inl (cx 0, 9, .inl (aI (fun k => σ 1 (1 + k))))), (a 22, .inl (cx 0, 16, .inl (aI (fun k => σ 1 (75 + k))))), (a 23, .inl (cx 0, 16, .inl (aI (fun k => σ 1 (91 + k))))), (a 24, .inr (2, [.int (iI (σ 1 107)), .int (iI (σ 1 181)), .ref (a 25), .ref (a 26), .ref (a 27), .ref (a 28)])), (a 25, .inl (cx 0, 64, .inl (aI (fun k => σ 1 (117 + k))))), (a 26, .inl (cx 0, 9, .inl (aI (fun k => σ 1 (108 + k))))), (a 27, .inl (cx 0, 16, .inl (aI (fun k => σ 1 (182 + k))))), (a 28, .inl (cx 0, 16, .inl (aI (fun k => σ 1 (198 + k))))), (a 29, .inr (2, [.int (iI (σ 1 214)), .int (iI (σ 1 288)), .ref (a 30), .ref (a 31), .ref (a 32), .ref (a 33)])), (a 30, .inl (cx 0, 64, .inl (aI (fun k => σ 1 (224 + k))))), (a 31, .inl (cx 0, 9, .inl (aI (fun k => σ 1 (215 + k))))), (a 32, .inl (cx 0, 16, .inl (aI (fun k => σ 1 (289 + k))))), (a 33, .inl (cx 0, 16, .inl (aI (fun k => σ 1 (305 + k))))), (a 34, .inr (2, [.int (iI (σ 1 321)), .int (iI (σ 1 395)), .ref (a 35), .ref (a 36), .ref (a 37), .ref (a 38)])), (a 35, .inl (cx 0, 64, .inl (aI (fun k => σ 1 (331 + k))))), (a 36, .inl (cx 0, 9, .inl (aI (fun k => σ 1 (322 + k))))), (a 37, .inl (cx 0, 16, .inl (aI (fun k => σ 1 (396 + k))))), (a 38, .inl (cx 0, 16, .inl (aI (fun k => σ 1 (412 + k))))), (a 39, .inr (2, [.int (iI (σ 1 428)), .int (iI (σ 1 502)), .ref (a 40), .ref (a 41), .ref (a 42), .ref (a 43)])), (a 40, .inl (cx 0, 64, .inl (aI (fun k => σ 1 (438 + k))))), (a 41, .inl (cx 0, 9, .inl (aI (fun k => σ 1 (429 + k))))), (a 42, .inl (cx 0, 16, .inl (aI (fun k => σ 1 (503 + k))))), (a 43, .inl (cx 0, 16, .inl (aI (fun k => σ 1 (519 + k))))), (a 44, .inr (2, [.int (iI (σ 1 535)), .int (iI (σ 1 609)), .ref (a 45), .ref (a 46), .ref (a 47), .ref (a 48)])), (a 45, .inl (cx 0, 64, .inl (aI (fun k => σ 1 (545 + k))))), (a 46, .inl (cx 0, 9, .inl (aI (fun k => σ 1 (536 + k))))), (a 47, .inl (cx 0, 16, .inl (aI (fun k => σ 1 (610 + k))))), (a 48, .inl (cx 0, 16, .inl (aI (fun k => σ 1 (626 + k))))), (a 49, .inr (2, [.int (iI (σ 1 642)), .int (iI (σ 1 716)), .ref (a 50), .ref (a 51), .ref (a 52), .ref (a 53)])), (a 50, .inl (cx 0, 64, .inl (aI (fun k => σ 1 (652 + k))))), (a 51, .inl (cx 0, 9, .inl (aI (fun k => σ 1 (643 + k))))), (a 52, .inl (cx 0, 16, .inl (aI (fun k => σ 1 (717 + k))))), (a 53, .inl (cx 0, 16, .inl (aI (fun k => σ 1 (733 + k))))), (a 54, .inr (2, [.int (iI (σ 1 749)), .int (iI (σ 1 823)), .ref (a 55), .ref (a 56), .ref (a 57), .ref (a 58)])), (a 55, .inl (cx 0, 64, .inl (aI (fun k => σ 1 (759 + k))))), (a 56, .inl (cx 0, 9, .inl (aI (fun k => σ 1 (750 + k))))), (a 57, .inl (cx 0, 16, .inl (aI (fun k => σ 1 (824 + k))))), (a 58, .inl (cx 0, 16, .inl (aI (fun k => σ 1 (840 + k))))), (a 59, .inl (cx 3, 2, .inr (.inr (.inr (.inr (fun k => some (a (60 + 5 * k)))))))), (a 60, .inr (2, [.int (iI (σ 9 0)), .int (iI (σ 9 74)), .ref (a 61), .ref (a 62), .ref (a 63), .ref (a 64)])), (a 61, .inl (cx 0, 64, .inl (aI (fun k => σ 9 (10 + k))))), (a 62, .inl (cx 0, 9, .inl (aI (fun k => σ 9 (1 + k))))), (a 63, .inl (cx 0, 16, .inl (aI (fun k => σ 9 (75 + k))))), (a 64, .inl (cx 0, 16, .inl (aI (fun k => σ 9 (91 + k))))), (a 65, .inr (2, [.int (iI (σ 9 107)), .int (iI (σ 9 181)), .ref (a 66), .ref (a 67), .ref (a 68), .ref (a 69)])), (a 66, .inl (cx 0, 64, .inl (aI (fun k => σ 9 (117 + k))))), (a 67, .inl (cx 0, 9, .inl (aI (fun k => σ 9 (108 + k))))), (a 68, .inl (cx 0, 16, .inl (aI (fun k => σ 9 (182 + k))))), (a 69, .inl (cx 0, 16, .inl (aI (fun k => σ 9 (198 + k)))))] (wx cx a (sc σ 0 (cpo (σ 0) (σ 9) 107))) := by
  refine leW_k ?_
  refine leW_k ?_
  refine leW_k ?_
  refine leW_o ?_ ?_
  rotate_left
  · rw [show σ 9 107 = sc σ 0 (cpo (σ 0) (σ 9) 107) 0 0 from (cpo_in (w := σ 0) (f := σ 9) (o := 107) (k := 0) (by omega)).symm, show σ 9 181 = sc σ 0 (cpo (σ 0) (σ 9) 107) 0 74 from (cpo_in (w := σ 0) (f := σ 9) (o := 107) (k := 74) (by omega)).symm]
  refine leW_c ?_ (fun k h1 h2 => ?_)
  rotate_left
  · show σ 9 (117 + k) = (cpo (σ 0) (σ 9) 107) (10 + k)
    first | unfold cpi | unfold cpo
    rw [if_pos (by omega)]
    first | rfl | exact congrArg _ (by omega)
  refine leW_c ?_ (fun k h1 h2 => ?_)
  rotate_left
  · show σ 9 (108 + k) = (cpo (σ 0) (σ 9) 107) (1 + k)
    first | unfold cpi | unfold cpo
    rw [if_pos (by omega)]
    first | rfl | exact congrArg _ (by omega)
  refine leW_c ?_ (fun k h1 h2 => ?_)
  rotate_left
  · show σ 9 (182 + k) = (cpo (σ 0) (σ 9) 107) (75 + k)
    first | unfold cpi | unfold cpo
    rw [if_pos (by omega)]
    first | rfl | exact congrArg _ (by omega)
  refine leW_c ?_ (fun k h1 h2 => ?_)
  rotate_left
  · show σ 9 (198 + k) = (cpo (σ 0) (σ 9) 107) (91 + k)
    first | unfold cpi | unfold cpo
    rw [if_pos (by omega)]
    first | rfl | exact congrArg _ (by omega)
  refine leW_k ?_
  refine leW_k ?_
  refine leW_k ?_
  refine leW_k ?_
  refine leW_k ?_
  refine leW_k ?_
  refine leW_k ?_
  refine leW_k ?_
  refine leW_k ?_
  refine leW_k ?_
  refine leW_k ?_
  refine leW_k ?_
  refine leW_k ?_
  refine leW_k ?_
  refine leW_k ?_
  refine leW_k ?_
  refine leW_k ?_
  refine leW_k ?_
  refine leW_k ?_
  refine leW_k ?_
  refine leW_k ?_
  refine leW_k ?_
  refine leW_k ?_
  refine leW_k ?_
  refine leW_k ?_
  refine leW_k ?_
  refine leW_k ?_
  refine leW_k ?_
  refine leW_k ?_
  refine leW_k ?_
  refine leW_k ?_
  refine leW_k ?_
  refine leW_k ?_
  refine leW_k ?_
  refine leW_k ?_
  refine leW_k ?_
  refine leW_k ?_
  refine leW_k ?_
  refine leW_k ?_
  refine leW_k ?_
  refine leW_k ?_
  refine leW_k ?_
  refine leW_k ?_
  refine leW_k ?_
  refine leW_k ?_
  refine leW_k ?_
  refine leW_k ?_
  refine leW_k ?_
  refine leW_k ?_
  refine leW_k ?_
  refine leW_k ?_
  refine leW_k ?_
  refine leW_k ?_
  refine leW_k ?_
  refine leW_k ?_
  refine leW_k ?_
  refine leW_k ?_
  refine leW_k ?_
  refine leW_k ?_
  refine leW_k ?_
  refine leW_k ?_
  refine leW_k ?_
  exact leW_0
set_option maxHeartbeats 4000000 in
set_option maxRecDepth 100000 in
theorem mX2_copy_p0 (l : Launch) (G : va_G) (cx a : Nat → Nat) (σ : Nat → Int → Int) : Met l yX2_copy wsX2_copy ({ frames := 1, cells := 0, slots := 0, locals := 60 }) (va_Pc [.ref (a 19), .ref (a 3)] (gW G (tx cx) (XA a) (wx cx a) σ)) (va_Qv (fun u => sc σ 1 (cpi (σ 1) (σ 0) 0) = u) (gW G (tx cx) (XA a) (wx cx a)) (XA a)) 0 0 (XA a) := by
  refine Met.ofW (cc := cX2_copy) (maxL := 2) (ret := none) (by decide) rfl ?_
  intro p e s m args below meth c s₁ B hml hv
  obtain ⟨rfl, hP, hK, hD⟩ := hv
  have hex := B.exec
  have hbc := B.bytes
  have hrt := B.returns
  have hts := atoms_spec (ws := wsX2_copy) B.pre
  have hown : s.vm.findClass RX2 = some m.cls := findClass_of_methodNamed B.named
  have hlocks := B.notSynchronized
  have hS : va_S (XA a) s.heap s.heap [] := va_S.rf
  have hin2 := iX2_copy_X2
  have hl := lv_entry ([.ref (a 19), .ref (a 3)]) (n := 2) (Nat.le_of_ble_eq_true rfl)
  rw [lg_entry_eq]
  generalize (lg_sl ([.ref (a 19), .ref (a 3)]) ++ List.replicate (2 - (lg_sl ([.ref (a 19), .ref (a 3)])).length) Slot.unset).toArray = ls at hl ⊢
  have hl : lv_has ls 2 [(0, .ref (a 19)), (1, .ref (a 3))] := hl
  refine lv_aload_n hex hbc dX2_copy_0 rfl (lv_at hl 0 rfl) ?_
  refine lv_aload_n hex hbc dX2_copy_1 rfl (lv_at hl 1 rfl) ?_
  refine va_get (v := .int (iI (σ 0 0))) hex hbc hts hin2 hown hK hP 3 rfl rfl 0 (by decide) (hts _ (List.mem_of_getElem? (i := 1) rfl)) (fun _ h => h) rfl dX2_copy_2 ?_
  refine va_put hex hbc hts hin2 tyX2 tyX2_ok nmX2 hown hK hP hD hS 19 rfl rfl 0 (by decide) (hts _ (List.mem_of_getElem? (i := 1) rfl)) (fun _ h => h) rfl (tyX2_ok 0 (by decide)) rfl rfl (Nat.le_of_ble_eq_true rfl) dX2_copy_5 (fun H locs hP hD hS => ?_)
  refine lv_aload_n hex hbc dX2_copy_8 rfl (lv_at hl 0 rfl) ?_
  refine lv_aload_n hex hbc dX2_copy_9 rfl (lv_at hl 1 rfl) ?_
  refine va_get (v := .int (iI (σ 0 74))) hex hbc hts hin2 hown hK hP 3 rfl rfl 1 (by decide) (hts _ (List.mem_of_getElem? (i := 2) rfl)) (fun _ h => h) rfl dX2_copy_10 ?_
  refine va_put hex hbc hts hin2 tyX2 tyX2_ok nmX2 hown hK hP hD hS 19 rfl rfl 1 (by decide) (hts _ (List.mem_of_getElem? (i := 2) rfl)) (fun _ h => h) rfl (tyX2_ok 1 (by decide)) rfl rfl (Nat.le_of_ble_eq_true rfl) dX2_copy_13 (fun H locs hP hD hS => ?_)
  refine lv_aload_n hex hbc dX2_copy_16 rfl (lv_at hl 1 rfl) ?_
  refine va_get (v := .ref (a 4)) hex hbc hts hin2 hown hK hP 3 rfl rfl 2 (by decide) (hts _ (List.mem_of_getElem? (i := 3) rfl)) (fun _ h => h) rfl dX2_copy_17 ?_
  refine lv_iconst (v := iI 0) hex hbc dX2_copy_20 rfl ?_
  refine lv_aload_n hex hbc dX2_copy_21 rfl (lv_at hl 0 rfl) ?_
  refine va_get (v := .ref (a 20)) hex hbc hts hin2 hown hK hP 19 rfl rfl 2 (by decide) (hts _ (List.mem_of_getElem? (i := 3) rfl)) (fun _ h => h) rfl dX2_copy_22 ?_
  refine lv_iconst (v := iI 0) hex hbc dX2_copy_25 rfl ?_
  refine lv_bipush (v := iI 64) hex hbc dX2_copy_26 (by decide) ?_
  refine va_copyi (f := aI (fun k => σ 0 (10 + k))) (g := aI (fun k => σ 1 (10 + k))) hex hbc (hml.trans hl.1.symm) hown (hts _ (List.mem_of_getElem? (i := 4) rfl)) (hts _ (List.mem_of_getElem? (i := 5) rfl)) (hts _ (List.mem_of_getElem? (i := 6) rfl)) (hts _ (List.mem_of_getElem? (i := 7) rfl)) hK hP hD hS 4 20 0 0 rfl rfl rfl rfl rfl (by decide) (by decide) (by decide) (by decide) (by decide) (fun _ _ => rfl) (Nat.le_of_ble_eq_true rfl) (by decide) dX2_copy_28 (fun H locs hP hD hS => ?_)
  refine lv_aload_n hex hbc dX2_copy_31 rfl (lv_at hl 1 rfl) ?_
  refine va_get (v := .ref (a 5)) hex hbc hts hin2 hown hK hP 3 rfl rfl 3 (by decide) (hts _ (List.mem_of_getElem? (i := 8) rfl)) (fun _ h => h) rfl dX2_copy_32 ?_
  refine lv_iconst (v := iI 0) hex hbc dX2_copy_35 rfl ?_
  refine lv_aload_n hex hbc dX2_copy_36 rfl (lv_at hl 0 rfl) ?_
  refine va_get (v := .ref (a 21)) hex hbc hts hin2 hown hK hP 19 rfl rfl 3 (by decide) (hts _ (List.mem_of_getElem? (i := 8) rfl)) (fun _ h => h) rfl dX2_copy_37 ?_
  refine lv_iconst (v := iI 0) hex hbc dX2_copy_40 rfl ?_
  refine lv_bipush (v := iI 9) hex hbc dX2_copy_41 (by decide) ?_
  refine va_copyi (f := aI (fun k => σ 0 (1 + k))) (g := aI (fun k => σ 1 (1 + k))) hex hbc (hml.trans hl.1.symm) hown (hts _ (List.mem_of_getElem? (i := 4) rfl)) (hts _ (List.mem_of_getElem? (i := 5) rfl)) (hts _ (List.mem_of_getElem? (i := 6) rfl)) (hts _ (List.mem_of_getElem? (i := 7) rfl)) hK hP hD hS 5 21 0 0 rfl rfl rfl rfl rfl (by decide) (by decide) (by decide) (by decide) (by decide) (fun _ _ => rfl) (Nat.le_of_ble_eq_true rfl) (by decide) dX2_copy_43 (fun H locs hP hD hS => ?_)
  refine lv_aload_n hex hbc dX2_copy_46 rfl (lv_at hl 1 rfl) ?_
  refine va_get (v := .ref (a 6)) hex hbc hts hin2 hown hK hP 3 rfl rfl 4 (by decide) (hts _ (List.mem_of_getElem? (i := 9) rfl)) (fun _ h => h) rfl dX2_copy_47 ?_
  refine lv_iconst (v := iI 0) hex hbc dX2_copy_50 rfl ?_
  refine lv_aload_n hex hbc dX2_copy_51 rfl (lv_at hl 0 rfl) ?_
  refine va_get (v := .ref (a 22)) hex hbc hts hin2 hown hK hP 19 rfl rfl 4 (by decide) (hts _ (List.mem_of_getElem? (i := 9) rfl)) (fun _ h => h) rfl dX2_copy_52 ?_
  refine lv_iconst (v := iI 0) hex hbc dX2_copy_55 rfl ?_
  refine lv_bipush (v := iI 16) hex hbc dX2_copy_56 (by decide) ?_
  refine va_copyi (f := aI (fun k => σ 0 (75 + k))) (g := aI (fun k => σ 1 (75 + k))) hex hbc (hml.trans hl.1.symm) hown (hts _ (List.mem_of_getElem? (i := 4) rfl)) (hts _ (List.mem_of_getElem? (i := 5) rfl)) (hts _ (List.mem_of_getElem? (i := 6) rfl)) (hts _ (List.mem_of_getElem? (i := 7) rfl)) hK hP hD hS 6 22 0 0 rfl rfl rfl rfl rfl (by decide) (by decide) (by decide) (by decide) (by decide) (fun _ _ => rfl) (Nat.le_of_ble_eq_true rfl) (by decide) dX2_copy_58 (fun H locs hP hD hS => ?_)
  refine lv_aload_n hex hbc dX2_copy_61 rfl (lv_at hl 1 rfl) ?_
  refine va_get (v := .ref (a 7)) hex hbc hts hin2 hown hK hP 3 rfl rfl 5 (by decide) (hts _ (List.mem_of_getElem? (i := 10) rfl)) (fun _ h => h) rfl dX2_copy_62 ?_
  refine lv_iconst (v := iI 0) hex hbc dX2_copy_65 rfl ?_
  refine lv_aload_n hex hbc dX2_copy_66 rfl (lv_at hl 0 rfl) ?_
  refine va_get (v := .ref (a 23)) hex hbc hts hin2 hown hK hP 19 rfl rfl 5 (by decide) (hts _ (List.mem_of_getElem? (i := 10) rfl)) (fun _ h => h) rfl dX2_copy_67 ?_
  refine lv_iconst (v := iI 0) hex hbc dX2_copy_70 rfl ?_
  refine lv_bipush (v := iI 16) hex hbc dX2_copy_71 (by decide) ?_
  refine va_copyi (f := aI (fun k => σ 0 (91 + k))) (g := aI (fun k => σ 1 (91 + k))) hex hbc (hml.trans hl.1.symm) hown (hts _ (List.mem_of_getElem? (i := 4) rfl)) (hts _ (List.mem_of_getElem? (i := 5) rfl)) (hts _ (List.mem_of_getElem? (i := 6) rfl)) (hts _ (List.mem_of_getElem? (i := 7) rfl)) hK hP hD hS 7 23 0 0 rfl rfl rfl rfl rfl (by decide) (by decide) (by decide) (by decide) (by decide) (fun _ _ => rfl) (Nat.le_of_ble_eq_true rfl) (by decide) dX2_copy_73 (fun H locs hP hD hS => ?_)
  have hP := leW_P (ws' := wx cx a (sc σ 1 (cpi (σ 1) (σ 0) 0))) (wx_cp_p0 (G := G) (cx := cx) (a := a) (σ := σ)) hP
  have hD := leW_D (ws' := wx cx a (sc σ 1 (cpi (σ 1) (σ 0) 0))) (wx_cp_p0 (G := G) (cx := cx) (a := a) (σ := σ)) hD
  exact g_vret hex hbc hrt hlocks hK hP hD hS rfl dX2_copy_76
set_option maxHeartbeats 4000000 in
set_option maxRecDepth 100000 in
theorem mX2_copy_p1 (l : Launch) (G : va_G) (cx a : Nat → Nat) (σ : Nat → Int → Int) : Met l yX2_copy wsX2_copy ({ frames := 1, cells := 0, slots := 0, locals := 60 }) (va_Pc [.ref (a 24), .ref (a 3)] (gW G (tx cx) (XA a) (wx cx a) σ)) (va_Qv (fun u => sc σ 1 (cpi (σ 1) (σ 0) 107) = u) (gW G (tx cx) (XA a) (wx cx a)) (XA a)) 0 0 (XA a) := by
  refine Met.ofW (cc := cX2_copy) (maxL := 2) (ret := none) (by decide) rfl ?_
  intro p e s m args below meth c s₁ B hml hv
  obtain ⟨rfl, hP, hK, hD⟩ := hv
  have hex := B.exec
  have hbc := B.bytes
  have hrt := B.returns
  have hts := atoms_spec (ws := wsX2_copy) B.pre
  have hown : s.vm.findClass RX2 = some m.cls := findClass_of_methodNamed B.named
  have hlocks := B.notSynchronized
  have hS : va_S (XA a) s.heap s.heap [] := va_S.rf
  have hin2 := iX2_copy_X2
  have hl := lv_entry ([.ref (a 24), .ref (a 3)]) (n := 2) (Nat.le_of_ble_eq_true rfl)
  rw [lg_entry_eq]
  generalize (lg_sl ([.ref (a 24), .ref (a 3)]) ++ List.replicate (2 - (lg_sl ([.ref (a 24), .ref (a 3)])).length) Slot.unset).toArray = ls at hl ⊢
  have hl : lv_has ls 2 [(0, .ref (a 24)), (1, .ref (a 3))] := hl
  refine lv_aload_n hex hbc dX2_copy_0 rfl (lv_at hl 0 rfl) ?_
  refine lv_aload_n hex hbc dX2_copy_1 rfl (lv_at hl 1 rfl) ?_
  refine va_get (v := .int (iI (σ 0 0))) hex hbc hts hin2 hown hK hP 3 rfl rfl 0 (by decide) (hts _ (List.mem_of_getElem? (i := 1) rfl)) (fun _ h => h) rfl dX2_copy_2 ?_
  refine va_put hex hbc hts hin2 tyX2 tyX2_ok nmX2 hown hK hP hD hS 24 rfl rfl 0 (by decide) (hts _ (List.mem_of_getElem? (i := 1) rfl)) (fun _ h => h) rfl (tyX2_ok 0 (by decide)) rfl rfl (Nat.le_of_ble_eq_true rfl) dX2_copy_5 (fun H locs hP hD hS => ?_)
  refine lv_aload_n hex hbc dX2_copy_8 rfl (lv_at hl 0 rfl) ?_
  refine lv_aload_n hex hbc dX2_copy_9 rfl (lv_at hl 1 rfl) ?_
  refine va_get (v := .int (iI (σ 0 74))) hex hbc hts hin2 hown hK hP 3 rfl rfl 1 (by decide) (hts _ (List.mem_of_getElem? (i := 2) rfl)) (fun _ h => h) rfl dX2_copy_10 ?_
  refine va_put hex hbc hts hin2 tyX2 tyX2_ok nmX2 hown hK hP hD hS 24 rfl rfl 1 (by decide) (hts _ (List.mem_of_getElem? (i := 2) rfl)) (fun _ h => h) rfl (tyX2_ok 1 (by decide)) rfl rfl (Nat.le_of_ble_eq_true rfl) dX2_copy_13 (fun H locs hP hD hS => ?_)
  refine lv_aload_n hex hbc dX2_copy_16 rfl (lv_at hl 1 rfl) ?_
  refine va_get (v := .ref (a 4)) hex hbc hts hin2 hown hK hP 3 rfl rfl 2 (by decide) (hts _ (List.mem_of_getElem? (i := 3) rfl)) (fun _ h => h) rfl dX2_copy_17 ?_
  refine lv_iconst (v := iI 0) hex hbc dX2_copy_20 rfl ?_
  refine lv_aload_n hex hbc dX2_copy_21 rfl (lv_at hl 0 rfl) ?_
  refine va_get (v := .ref (a 25)) hex hbc hts hin2 hown hK hP 24 rfl rfl 2 (by decide) (hts _ (List.mem_of_getElem? (i := 3) rfl)) (fun _ h => h) rfl dX2_copy_22 ?_
  refine lv_iconst (v := iI 0) hex hbc dX2_copy_25 rfl ?_
  refine lv_bipush (v := iI 64) hex hbc dX2_copy_26 (by decide) ?_
  refine va_copyi (f := aI (fun k => σ 0 (10 + k))) (g := aI (fun k => σ 1 (117 + k))) hex hbc (hml.trans hl.1.symm) hown (hts _ (List.mem_of_getElem? (i := 4) rfl)) (hts _ (List.mem_of_getElem? (i := 5) rfl)) (hts _ (List.mem_of_getElem? (i := 6) rfl)) (hts _ (List.mem_of_getElem? (i := 7) rfl)) hK hP hD hS 4 25 0 0 rfl rfl rfl rfl rfl (by decide) (by decide) (by decide) (by decide) (by decide) (fun _ _ => rfl) (Nat.le_of_ble_eq_true rfl) (by decide) dX2_copy_28 (fun H locs hP hD hS => ?_)
  refine lv_aload_n hex hbc dX2_copy_31 rfl (lv_at hl 1 rfl) ?_
  refine va_get (v := .ref (a 5)) hex hbc hts hin2 hown hK hP 3 rfl rfl 3 (by decide) (hts _ (List.mem_of_getElem? (i := 8) rfl)) (fun _ h => h) rfl dX2_copy_32 ?_
  refine lv_iconst (v := iI 0) hex hbc dX2_copy_35 rfl ?_
  refine lv_aload_n hex hbc dX2_copy_36 rfl (lv_at hl 0 rfl) ?_
  refine va_get (v := .ref (a 26)) hex hbc hts hin2 hown hK hP 24 rfl rfl 3 (by decide) (hts _ (List.mem_of_getElem? (i := 8) rfl)) (fun _ h => h) rfl dX2_copy_37 ?_
  refine lv_iconst (v := iI 0) hex hbc dX2_copy_40 rfl ?_
  refine lv_bipush (v := iI 9) hex hbc dX2_copy_41 (by decide) ?_
  refine va_copyi (f := aI (fun k => σ 0 (1 + k))) (g := aI (fun k => σ 1 (108 + k))) hex hbc (hml.trans hl.1.symm) hown (hts _ (List.mem_of_getElem? (i := 4) rfl)) (hts _ (List.mem_of_getElem? (i := 5) rfl)) (hts _ (List.mem_of_getElem? (i := 6) rfl)) (hts _ (List.mem_of_getElem? (i := 7) rfl)) hK hP hD hS 5 26 0 0 rfl rfl rfl rfl rfl (by decide) (by decide) (by decide) (by decide) (by decide) (fun _ _ => rfl) (Nat.le_of_ble_eq_true rfl) (by decide) dX2_copy_43 (fun H locs hP hD hS => ?_)
  refine lv_aload_n hex hbc dX2_copy_46 rfl (lv_at hl 1 rfl) ?_
  refine va_get (v := .ref (a 6)) hex hbc hts hin2 hown hK hP 3 rfl rfl 4 (by decide) (hts _ (List.mem_of_getElem? (i := 9) rfl)) (fun _ h => h) rfl dX2_copy_47 ?_
  refine lv_iconst (v := iI 0) hex hbc dX2_copy_50 rfl ?_
  refine lv_aload_n hex hbc dX2_copy_51 rfl (lv_at hl 0 rfl) ?_
  refine va_get (v := .ref (a 27)) hex hbc hts hin2 hown hK hP 24 rfl rfl 4 (by decide) (hts _ (List.mem_of_getElem? (i := 9) rfl)) (fun _ h => h) rfl dX2_copy_52 ?_
  refine lv_iconst (v := iI 0) hex hbc dX2_copy_55 rfl ?_
  refine lv_bipush (v := iI 16) hex hbc dX2_copy_56 (by decide) ?_
  refine va_copyi (f := aI (fun k => σ 0 (75 + k))) (g := aI (fun k => σ 1 (182 + k))) hex hbc (hml.trans hl.1.symm) hown (hts _ (List.mem_of_getElem? (i := 4) rfl)) (hts _ (List.mem_of_getElem? (i := 5) rfl)) (hts _ (List.mem_of_getElem? (i := 6) rfl)) (hts _ (List.mem_of_getElem? (i := 7) rfl)) hK hP hD hS 6 27 0 0 rfl rfl rfl rfl rfl (by decide) (by decide) (by decide) (by decide) (by decide) (fun _ _ => rfl) (Nat.le_of_ble_eq_true rfl) (by decide) dX2_copy_58 (fun H locs hP hD hS => ?_)
  refine lv_aload_n hex hbc dX2_copy_61 rfl (lv_at hl 1 rfl) ?_
  refine va_get (v := .ref (a 7)) hex hbc hts hin2 hown hK hP 3 rfl rfl 5 (by decide) (hts _ (List.mem_of_getElem? (i := 10) rfl)) (fun _ h => h) rfl dX2_copy_62 ?_
  refine lv_iconst (v := iI 0) hex hbc dX2_copy_65 rfl ?_
  refine lv_aload_n hex hbc dX2_copy_66 rfl (lv_at hl 0 rfl) ?_
  refine va_get (v := .ref (a 28)) hex hbc hts hin2 hown hK hP 24 rfl rfl 5 (by decide) (hts _ (List.mem_of_getElem? (i := 10) rfl)) (fun _ h => h) rfl dX2_copy_67 ?_
  refine lv_iconst (v := iI 0) hex hbc dX2_copy_70 rfl ?_
  refine lv_bipush (v := iI 16) hex hbc dX2_copy_71 (by decide) ?_
  refine va_copyi (f := aI (fun k => σ 0 (91 + k))) (g := aI (fun k => σ 1 (198 + k))) hex hbc (hml.trans hl.1.symm) hown (hts _ (List.mem_of_getElem? (i := 4) rfl)) (hts _ (List.mem_of_getElem? (i := 5) rfl)) (hts _ (List.mem_of_getElem? (i := 6) rfl)) (hts _ (List.mem_of_getElem? (i := 7) rfl)) hK hP hD hS 7 28 0 0 rfl rfl rfl rfl rfl (by decide) (by decide) (by decide) (by decide) (by decide) (fun _ _ => rfl) (Nat.le_of_ble_eq_true rfl) (by decide) dX2_copy_73 (fun H locs hP hD hS => ?_)
  have hP := leW_P (ws' := wx cx a (sc σ 1 (cpi (σ 1) (σ 0) 107))) (wx_cp_p1 (G := G) (cx := cx) (a := a) (σ := σ)) hP
  have hD := leW_D (ws' := wx cx a (sc σ 1 (cpi (σ 1) (σ 0) 107))) (wx_cp_p1 (G := G) (cx := cx) (a := a) (σ := σ)) hD
  exact g_vret hex hbc hrt hlocks hK hP hD hS rfl dX2_copy_76
set_option maxHeartbeats 4000000 in
set_option maxRecDepth 100000 in
theorem mX2_copy_p2 (l : Launch) (G : va_G) (cx a : Nat → Nat) (σ : Nat → Int → Int) : Met l yX2_copy wsX2_copy ({ frames := 1, cells := 0, slots := 0, locals := 60 }) (va_Pc [.ref (a 29), .ref (a 3)] (gW G (tx cx) (XA a) (wx cx a) σ)) (va_Qv (fun u => sc σ 1 (cpi (σ 1) (σ 0) 214) = u) (gW G (tx cx) (XA a) (wx cx a)) (XA a)) 0 0 (XA a) := by
  refine Met.ofW (cc := cX2_copy) (maxL := 2) (ret := none) (by decide) rfl ?_
  intro p e s m args below meth c s₁ B hml hv
  obtain ⟨rfl, hP, hK, hD⟩ := hv
  have hex := B.exec
  have hbc := B.bytes
  have hrt := B.returns
  have hts := atoms_spec (ws := wsX2_copy) B.pre
  have hown : s.vm.findClass RX2 = some m.cls := findClass_of_methodNamed B.named
  have hlocks := B.notSynchronized
  have hS : va_S (XA a) s.heap s.heap [] := va_S.rf
  have hin2 := iX2_copy_X2
  have hl := lv_entry ([.ref (a 29), .ref (a 3)]) (n := 2) (Nat.le_of_ble_eq_true rfl)
  rw [lg_entry_eq]
  generalize (lg_sl ([.ref (a 29), .ref (a 3)]) ++ List.replicate (2 - (lg_sl ([.ref (a 29), .ref (a 3)])).length) Slot.unset).toArray = ls at hl ⊢
  have hl : lv_has ls 2 [(0, .ref (a 29)), (1, .ref (a 3))] := hl
  refine lv_aload_n hex hbc dX2_copy_0 rfl (lv_at hl 0 rfl) ?_
  refine lv_aload_n hex hbc dX2_copy_1 rfl (lv_at hl 1 rfl) ?_
  refine va_get (v := .int (iI (σ 0 0))) hex hbc hts hin2 hown hK hP 3 rfl rfl 0 (by decide) (hts _ (List.mem_of_getElem? (i := 1) rfl)) (fun _ h => h) rfl dX2_copy_2 ?_
  refine va_put hex hbc hts hin2 tyX2 tyX2_ok nmX2 hown hK hP hD hS 29 rfl rfl 0 (by decide) (hts _ (List.mem_of_getElem? (i := 1) rfl)) (fun _ h => h) rfl (tyX2_ok 0 (by decide)) rfl rfl (Nat.le_of_ble_eq_true rfl) dX2_copy_5 (fun H locs hP hD hS => ?_)
  refine lv_aload_n hex hbc dX2_copy_8 rfl (lv_at hl 0 rfl) ?_
  refine lv_aload_n hex hbc dX2_copy_9 rfl (lv_at hl 1 rfl) ?_
  refine va_get (v := .int (iI (σ 0 74))) hex hbc hts hin2 hown hK hP 3 rfl rfl 1 (by decide) (hts _ (List.mem_of_getElem? (i := 2) rfl)) (fun _ h => h) rfl dX2_copy_10 ?_
  refine va_put hex hbc hts hin2 tyX2 tyX2_ok nmX2 hown hK hP hD hS 29 rfl rfl 1 (by decide) (hts _ (List.mem_of_getElem? (i := 2) rfl)) (fun _ h => h) rfl (tyX2_ok 1 (by decide)) rfl rfl (Nat.le_of_ble_eq_true rfl) dX2_copy_13 (fun H locs hP hD hS => ?_)
  refine lv_aload_n hex hbc dX2_copy_16 rfl (lv_at hl 1 rfl) ?_
  refine va_get (v := .ref (a 4)) hex hbc hts hin2 hown hK hP 3 rfl rfl 2 (by decide) (hts _ (List.mem_of_getElem? (i := 3) rfl)) (fun _ h => h) rfl dX2_copy_17 ?_
  refine lv_iconst (v := iI 0) hex hbc dX2_copy_20 rfl ?_
  refine lv_aload_n hex hbc dX2_copy_21 rfl (lv_at hl 0 rfl) ?_
  refine va_get (v := .ref (a 30)) hex hbc hts hin2 hown hK hP 29 rfl rfl 2 (by decide) (hts _ (List.mem_of_getElem? (i := 3) rfl)) (fun _ h => h) rfl dX2_copy_22 ?_
  refine lv_iconst (v := iI 0) hex hbc dX2_copy_25 rfl ?_
  refine lv_bipush (v := iI 64) hex hbc dX2_copy_26 (by decide) ?_
  refine va_copyi (f := aI (fun k => σ 0 (10 + k))) (g := aI (fun k => σ 1 (224 + k))) hex hbc (hml.trans hl.1.symm) hown (hts _ (List.mem_of_getElem? (i := 4) rfl)) (hts _ (List.mem_of_getElem? (i := 5) rfl)) (hts _ (List.mem_of_getElem? (i := 6) rfl)) (hts _ (List.mem_of_getElem? (i := 7) rfl)) hK hP hD hS 4 30 0 0 rfl rfl rfl rfl rfl (by decide) (by decide) (by decide) (by decide) (by decide) (fun _ _ => rfl) (Nat.le_of_ble_eq_true rfl) (by decide) dX2_copy_28 (fun H locs hP hD hS => ?_)
  refine lv_aload_n hex hbc dX2_copy_31 rfl (lv_at hl 1 rfl) ?_
  refine va_get (v := .ref (a 5)) hex hbc hts hin2 hown hK hP 3 rfl rfl 3 (by decide) (hts _ (List.mem_of_getElem? (i := 8) rfl)) (fun _ h => h) rfl dX2_copy_32 ?_
  refine lv_iconst (v := iI 0) hex hbc dX2_copy_35 rfl ?_
  refine lv_aload_n hex hbc dX2_copy_36 rfl (lv_at hl 0 rfl) ?_
  refine va_get (v := .ref (a 31)) hex hbc hts hin2 hown hK hP 29 rfl rfl 3 (by decide) (hts _ (List.mem_of_getElem? (i := 8) rfl)) (fun _ h => h) rfl dX2_copy_37 ?_
  refine lv_iconst (v := iI 0) hex hbc dX2_copy_40 rfl ?_
  refine lv_bipush (v := iI 9) hex hbc dX2_copy_41 (by decide) ?_
  refine va_copyi (f := aI (fun k => σ 0 (1 + k))) (g := aI (fun k => σ 1 (215 + k))) hex hbc (hml.trans hl.1.symm) hown (hts _ (List.mem_of_getElem? (i := 4) rfl)) (hts _ (List.mem_of_getElem? (i := 5) rfl)) (hts _ (List.mem_of_getElem? (i := 6) rfl)) (hts _ (List.mem_of_getElem? (i := 7) rfl)) hK hP hD hS 5 31 0 0 rfl rfl rfl rfl rfl (by decide) (by decide) (by decide) (by decide) (by decide) (fun _ _ => rfl) (Nat.le_of_ble_eq_true rfl) (by decide) dX2_copy_43 (fun H locs hP hD hS => ?_)
  refine lv_aload_n hex hbc dX2_copy_46 rfl (lv_at hl 1 rfl) ?_
  refine va_get (v := .ref (a 6)) hex hbc hts hin2 hown hK hP 3 rfl rfl 4 (by decide) (hts _ (List.mem_of_getElem? (i := 9) rfl)) (fun _ h => h) rfl dX2_copy_47 ?_
  refine lv_iconst (v := iI 0) hex hbc dX2_copy_50 rfl ?_
  refine lv_aload_n hex hbc dX2_copy_51 rfl (lv_at hl 0 rfl) ?_
  refine va_get (v := .ref (a 32)) hex hbc hts hin2 hown hK hP 29 rfl rfl 4 (by decide) (hts _ (List.mem_of_getElem? (i := 9) rfl)) (fun _ h => h) rfl dX2_copy_52 ?_
  refine lv_iconst (v := iI 0) hex hbc dX2_copy_55 rfl ?_
  refine lv_bipush (v := iI 16) hex hbc dX2_copy_56 (by decide) ?_
  refine va_copyi (f := aI (fun k => σ 0 (75 + k))) (g := aI (fun k => σ 1 (289 + k))) hex hbc (hml.trans hl.1.symm) hown (hts _ (List.mem_of_getElem? (i := 4) rfl)) (hts _ (List.mem_of_getElem? (i := 5) rfl)) (hts _ (List.mem_of_getElem? (i := 6) rfl)) (hts _ (List.mem_of_getElem? (i := 7) rfl)) hK hP hD hS 6 32 0 0 rfl rfl rfl rfl rfl (by decide) (by decide) (by decide) (by decide) (by decide) (fun _ _ => rfl) (Nat.le_of_ble_eq_true rfl) (by decide) dX2_copy_58 (fun H locs hP hD hS => ?_)
  refine lv_aload_n hex hbc dX2_copy_61 rfl (lv_at hl 1 rfl) ?_
  refine va_get (v := .ref (a 7)) hex hbc hts hin2 hown hK hP 3 rfl rfl 5 (by decide) (hts _ (List.mem_of_getElem? (i := 10) rfl)) (fun _ h => h) rfl dX2_copy_62 ?_
  refine lv_iconst (v := iI 0) hex hbc dX2_copy_65 rfl ?_
  refine lv_aload_n hex hbc dX2_copy_66 rfl (lv_at hl 0 rfl) ?_
  refine va_get (v := .ref (a 33)) hex hbc hts hin2 hown hK hP 29 rfl rfl 5 (by decide) (hts _ (List.mem_of_getElem? (i := 10) rfl)) (fun _ h => h) rfl dX2_copy_67 ?_
  refine lv_iconst (v := iI 0) hex hbc dX2_copy_70 rfl ?_
  refine lv_bipush (v := iI 16) hex hbc dX2_copy_71 (by decide) ?_
  refine va_copyi (f := aI (fun k => σ 0 (91 + k))) (g := aI (fun k => σ 1 (305 + k))) hex hbc (hml.trans hl.1.symm) hown (hts _ (List.mem_of_getElem? (i := 4) rfl)) (hts _ (List.mem_of_getElem? (i := 5) rfl)) (hts _ (List.mem_of_getElem? (i := 6) rfl)) (hts _ (List.mem_of_getElem? (i := 7) rfl)) hK hP hD hS 7 33 0 0 rfl rfl rfl rfl rfl (by decide) (by decide) (by decide) (by decide) (by decide) (fun _ _ => rfl) (Nat.le_of_ble_eq_true rfl) (by decide) dX2_copy_73 (fun H locs hP hD hS => ?_)
  have hP := leW_P (ws' := wx cx a (sc σ 1 (cpi (σ 1) (σ 0) 214))) (wx_cp_p2 (G := G) (cx := cx) (a := a) (σ := σ)) hP
  have hD := leW_D (ws' := wx cx a (sc σ 1 (cpi (σ 1) (σ 0) 214))) (wx_cp_p2 (G := G) (cx := cx) (a := a) (σ := σ)) hD
  exact g_vret hex hbc hrt hlocks hK hP hD hS rfl dX2_copy_76
set_option maxHeartbeats 4000000 in
set_option maxRecDepth 100000 in
theorem mX2_copy_p3 (l : Launch) (G : va_G) (cx a : Nat → Nat) (σ : Nat → Int → Int) : Met l yX2_copy wsX2_copy ({ frames := 1, cells := 0, slots := 0, locals := 60 }) (va_Pc [.ref (a 34), .ref (a 3)] (gW G (tx cx) (XA a) (wx cx a) σ)) (va_Qv (fun u => sc σ 1 (cpi (σ 1) (σ 0) 321) = u) (gW G (tx cx) (XA a) (wx cx a)) (XA a)) 0 0 (XA a) := by
  refine Met.ofW (cc := cX2_copy) (maxL := 2) (ret := none) (by decide) rfl ?_
  intro p e s m args below meth c s₁ B hml hv
  obtain ⟨rfl, hP, hK, hD⟩ := hv
  have hex := B.exec
  have hbc := B.bytes
  have hrt := B.returns
  have hts := atoms_spec (ws := wsX2_copy) B.pre
  have hown : s.vm.findClass RX2 = some m.cls := findClass_of_methodNamed B.named
  have hlocks := B.notSynchronized
  have hS : va_S (XA a) s.heap s.heap [] := va_S.rf
  have hin2 := iX2_copy_X2
  have hl := lv_entry ([.ref (a 34), .ref (a 3)]) (n := 2) (Nat.le_of_ble_eq_true rfl)
  rw [lg_entry_eq]
  generalize (lg_sl ([.ref (a 34), .ref (a 3)]) ++ List.replicate (2 - (lg_sl ([.ref (a 34), .ref (a 3)])).length) Slot.unset).toArray = ls at hl ⊢
  have hl : lv_has ls 2 [(0, .ref (a 34)), (1, .ref (a 3))] := hl
  refine lv_aload_n hex hbc dX2_copy_0 rfl (lv_at hl 0 rfl) ?_
  refine lv_aload_n hex hbc dX2_copy_1 rfl (lv_at hl 1 rfl) ?_
  refine va_get (v := .int (iI (σ 0 0))) hex hbc hts hin2 hown hK hP 3 rfl rfl 0 (by decide) (hts _ (List.mem_of_getElem? (i := 1) rfl)) (fun _ h => h) rfl dX2_copy_2 ?_
  refine va_put hex hbc hts hin2 tyX2 tyX2_ok nmX2 hown hK hP hD hS 34 rfl rfl 0 (by decide) (hts _ (List.mem_of_getElem? (i := 1) rfl)) (fun _ h => h) rfl (tyX2_ok 0 (by decide)) rfl rfl (Nat.le_of_ble_eq_true rfl) dX2_copy_5 (fun H locs hP hD hS => ?_)
  refine lv_aload_n hex hbc dX2_copy_8 rfl (lv_at hl 0 rfl) ?_
  refine lv_aload_n hex hbc dX2_copy_9 rfl (lv_at hl 1 rfl) ?_
  refine va_get (v := .int (iI (σ 0 74))) hex hbc hts hin2 hown hK hP 3 rfl rfl 1 (by decide) (hts _ (List.mem_of_getElem? (i := 2) rfl)) (fun _ h => h) rfl dX2_copy_10 ?_
  refine va_put hex hbc hts hin2 tyX2 tyX2_ok nmX2 hown hK hP hD hS 34 rfl rfl 1 (by decide) (hts _ (List.mem_of_getElem? (i := 2) rfl)) (fun _ h => h) rfl (tyX2_ok 1 (by decide)) rfl rfl (Nat.le_of_ble_eq_true rfl) dX2_copy_13 (fun H locs hP hD hS => ?_)
  refine lv_aload_n hex hbc dX2_copy_16 rfl (lv_at hl 1 rfl) ?_
  refine va_get (v := .ref (a 4)) hex hbc hts hin2 hown hK hP 3 rfl rfl 2 (by decide) (hts _ (List.mem_of_getElem? (i := 3) rfl)) (fun _ h => h) rfl dX2_copy_17 ?_
  refine lv_iconst (v := iI 0) hex hbc dX2_copy_20 rfl ?_
  refine lv_aload_n hex hbc dX2_copy_21 rfl (lv_at hl 0 rfl) ?_
  refine va_get (v := .ref (a 35)) hex hbc hts hin2 hown hK hP 34 rfl rfl 2 (by decide) (hts _ (List.mem_of_getElem? (i := 3) rfl)) (fun _ h => h) rfl dX2_copy_22 ?_
  refine lv_iconst (v := iI 0) hex hbc dX2_copy_25 rfl ?_
  refine lv_bipush (v := iI 64) hex hbc dX2_copy_26 (by decide) ?_
  refine va_copyi (f := aI (fun k => σ 0 (10 + k))) (g := aI (fun k => σ 1 (331 + k))) hex hbc (hml.trans hl.1.symm) hown (hts _ (List.mem_of_getElem? (i := 4) rfl)) (hts _ (List.mem_of_getElem? (i := 5) rfl)) (hts _ (List.mem_of_getElem? (i := 6) rfl)) (hts _ (List.mem_of_getElem? (i := 7) rfl)) hK hP hD hS 4 35 0 0 rfl rfl rfl rfl rfl (by decide) (by decide) (by decide) (by decide) (by decide) (fun _ _ => rfl) (Nat.le_of_ble_eq_true rfl) (by decide) dX2_copy_28 (fun H locs hP hD hS => ?_)
  refine lv_aload_n hex hbc dX2_copy_31 rfl (lv_at hl 1 rfl) ?_
  refine va_get (v := .ref (a 5)) hex hbc hts hin2 hown hK hP 3 rfl rfl 3 (by decide) (hts _ (List.mem_of_getElem? (i := 8) rfl)) (fun _ h => h) rfl dX2_copy_32 ?_
  refine lv_iconst (v := iI 0) hex hbc dX2_copy_35 rfl ?_
  refine lv_aload_n hex hbc dX2_copy_36 rfl (lv_at hl 0 rfl) ?_
  refine va_get (v := .ref (a 36)) hex hbc hts hin2 hown hK hP 34 rfl rfl 3 (by decide) (hts _ (List.mem_of_getElem? (i := 8) rfl)) (fun _ h => h) rfl dX2_copy_37 ?_
  refine lv_iconst (v := iI 0) hex hbc dX2_copy_40 rfl ?_
  refine lv_bipush (v := iI 9) hex hbc dX2_copy_41 (by decide) ?_
  refine va_copyi (f := aI (fun k => σ 0 (1 + k))) (g := aI (fun k => σ 1 (322 + k))) hex hbc (hml.trans hl.1.symm) hown (hts _ (List.mem_of_getElem? (i := 4) rfl)) (hts _ (List.mem_of_getElem? (i := 5) rfl)) (hts _ (List.mem_of_getElem? (i := 6) rfl)) (hts _ (List.mem_of_getElem? (i := 7) rfl)) hK hP hD hS 5 36 0 0 rfl rfl rfl rfl rfl (by decide) (by decide) (by decide) (by decide) (by decide) (fun _ _ => rfl) (Nat.le_of_ble_eq_true rfl) (by decide) dX2_copy_43 (fun H locs hP hD hS => ?_)
  refine lv_aload_n hex hbc dX2_copy_46 rfl (lv_at hl 1 rfl) ?_
  refine va_get (v := .ref (a 6)) hex hbc hts hin2 hown hK hP 3 rfl rfl 4 (by decide) (hts _ (List.mem_of_getElem? (i := 9) rfl)) (fun _ h => h) rfl dX2_copy_47 ?_
  refine lv_iconst (v := iI 0) hex hbc dX2_copy_50 rfl ?_
  refine lv_aload_n hex hbc dX2_copy_51 rfl (lv_at hl 0 rfl) ?_
  refine va_get (v := .ref (a 37)) hex hbc hts hin2 hown hK hP 34 rfl rfl 4 (by decide) (hts _ (List.mem_of_getElem? (i := 9) rfl)) (fun _ h => h) rfl dX2_copy_52 ?_
  refine lv_iconst (v := iI 0) hex hbc dX2_copy_55 rfl ?_
  refine lv_bipush (v := iI 16) hex hbc dX2_copy_56 (by decide) ?_
  refine va_copyi (f := aI (fun k => σ 0 (75 + k))) (g := aI (fun k => σ 1 (396 + k))) hex hbc (hml.trans hl.1.symm) hown (hts _ (List.mem_of_getElem? (i := 4) rfl)) (hts _ (List.mem_of_getElem? (i := 5) rfl)) (hts _ (List.mem_of_getElem? (i := 6) rfl)) (hts _ (List.mem_of_getElem? (i := 7) rfl)) hK hP hD hS 6 37 0 0 rfl rfl rfl rfl rfl (by decide) (by decide) (by decide) (by decide) (by decide) (fun _ _ => rfl) (Nat.le_of_ble_eq_true rfl) (by decide) dX2_copy_58 (fun H locs hP hD hS => ?_)
  refine lv_aload_n hex hbc dX2_copy_61 rfl (lv_at hl 1 rfl) ?_
  refine va_get (v := .ref (a 7)) hex hbc hts hin2 hown hK hP 3 rfl rfl 5 (by decide) (hts _ (List.mem_of_getElem? (i := 10) rfl)) (fun _ h => h) rfl dX2_copy_62 ?_
  refine lv_iconst (v := iI 0) hex hbc dX2_copy_65 rfl ?_
  refine lv_aload_n hex hbc dX2_copy_66 rfl (lv_at hl 0 rfl) ?_
  refine va_get (v := .ref (a 38)) hex hbc hts hin2 hown hK hP 34 rfl rfl 5 (by decide) (hts _ (List.mem_of_getElem? (i := 10) rfl)) (fun _ h => h) rfl dX2_copy_67 ?_
  refine lv_iconst (v := iI 0) hex hbc dX2_copy_70 rfl ?_
  refine lv_bipush (v := iI 16) hex hbc dX2_copy_71 (by decide) ?_
  refine va_copyi (f := aI (fun k => σ 0 (91 + k))) (g := aI (fun k => σ 1 (412 + k))) hex hbc (hml.trans hl.1.symm) hown (hts _ (List.mem_of_getElem? (i := 4) rfl)) (hts _ (List.mem_of_getElem? (i := 5) rfl)) (hts _ (List.mem_of_getElem? (i := 6) rfl)) (hts _ (List.mem_of_getElem? (i := 7) rfl)) hK hP hD hS 7 38 0 0 rfl rfl rfl rfl rfl (by decide) (by decide) (by decide) (by decide) (by decide) (fun _ _ => rfl) (Nat.le_of_ble_eq_true rfl) (by decide) dX2_copy_73 (fun H locs hP hD hS => ?_)
  have hP := leW_P (ws' := wx cx a (sc σ 1 (cpi (σ 1) (σ 0) 321))) (wx_cp_p3 (G := G) (cx := cx) (a := a) (σ := σ)) hP
  have hD := leW_D (ws' := wx cx a (sc σ 1 (cpi (σ 1) (σ 0) 321))) (wx_cp_p3 (G := G) (cx := cx) (a := a) (σ := σ)) hD
  exact g_vret hex hbc hrt hlocks hK hP hD hS rfl dX2_copy_76
set_option maxHeartbeats 4000000 in
set_option maxRecDepth 100000 in
theorem mX2_copy_p4 (l : Launch) (G : va_G) (cx a : Nat → Nat) (σ : Nat → Int → Int) : Met l yX2_copy wsX2_copy ({ frames := 1, cells := 0, slots := 0, locals := 60 }) (va_Pc [.ref (a 39), .ref (a 3)] (gW G (tx cx) (XA a) (wx cx a) σ)) (va_Qv (fun u => sc σ 1 (cpi (σ 1) (σ 0) 428) = u) (gW G (tx cx) (XA a) (wx cx a)) (XA a)) 0 0 (XA a) := by
  refine Met.ofW (cc := cX2_copy) (maxL := 2) (ret := none) (by decide) rfl ?_
  intro p e s m args below meth c s₁ B hml hv
  obtain ⟨rfl, hP, hK, hD⟩ := hv
  have hex := B.exec
  have hbc := B.bytes
  have hrt := B.returns
  have hts := atoms_spec (ws := wsX2_copy) B.pre
  have hown : s.vm.findClass RX2 = some m.cls := findClass_of_methodNamed B.named
  have hlocks := B.notSynchronized
  have hS : va_S (XA a) s.heap s.heap [] := va_S.rf
  have hin2 := iX2_copy_X2
  have hl := lv_entry ([.ref (a 39), .ref (a 3)]) (n := 2) (Nat.le_of_ble_eq_true rfl)
  rw [lg_entry_eq]
  generalize (lg_sl ([.ref (a 39), .ref (a 3)]) ++ List.replicate (2 - (lg_sl ([.ref (a 39), .ref (a 3)])).length) Slot.unset).toArray = ls at hl ⊢
  have hl : lv_has ls 2 [(0, .ref (a 39)), (1, .ref (a 3))] := hl
  refine lv_aload_n hex hbc dX2_copy_0 rfl (lv_at hl 0 rfl) ?_
  refine lv_aload_n hex hbc dX2_copy_1 rfl (lv_at hl 1 rfl) ?_
  refine va_get (v := .int (iI (σ 0 0))) hex hbc hts hin2 hown hK hP 3 rfl rfl 0 (by decide) (hts _ (List.mem_of_getElem? (i := 1) rfl)) (fun _ h => h) rfl dX2_copy_2 ?_
  refine va_put hex hbc hts hin2 tyX2 tyX2_ok nmX2 hown hK hP hD hS 39 rfl rfl 0 (by decide) (hts _ (List.mem_of_getElem? (i := 1) rfl)) (fun _ h => h) rfl (tyX2_ok 0 (by decide)) rfl rfl (Nat.le_of_ble_eq_true rfl) dX2_copy_5 (fun H locs hP hD hS => ?_)
  refine lv_aload_n hex hbc dX2_copy_8 rfl (lv_at hl 0 rfl) ?_
  refine lv_aload_n hex hbc dX2_copy_9 rfl (lv_at hl 1 rfl) ?_
  refine va_get (v := .int (iI (σ 0 74))) hex hbc hts hin2 hown hK hP 3 rfl rfl 1 (by decide) (hts _ (List.mem_of_getElem? (i := 2) rfl)) (fun _ h => h) rfl dX2_copy_10 ?_
  refine va_put hex hbc hts hin2 tyX2 tyX2_ok nmX2 hown hK hP hD hS 39 rfl rfl 1 (by decide) (hts _ (List.mem_of_getElem? (i := 2) rfl)) (fun _ h => h) rfl (tyX2_ok 1 (by decide)) rfl rfl (Nat.le_of_ble_eq_true rfl) dX2_copy_13 (fun H locs hP hD hS => ?_)
  refine lv_aload_n hex hbc dX2_copy_16 rfl (lv_at hl 1 rfl) ?_
  refine va_get (v := .ref (a 4)) hex hbc hts hin2 hown hK hP 3 rfl rfl 2 (by decide) (hts _ (List.mem_of_getElem? (i := 3) rfl)) (fun _ h => h) rfl dX2_copy_17 ?_
  refine lv_iconst (v := iI 0) hex hbc dX2_copy_20 rfl ?_
  refine lv_aload_n hex hbc dX2_copy_21 rfl (lv_at hl 0 rfl) ?_
  refine va_get (v := .ref (a 40)) hex hbc hts hin2 hown hK hP 39 rfl rfl 2 (by decide) (hts _ (List.mem_of_getElem? (i := 3) rfl)) (fun _ h => h) rfl dX2_copy_22 ?_
  refine lv_iconst (v := iI 0) hex hbc dX2_copy_25 rfl ?_
  refine lv_bipush (v := iI 64) hex hbc dX2_copy_26 (by decide) ?_
  refine va_copyi (f := aI (fun k => σ 0 (10 + k))) (g := aI (fun k => σ 1 (438 + k))) hex hbc (hml.trans hl.1.symm) hown (hts _ (List.mem_of_getElem? (i := 4) rfl)) (hts _ (List.mem_of_getElem? (i := 5) rfl)) (hts _ (List.mem_of_getElem? (i := 6) rfl)) (hts _ (List.mem_of_getElem? (i := 7) rfl)) hK hP hD hS 4 40 0 0 rfl rfl rfl rfl rfl (by decide) (by decide) (by decide) (by decide) (by decide) (fun _ _ => rfl) (Nat.le_of_ble_eq_true rfl) (by decide) dX2_copy_28 (fun H locs hP hD hS => ?_)
  refine lv_aload_n hex hbc dX2_copy_31 rfl (lv_at hl 1 rfl) ?_
  refine va_get (v := .ref (a 5)) hex hbc hts hin2 hown hK hP 3 rfl rfl 3 (by decide) (hts _ (List.mem_of_getElem? (i := 8) rfl)) (fun _ h => h) rfl dX2_copy_32 ?_
  refine lv_iconst (v := iI 0) hex hbc dX2_copy_35 rfl ?_
  refine lv_aload_n hex hbc dX2_copy_36 rfl (lv_at hl 0 rfl) ?_
  refine va_get (v := .ref (a 41)) hex hbc hts hin2 hown hK hP 39 rfl rfl 3 (by decide) (hts _ (List.mem_of_getElem? (i := 8) rfl)) (fun _ h => h) rfl dX2_copy_37 ?_
  refine lv_iconst (v := iI 0) hex hbc dX2_copy_40 rfl ?_
  refine lv_bipush (v := iI 9) hex hbc dX2_copy_41 (by decide) ?_
  refine va_copyi (f := aI (fun k => σ 0 (1 + k))) (g := aI (fun k => σ 1 (429 + k))) hex hbc (hml.trans hl.1.symm) hown (hts _ (List.mem_of_getElem? (i := 4) rfl)) (hts _ (List.mem_of_getElem? (i := 5) rfl)) (hts _ (List.mem_of_getElem? (i := 6) rfl)) (hts _ (List.mem_of_getElem? (i := 7) rfl)) hK hP hD hS 5 41 0 0 rfl rfl rfl rfl rfl (by decide) (by decide) (by decide) (by decide) (by decide) (fun _ _ => rfl) (Nat.le_of_ble_eq_true rfl) (by decide) dX2_copy_43 (fun H locs hP hD hS => ?_)
  refine lv_aload_n hex hbc dX2_copy_46 rfl (lv_at hl 1 rfl) ?_
  refine va_get (v := .ref (a 6)) hex hbc hts hin2 hown hK hP 3 rfl rfl 4 (by decide) (hts _ (List.mem_of_getElem? (i := 9) rfl)) (fun _ h => h) rfl dX2_copy_47 ?_
  refine lv_iconst (v := iI 0) hex hbc dX2_copy_50 rfl ?_
  refine lv_aload_n hex hbc dX2_copy_51 rfl (lv_at hl 0 rfl) ?_
  refine va_get (v := .ref (a 42)) hex hbc hts hin2 hown hK hP 39 rfl rfl 4 (by decide) (hts _ (List.mem_of_getElem? (i := 9) rfl)) (fun _ h => h) rfl dX2_copy_52 ?_
  refine lv_iconst (v := iI 0) hex hbc dX2_copy_55 rfl ?_
  refine lv_bipush (v := iI 16) hex hbc dX2_copy_56 (by decide) ?_
  refine va_copyi (f := aI (fun k => σ 0 (75 + k))) (g := aI (fun k => σ 1 (503 + k))) hex hbc (hml.trans hl.1.symm) hown (hts _ (List.mem_of_getElem? (i := 4) rfl)) (hts _ (List.mem_of_getElem? (i := 5) rfl)) (hts _ (List.mem_of_getElem? (i := 6) rfl)) (hts _ (List.mem_of_getElem? (i := 7) rfl)) hK hP hD hS 6 42 0 0 rfl rfl rfl rfl rfl (by decide) (by decide) (by decide) (by decide) (by decide) (fun _ _ => rfl) (Nat.le_of_ble_eq_true rfl) (by decide) dX2_copy_58 (fun H locs hP hD hS => ?_)
  refine lv_aload_n hex hbc dX2_copy_61 rfl (lv_at hl 1 rfl) ?_
  refine va_get (v := .ref (a 7)) hex hbc hts hin2 hown hK hP 3 rfl rfl 5 (by decide) (hts _ (List.mem_of_getElem? (i := 10) rfl)) (fun _ h => h) rfl dX2_copy_62 ?_
  refine lv_iconst (v := iI 0) hex hbc dX2_copy_65 rfl ?_
  refine lv_aload_n hex hbc dX2_copy_66 rfl (lv_at hl 0 rfl) ?_
  refine va_get (v := .ref (a 43)) hex hbc hts hin2 hown hK hP 39 rfl rfl 5 (by decide) (hts _ (List.mem_of_getElem? (i := 10) rfl)) (fun _ h => h) rfl dX2_copy_67 ?_
  refine lv_iconst (v := iI 0) hex hbc dX2_copy_70 rfl ?_
  refine lv_bipush (v := iI 16) hex hbc dX2_copy_71 (by decide) ?_
  refine va_copyi (f := aI (fun k => σ 0 (91 + k))) (g := aI (fun k => σ 1 (519 + k))) hex hbc (hml.trans hl.1.symm) hown (hts _ (List.mem_of_getElem? (i := 4) rfl)) (hts _ (List.mem_of_getElem? (i := 5) rfl)) (hts _ (List.mem_of_getElem? (i := 6) rfl)) (hts _ (List.mem_of_getElem? (i := 7) rfl)) hK hP hD hS 7 43 0 0 rfl rfl rfl rfl rfl (by decide) (by decide) (by decide) (by decide) (by decide) (fun _ _ => rfl) (Nat.le_of_ble_eq_true rfl) (by decide) dX2_copy_73 (fun H locs hP hD hS => ?_)
  have hP := leW_P (ws' := wx cx a (sc σ 1 (cpi (σ 1) (σ 0) 428))) (wx_cp_p4 (G := G) (cx := cx) (a := a) (σ := σ)) hP
  have hD := leW_D (ws' := wx cx a (sc σ 1 (cpi (σ 1) (σ 0) 428))) (wx_cp_p4 (G := G) (cx := cx) (a := a) (σ := σ)) hD
  exact g_vret hex hbc hrt hlocks hK hP hD hS rfl dX2_copy_76
set_option maxHeartbeats 4000000 in
set_option maxRecDepth 100000 in
theorem mX2_copy_p5 (l : Launch) (G : va_G) (cx a : Nat → Nat) (σ : Nat → Int → Int) : Met l yX2_copy wsX2_copy ({ frames := 1, cells := 0, slots := 0, locals := 60 }) (va_Pc [.ref (a 44), .ref (a 3)] (gW G (tx cx) (XA a) (wx cx a) σ)) (va_Qv (fun u => sc σ 1 (cpi (σ 1) (σ 0) 535) = u) (gW G (tx cx) (XA a) (wx cx a)) (XA a)) 0 0 (XA a) := by
  refine Met.ofW (cc := cX2_copy) (maxL := 2) (ret := none) (by decide) rfl ?_
  intro p e s m args below meth c s₁ B hml hv
  obtain ⟨rfl, hP, hK, hD⟩ := hv
  have hex := B.exec
  have hbc := B.bytes
  have hrt := B.returns
  have hts := atoms_spec (ws := wsX2_copy) B.pre
  have hown : s.vm.findClass RX2 = some m.cls := findClass_of_methodNamed B.named
  have hlocks := B.notSynchronized
  have hS : va_S (XA a) s.heap s.heap [] := va_S.rf
  have hin2 := iX2_copy_X2
  have hl := lv_entry ([.ref (a 44), .ref (a 3)]) (n := 2) (Nat.le_of_ble_eq_true rfl)
  rw [lg_entry_eq]
  generalize (lg_sl ([.ref (a 44), .ref (a 3)]) ++ List.replicate (2 - (lg_sl ([.ref (a 44), .ref (a 3)])).length) Slot.unset).toArray = ls at hl ⊢
  have hl : lv_has ls 2 [(0, .ref (a 44)), (1, .ref (a 3))] := hl
  refine lv_aload_n hex hbc dX2_copy_0 rfl (lv_at hl 0 rfl) ?_
  refine lv_aload_n hex hbc dX2_copy_1 rfl (lv_at hl 1 rfl) ?_
  refine va_get (v := .int (iI (σ 0 0))) hex hbc hts hin2 hown hK hP 3 rfl rfl 0 (by decide) (hts _ (List.mem_of_getElem? (i := 1) rfl)) (fun _ h => h) rfl dX2_copy_2 ?_
  refine va_put hex hbc hts hin2 tyX2 tyX2_ok nmX2 hown hK hP hD hS 44 rfl rfl 0 (by decide) (hts _ (List.mem_of_getElem? (i := 1) rfl)) (fun _ h => h) rfl (tyX2_ok 0 (by decide)) rfl rfl (Nat.le_of_ble_eq_true rfl) dX2_copy_5 (fun H locs hP hD hS => ?_)
  refine lv_aload_n hex hbc dX2_copy_8 rfl (lv_at hl 0 rfl) ?_
  refine lv_aload_n hex hbc dX2_copy_9 rfl (lv_at hl 1 rfl) ?_
  refine va_get (v := .int (iI (σ 0 74))) hex hbc hts hin2 hown hK hP 3 rfl rfl 1 (by decide) (hts _ (List.mem_of_getElem? (i := 2) rfl)) (fun _ h => h) rfl dX2_copy_10 ?_
  refine va_put hex hbc hts hin2 tyX2 tyX2_ok nmX2 hown hK hP hD hS 44 rfl rfl 1 (by decide) (hts _ (List.mem_of_getElem? (i := 2) rfl)) (fun _ h => h) rfl (tyX2_ok 1 (by decide)) rfl rfl (Nat.le_of_ble_eq_true rfl) dX2_copy_13 (fun H locs hP hD hS => ?_)
  refine lv_aload_n hex hbc dX2_copy_16 rfl (lv_at hl 1 rfl) ?_
  refine va_get (v := .ref (a 4)) hex hbc hts hin2 hown hK hP 3 rfl rfl 2 (by decide) (hts _ (List.mem_of_getElem? (i := 3) rfl)) (fun _ h => h) rfl dX2_copy_17 ?_
  refine lv_iconst (v := iI 0) hex hbc dX2_copy_20 rfl ?_
  refine lv_aload_n hex hbc dX2_copy_21 rfl (lv_at hl 0 rfl) ?_
  refine va_get (v := .ref (a 45)) hex hbc hts hin2 hown hK hP 44 rfl rfl 2 (by decide) (hts _ (List.mem_of_getElem? (i := 3) rfl)) (fun _ h => h) rfl dX2_copy_22 ?_
  refine lv_iconst (v := iI 0) hex hbc dX2_copy_25 rfl ?_
  refine lv_bipush (v := iI 64) hex hbc dX2_copy_26 (by decide) ?_
  refine va_copyi (f := aI (fun k => σ 0 (10 + k))) (g := aI (fun k => σ 1 (545 + k))) hex hbc (hml.trans hl.1.symm) hown (hts _ (List.mem_of_getElem? (i := 4) rfl)) (hts _ (List.mem_of_getElem? (i := 5) rfl)) (hts _ (List.mem_of_getElem? (i := 6) rfl)) (hts _ (List.mem_of_getElem? (i := 7) rfl)) hK hP hD hS 4 45 0 0 rfl rfl rfl rfl rfl (by decide) (by decide) (by decide) (by decide) (by decide) (fun _ _ => rfl) (Nat.le_of_ble_eq_true rfl) (by decide) dX2_copy_28 (fun H locs hP hD hS => ?_)
  refine lv_aload_n hex hbc dX2_copy_31 rfl (lv_at hl 1 rfl) ?_
  refine va_get (v := .ref (a 5)) hex hbc hts hin2 hown hK hP 3 rfl rfl 3 (by decide) (hts _ (List.mem_of_getElem? (i := 8) rfl)) (fun _ h => h) rfl dX2_copy_32 ?_
  refine lv_iconst (v := iI 0) hex hbc dX2_copy_35 rfl ?_
  refine lv_aload_n hex hbc dX2_copy_36 rfl (lv_at hl 0 rfl) ?_
  refine va_get (v := .ref (a 46)) hex hbc hts hin2 hown hK hP 44 rfl rfl 3 (by decide) (hts _ (List.mem_of_getElem? (i := 8) rfl)) (fun _ h => h) rfl dX2_copy_37 ?_
  refine lv_iconst (v := iI 0) hex hbc dX2_copy_40 rfl ?_
  refine lv_bipush (v := iI 9) hex hbc dX2_copy_41 (by decide) ?_
  refine va_copyi (f := aI (fun k => σ 0 (1 + k))) (g := aI (fun k => σ 1 (536 + k))) hex hbc (hml.trans hl.1.symm) hown (hts _ (List.mem_of_getElem? (i := 4) rfl)) (hts _ (List.mem_of_getElem? (i := 5) rfl)) (hts _ (List.mem_of_getElem? (i := 6) rfl)) (hts _ (List.mem_of_getElem? (i := 7) rfl)) hK hP hD hS 5 46 0 0 rfl rfl rfl rfl rfl (by decide) (by decide) (by decide) (by decide) (by decide) (fun _ _ => rfl) (Nat.le_of_ble_eq_true rfl) (by decide) dX2_copy_43 (fun H locs hP hD hS => ?_)
  refine lv_aload_n hex hbc dX2_copy_46 rfl (lv_at hl 1 rfl) ?_
  refine va_get (v := .ref (a 6)) hex hbc hts hin2 hown hK hP 3 rfl rfl 4 (by decide) (hts _ (List.mem_of_getElem? (i := 9) rfl)) (fun _ h => h) rfl dX2_copy_47 ?_
  refine lv_iconst (v := iI 0) hex hbc dX2_copy_50 rfl ?_
  refine lv_aload_n hex hbc dX2_copy_51 rfl (lv_at hl 0 rfl) ?_
  refine va_get (v := .ref (a 47)) hex hbc hts hin2 hown hK hP 44 rfl rfl 4 (by decide) (hts _ (List.mem_of_getElem? (i := 9) rfl)) (fun _ h => h) rfl dX2_copy_52 ?_
  refine lv_iconst (v := iI 0) hex hbc dX2_copy_55 rfl ?_
  refine lv_bipush (v := iI 16) hex hbc dX2_copy_56 (by decide) ?_
  refine va_copyi (f := aI (fun k => σ 0 (75 + k))) (g := aI (fun k => σ 1 (610 + k))) hex hbc (hml.trans hl.1.symm) hown (hts _ (List.mem_of_getElem? (i := 4) rfl)) (hts _ (List.mem_of_getElem? (i := 5) rfl)) (hts _ (List.mem_of_getElem? (i := 6) rfl)) (hts _ (List.mem_of_getElem? (i := 7) rfl)) hK hP hD hS 6 47 0 0 rfl rfl rfl rfl rfl (by decide) (by decide) (by decide) (by decide) (by decide) (fun _ _ => rfl) (Nat.le_of_ble_eq_true rfl) (by decide) dX2_copy_58 (fun H locs hP hD hS => ?_)
  refine lv_aload_n hex hbc dX2_copy_61 rfl (lv_at hl 1 rfl) ?_
  refine va_get (v := .ref (a 7)) hex hbc hts hin2 hown hK hP 3 rfl rfl 5 (by decide) (hts _ (List.mem_of_getElem? (i := 10) rfl)) (fun _ h => h) rfl dX2_copy_62 ?_
  refine lv_iconst (v := iI 0) hex hbc dX2_copy_65 rfl ?_
  refine lv_aload_n hex hbc dX2_copy_66 rfl (lv_at hl 0 rfl) ?_
  refine va_get (v := .ref (a 48)) hex hbc hts hin2 hown hK hP 44 rfl rfl 5 (by decide) (hts _ (List.mem_of_getElem? (i := 10) rfl)) (fun _ h => h) rfl dX2_copy_67 ?_
  refine lv_iconst (v := iI 0) hex hbc dX2_copy_70 rfl ?_
  refine lv_bipush (v := iI 16) hex hbc dX2_copy_71 (by decide) ?_
  refine va_copyi (f := aI (fun k => σ 0 (91 + k))) (g := aI (fun k => σ 1 (626 + k))) hex hbc (hml.trans hl.1.symm) hown (hts _ (List.mem_of_getElem? (i := 4) rfl)) (hts _ (List.mem_of_getElem? (i := 5) rfl)) (hts _ (List.mem_of_getElem? (i := 6) rfl)) (hts _ (List.mem_of_getElem? (i := 7) rfl)) hK hP hD hS 7 48 0 0 rfl rfl rfl rfl rfl (by decide) (by decide) (by decide) (by decide) (by decide) (fun _ _ => rfl) (Nat.le_of_ble_eq_true rfl) (by decide) dX2_copy_73 (fun H locs hP hD hS => ?_)
  have hP := leW_P (ws' := wx cx a (sc σ 1 (cpi (σ 1) (σ 0) 535))) (wx_cp_p5 (G := G) (cx := cx) (a := a) (σ := σ)) hP
  have hD := leW_D (ws' := wx cx a (sc σ 1 (cpi (σ 1) (σ 0) 535))) (wx_cp_p5 (G := G) (cx := cx) (a := a) (σ := σ)) hD
  exact g_vret hex hbc hrt hlocks hK hP hD hS rfl dX2_copy_76
set_option maxHeartbeats 4000000 in
set_option maxRecDepth 100000 in
theorem mX2_copy_p6 (l : Launch) (G : va_G) (cx a : Nat → Nat) (σ : Nat → Int → Int) : Met l yX2_copy wsX2_copy ({ frames := 1, cells := 0, slots := 0, locals := 60 }) (va_Pc [.ref (a 49), .ref (a 3)] (gW G (tx cx) (XA a) (wx cx a) σ)) (va_Qv (fun u => sc σ 1 (cpi (σ 1) (σ 0) 642) = u) (gW G (tx cx) (XA a) (wx cx a)) (XA a)) 0 0 (XA a) := by
  refine Met.ofW (cc := cX2_copy) (maxL := 2) (ret := none) (by decide) rfl ?_
  intro p e s m args below meth c s₁ B hml hv
  obtain ⟨rfl, hP, hK, hD⟩ := hv
  have hex := B.exec
  have hbc := B.bytes
  have hrt := B.returns
  have hts := atoms_spec (ws := wsX2_copy) B.pre
  have hown : s.vm.findClass RX2 = some m.cls := findClass_of_methodNamed B.named
  have hlocks := B.notSynchronized
  have hS : va_S (XA a) s.heap s.heap [] := va_S.rf
  have hin2 := iX2_copy_X2
  have hl := lv_entry ([.ref (a 49), .ref (a 3)]) (n := 2) (Nat.le_of_ble_eq_true rfl)
  rw [lg_entry_eq]
  generalize (lg_sl ([.ref (a 49), .ref (a 3)]) ++ List.replicate (2 - (lg_sl ([.ref (a 49), .ref (a 3)])).length) Slot.unset).toArray = ls at hl ⊢
  have hl : lv_has ls 2 [(0, .ref (a 49)), (1, .ref (a 3))] := hl
  refine lv_aload_n hex hbc dX2_copy_0 rfl (lv_at hl 0 rfl) ?_
  refine lv_aload_n hex hbc dX2_copy_1 rfl (lv_at hl 1 rfl) ?_
  refine va_get (v := .int (iI (σ 0 0))) hex hbc hts hin2 hown hK hP 3 rfl rfl 0 (by decide) (hts _ (List.mem_of_getElem? (i := 1) rfl)) (fun _ h => h) rfl dX2_copy_2 ?_
  refine va_put hex hbc hts hin2 tyX2 tyX2_ok nmX2 hown hK hP hD hS 49 rfl rfl 0 (by decide) (hts _ (List.mem_of_getElem? (i := 1) rfl)) (fun _ h => h) rfl (tyX2_ok 0 (by decide)) rfl rfl (Nat.le_of_ble_eq_true rfl) dX2_copy_5 (fun H locs hP hD hS => ?_)
  refine lv_aload_n hex hbc dX2_copy_8 rfl (lv_at hl 0 rfl) ?_
  refine lv_aload_n hex hbc dX2_copy_9 rfl (lv_at hl 1 rfl) ?_
  refine va_get (v := .int (iI (σ 0 74))) hex hbc hts hin2 hown hK hP 3 rfl rfl 1 (by decide) (hts _ (List.mem_of_getElem? (i := 2) rfl)) (fun _ h => h) rfl dX2_copy_10 ?_
  refine va_put hex hbc hts hin2 tyX2 tyX2_ok nmX2 hown hK hP hD hS 49 rfl rfl 1 (by decide) (hts _ (List.mem_of_getElem? (i := 2) rfl)) (fun _ h => h) rfl (tyX2_ok 1 (by decide)) rfl rfl (Nat.le_of_ble_eq_true rfl) dX2_copy_13 (fun H locs hP hD hS => ?_)
  refine lv_aload_n hex hbc dX2_copy_16 rfl (lv_at hl 1 rfl) ?_
  refine va_get (v := .ref (a 4)) hex hbc hts hin2 hown hK hP 3 rfl rfl 2 (by decide) (hts _ (List.mem_of_getElem? (i := 3) rfl)) (fun _ h => h) rfl dX2_copy_17 ?_
  refine lv_iconst (v := iI 0) hex hbc dX2_copy_20 rfl ?_
  refine lv_aload_n hex hbc dX2_copy_21 rfl (lv_at hl 0 rfl) ?_
  refine va_get (v := .ref (a 50)) hex hbc hts hin2 hown hK hP 49 rfl rfl 2 (by decide) (hts _ (List.mem_of_getElem? (i := 3) rfl)) (fun _ h => h) rfl dX2_copy_22 ?_
  refine lv_iconst (v := iI 0) hex hbc dX2_copy_25 rfl ?_
  refine lv_bipush (v := iI 64) hex hbc dX2_copy_26 (by decide) ?_
  refine va_copyi (f := aI (fun k => σ 0 (10 + k))) (g := aI (fun k => σ 1 (652 + k))) hex hbc (hml.trans hl.1.symm) hown (hts _ (List.mem_of_getElem? (i := 4) rfl)) (hts _ (List.mem_of_getElem? (i := 5) rfl)) (hts _ (List.mem_of_getElem? (i := 6) rfl)) (hts _ (List.mem_of_getElem? (i := 7) rfl)) hK hP hD hS 4 50 0 0 rfl rfl rfl rfl rfl (by decide) (by decide) (by decide) (by decide) (by decide) (fun _ _ => rfl) (Nat.le_of_ble_eq_true rfl) (by decide) dX2_copy_28 (fun H locs hP hD hS => ?_)
  refine lv_aload_n hex hbc dX2_copy_31 rfl (lv_at hl 1 rfl) ?_
  refine va_get (v := .ref (a 5)) hex hbc hts hin2 hown hK hP 3 rfl rfl 3 (by decide) (hts _ (List.mem_of_getElem? (i := 8) rfl)) (fun _ h => h) rfl dX2_copy_32 ?_
  refine lv_iconst (v := iI 0) hex hbc dX2_copy_35 rfl ?_
  refine lv_aload_n hex hbc dX2_copy_36 rfl (lv_at hl 0 rfl) ?_
  refine va_get (v := .ref (a 51)) hex hbc hts hin2 hown hK hP 49 rfl rfl 3 (by decide) (hts _ (List.mem_of_getElem? (i := 8) rfl)) (fun _ h => h) rfl dX2_copy_37 ?_
  refine lv_iconst (v := iI 0) hex hbc dX2_copy_40 rfl ?_
  refine lv_bipush (v := iI 9) hex hbc dX2_copy_41 (by decide) ?_
  refine va_copyi (f := aI (fun k => σ 0 (1 + k))) (g := aI (fun k => σ 1 (643 + k))) hex hbc (hml.trans hl.1.symm) hown (hts _ (List.mem_of_getElem? (i := 4) rfl)) (hts _ (List.mem_of_getElem? (i := 5) rfl)) (hts _ (List.mem_of_getElem? (i := 6) rfl)) (hts _ (List.mem_of_getElem? (i := 7) rfl)) hK hP hD hS 5 51 0 0 rfl rfl rfl rfl rfl (by decide) (by decide) (by decide) (by decide) (by decide) (fun _ _ => rfl) (Nat.le_of_ble_eq_true rfl) (by decide) dX2_copy_43 (fun H locs hP hD hS => ?_)
  refine lv_aload_n hex hbc dX2_copy_46 rfl (lv_at hl 1 rfl) ?_
  refine va_get (v := .ref (a 6)) hex hbc hts hin2 hown hK hP 3 rfl rfl 4 (by decide) (hts _ (List.mem_of_getElem? (i := 9) rfl)) (fun _ h => h) rfl dX2_copy_47 ?_
  refine lv_iconst (v := iI 0) hex hbc dX2_copy_50 rfl ?_
  refine lv_aload_n hex hbc dX2_copy_51 rfl (lv_at hl 0 rfl) ?_
  refine va_get (v := .ref (a 52)) hex hbc hts hin2 hown hK hP 49 rfl rfl 4 (by decide) (hts _ (List.mem_of_getElem? (i := 9) rfl)) (fun _ h => h) rfl dX2_copy_52 ?_
  refine lv_iconst (v := iI 0) hex hbc dX2_copy_55 rfl ?_
  refine lv_bipush (v := iI 16) hex hbc dX2_copy_56 (by decide) ?_
  refine va_copyi (f := aI (fun k => σ 0 (75 + k))) (g := aI (fun k => σ 1 (717 + k))) hex hbc (hml.trans hl.1.symm) hown (hts _ (List.mem_of_getElem? (i := 4) rfl)) (hts _ (List.mem_of_getElem? (i := 5) rfl)) (hts _ (List.mem_of_getElem? (i := 6) rfl)) (hts _ (List.mem_of_getElem? (i := 7) rfl)) hK hP hD hS 6 52 0 0 rfl rfl rfl rfl rfl (by decide) (by decide) (by decide) (by decide) (by decide) (fun _ _ => rfl) (Nat.le_of_ble_eq_true rfl) (by decide) dX2_copy_58 (fun H locs hP hD hS => ?_)
  refine lv_aload_n hex hbc dX2_copy_61 rfl (lv_at hl 1 rfl) ?_
  refine va_get (v := .ref (a 7)) hex hbc hts hin2 hown hK hP 3 rfl rfl 5 (by decide) (hts _ (List.mem_of_getElem? (i := 10) rfl)) (fun _ h => h) rfl dX2_copy_62 ?_
  refine lv_iconst (v := iI 0) hex hbc dX2_copy_65 rfl ?_
  refine lv_aload_n hex hbc dX2_copy_66 rfl (lv_at hl 0 rfl) ?_
  refine va_get (v := .ref (a 53)) hex hbc hts hin2 hown hK hP 49 rfl rfl 5 (by decide) (hts _ (List.mem_of_getElem? (i := 10) rfl)) (fun _ h => h) rfl dX2_copy_67 ?_
  refine lv_iconst (v := iI 0) hex hbc dX2_copy_70 rfl ?_
  refine lv_bipush (v := iI 16) hex hbc dX2_copy_71 (by decide) ?_
  refine va_copyi (f := aI (fun k => σ 0 (91 + k))) (g := aI (fun k => σ 1 (733 + k))) hex hbc (hml.trans hl.1.symm) hown (hts _ (List.mem_of_getElem? (i := 4) rfl)) (hts _ (List.mem_of_getElem? (i := 5) rfl)) (hts _ (List.mem_of_getElem? (i := 6) rfl)) (hts _ (List.mem_of_getElem? (i := 7) rfl)) hK hP hD hS 7 53 0 0 rfl rfl rfl rfl rfl (by decide) (by decide) (by decide) (by decide) (by decide) (fun _ _ => rfl) (Nat.le_of_ble_eq_true rfl) (by decide) dX2_copy_73 (fun H locs hP hD hS => ?_)
  have hP := leW_P (ws' := wx cx a (sc σ 1 (cpi (σ 1) (σ 0) 642))) (wx_cp_p6 (G := G) (cx := cx) (a := a) (σ := σ)) hP
  have hD := leW_D (ws' := wx cx a (sc σ 1 (cpi (σ 1) (σ 0) 642))) (wx_cp_p6 (G := G) (cx := cx) (a := a) (σ := σ)) hD
  exact g_vret hex hbc hrt hlocks hK hP hD hS rfl dX2_copy_76
set_option maxHeartbeats 4000000 in
set_option maxRecDepth 100000 in
theorem mX2_copy_p7 (l : Launch) (G : va_G) (cx a : Nat → Nat) (σ : Nat → Int → Int) : Met l yX2_copy wsX2_copy ({ frames := 1, cells := 0, slots := 0, locals := 60 }) (va_Pc [.ref (a 54), .ref (a 3)] (gW G (tx cx) (XA a) (wx cx a) σ)) (va_Qv (fun u => sc σ 1 (cpi (σ 1) (σ 0) 749) = u) (gW G (tx cx) (XA a) (wx cx a)) (XA a)) 0 0 (XA a) := by
  refine Met.ofW (cc := cX2_copy) (maxL := 2) (ret := none) (by decide) rfl ?_
  intro p e s m args below meth c s₁ B hml hv
  obtain ⟨rfl, hP, hK, hD⟩ := hv
  have hex := B.exec
  have hbc := B.bytes
  have hrt := B.returns
  have hts := atoms_spec (ws := wsX2_copy) B.pre
  have hown : s.vm.findClass RX2 = some m.cls := findClass_of_methodNamed B.named
  have hlocks := B.notSynchronized
  have hS : va_S (XA a) s.heap s.heap [] := va_S.rf
  have hin2 := iX2_copy_X2
  have hl := lv_entry ([.ref (a 54), .ref (a 3)]) (n := 2) (Nat.le_of_ble_eq_true rfl)
  rw [lg_entry_eq]
  generalize (lg_sl ([.ref (a 54), .ref (a 3)]) ++ List.replicate (2 - (lg_sl ([.ref (a 54), .ref (a 3)])).length) Slot.unset).toArray = ls at hl ⊢
  have hl : lv_has ls 2 [(0, .ref (a 54)), (1, .ref (a 3))] := hl
  refine lv_aload_n hex hbc dX2_copy_0 rfl (lv_at hl 0 rfl) ?_
  refine lv_aload_n hex hbc dX2_copy_1 rfl (lv_at hl 1 rfl) ?_
  refine va_get (v := .int (iI (σ 0 0))) hex hbc hts hin2 hown hK hP 3 rfl rfl 0 (by decide) (hts _ (List.mem_of_getElem? (i := 1) rfl)) (fun _ h => h) rfl dX2_copy_2 ?_
  refine va_put hex hbc hts hin2 tyX2 tyX2_ok nmX2 hown hK hP hD hS 54 rfl rfl 0 (by decide) (hts _ (List.mem_of_getElem? (i := 1) rfl)) (fun _ h => h) rfl (tyX2_ok 0 (by decide)) rfl rfl (Nat.le_of_ble_eq_true rfl) dX2_copy_5 (fun H locs hP hD hS => ?_)
  refine lv_aload_n hex hbc dX2_copy_8 rfl (lv_at hl 0 rfl) ?_
  refine lv_aload_n hex hbc dX2_copy_9 rfl (lv_at hl 1 rfl) ?_
  refine va_get (v := .int (iI (σ 0 74))) hex hbc hts hin2 hown hK hP 3 rfl rfl 1 (by decide) (hts _ (List.mem_of_getElem? (i := 2) rfl)) (fun _ h => h) rfl dX2_copy_10 ?_
  refine va_put hex hbc hts hin2 tyX2 tyX2_ok nmX2 hown hK hP hD hS 54 rfl rfl 1 (by decide) (hts _ (List.mem_of_getElem? (i := 2) rfl)) (fun _ h => h) rfl (tyX2_ok 1 (by decide)) rfl rfl (Nat.le_of_ble_eq_true rfl) dX2_copy_13 (fun H locs hP hD hS => ?_)
  refine lv_aload_n hex hbc dX2_copy_16 rfl (lv_at hl 1 rfl) ?_
  refine va_get (v := .ref (a 4)) hex hbc hts hin2 hown hK hP 3 rfl rfl 2 (by decide) (hts _ (List.mem_of_getElem? (i := 3) rfl)) (fun _ h => h) rfl dX2_copy_17 ?_
  refine lv_iconst (v := iI 0) hex hbc dX2_copy_20 rfl ?_
  refine lv_aload_n hex hbc dX2_copy_21 rfl (lv_at hl 0 rfl) ?_
  refine va_get (v := .ref (a 55)) hex hbc hts hin2 hown hK hP 54 rfl rfl 2 (by decide) (hts _ (List.mem_of_getElem? (i := 3) rfl)) (fun _ h => h) rfl dX2_copy_22 ?_
  refine lv_iconst (v := iI 0) hex hbc dX2_copy_25 rfl ?_
  refine lv_bipush (v := iI 64) hex hbc dX2_copy_26 (by decide) ?_
  refine va_copyi (f := aI (fun k => σ 0 (10 + k))) (g := aI (fun k => σ 1 (759 + k))) hex hbc (hml.trans hl.1.symm) hown (hts _ (List.mem_of_getElem? (i := 4) rfl)) (hts _ (List.mem_of_getElem? (i := 5) rfl)) (hts _ (List.mem_of_getElem? (i := 6) rfl)) (hts _ (List.mem_of_getElem? (i := 7) rfl)) hK hP hD hS 4 55 0 0 rfl rfl rfl rfl rfl (by decide) (by decide) (by decide) (by decide) (by decide) (fun _ _ => rfl) (Nat.le_of_ble_eq_true rfl) (by decide) dX2_copy_28 (fun H locs hP hD hS => ?_)
  refine lv_aload_n hex hbc dX2_copy_31 rfl (lv_at hl 1 rfl) ?_
  refine va_get (v := .ref (a 5)) hex hbc hts hin2 hown hK hP 3 rfl rfl 3 (by decide) (hts _ (List.mem_of_getElem? (i := 8) rfl)) (fun _ h => h) rfl dX2_copy_32 ?_
  refine lv_iconst (v := iI 0) hex hbc dX2_copy_35 rfl ?_
  refine lv_aload_n hex hbc dX2_copy_36 rfl (lv_at hl 0 rfl) ?_
  refine va_get (v := .ref (a 56)) hex hbc hts hin2 hown hK hP 54 rfl rfl 3 (by decide) (hts _ (List.mem_of_getElem? (i := 8) rfl)) (fun _ h => h) rfl dX2_copy_37 ?_
  refine lv_iconst (v := iI 0) hex hbc dX2_copy_40 rfl ?_
  refine lv_bipush (v := iI 9) hex hbc dX2_copy_41 (by decide) ?_
  refine va_copyi (f := aI (fun k => σ 0 (1 + k))) (g := aI (fun k => σ 1 (750 + k))) hex hbc (hml.trans hl.1.symm) hown (hts _ (List.mem_of_getElem? (i := 4) rfl)) (hts _ (List.mem_of_getElem? (i := 5) rfl)) (hts _ (List.mem_of_getElem? (i := 6) rfl)) (hts _ (List.mem_of_getElem? (i := 7) rfl)) hK hP hD hS 5 56 0 0 rfl rfl rfl rfl rfl (by decide) (by decide) (by decide) (by decide) (by decide) (fun _ _ => rfl) (Nat.le_of_ble_eq_true rfl) (by decide) dX2_copy_43 (fun H locs hP hD hS => ?_)
  refine lv_aload_n hex hbc dX2_copy_46 rfl (lv_at hl 1 rfl) ?_
  refine va_get (v := .ref (a 6)) hex hbc hts hin2 hown hK hP 3 rfl rfl 4 (by decide) (hts _ (List.mem_of_getElem? (i := 9) rfl)) (fun _ h => h) rfl dX2_copy_47 ?_
  refine lv_iconst (v := iI 0) hex hbc dX2_copy_50 rfl ?_
  refine lv_aload_n hex hbc dX2_copy_51 rfl (lv_at hl 0 rfl) ?_
  refine va_get (v := .ref (a 57)) hex hbc hts hin2 hown hK hP 54 rfl rfl 4 (by decide) (hts _ (List.mem_of_getElem? (i := 9) rfl)) (fun _ h => h) rfl dX2_copy_52 ?_
  refine lv_iconst (v := iI 0) hex hbc dX2_copy_55 rfl ?_
  refine lv_bipush (v := iI 16) hex hbc dX2_copy_56 (by decide) ?_
  refine va_copyi (f := aI (fun k => σ 0 (75 + k))) (g := aI (fun k => σ 1 (824 + k))) hex hbc (hml.trans hl.1.symm) hown (hts _ (List.mem_of_getElem? (i := 4) rfl)) (hts _ (List.mem_of_getElem? (i := 5) rfl)) (hts _ (List.mem_of_getElem? (i := 6) rfl)) (hts _ (List.mem_of_getElem? (i := 7) rfl)) hK hP hD hS 6 57 0 0 rfl rfl rfl rfl rfl (by decide) (by decide) (by decide) (by decide) (by decide) (fun _ _ => rfl) (Nat.le_of_ble_eq_true rfl) (by decide) dX2_copy_58 (fun H locs hP hD hS => ?_)
  refine lv_aload_n hex hbc dX2_copy_61 rfl (lv_at hl 1 rfl) ?_
  refine va_get (v := .ref (a 7)) hex hbc hts hin2 hown hK hP 3 rfl rfl 5 (by decide) (hts _ (List.mem_of_getElem? (i := 10) rfl)) (fun _ h => h) rfl dX2_copy_62 ?_
  refine lv_iconst (v := iI 0) hex hbc dX2_copy_65 rfl ?_
  refine lv_aload_n hex hbc dX2_copy_66 rfl (lv_at hl 0 rfl) ?_
  refine va_get (v := .ref (a 58)) hex hbc hts hin2 hown hK hP 54 rfl rfl 5 (by decide) (hts _ (List.mem_of_getElem? (i := 10) rfl)) (fun _ h => h) rfl dX2_copy_67 ?_
  refine lv_iconst (v := iI 0) hex hbc dX2_copy_70 rfl ?_
  refine lv_bipush (v := iI 16) hex hbc dX2_copy_71 (by decide) ?_
  refine va_copyi (f := aI (fun k => σ 0 (91 + k))) (g := aI (fun k => σ 1 (840 + k))) hex hbc (hml.trans hl.1.symm) hown (hts _ (List.mem_of_getElem? (i := 4) rfl)) (hts _ (List.mem_of_getElem? (i := 5) rfl)) (hts _ (List.mem_of_getElem? (i := 6) rfl)) (hts _ (List.mem_of_getElem? (i := 7) rfl)) hK hP hD hS 7 58 0 0 rfl rfl rfl rfl rfl (by decide) (by decide) (by decide) (by decide) (by decide) (fun _ _ => rfl) (Nat.le_of_ble_eq_true rfl) (by decide) dX2_copy_73 (fun H locs hP hD hS => ?_)
  have hP := leW_P (ws' := wx cx a (sc σ 1 (cpi (σ 1) (σ 0) 749))) (wx_cp_p7 (G := G) (cx := cx) (a := a) (σ := σ)) hP
  have hD := leW_D (ws' := wx cx a (sc σ 1 (cpi (σ 1) (σ 0) 749))) (wx_cp_p7 (G := G) (cx := cx) (a := a) (σ := σ)) hD
  exact g_vret hex hbc hrt hlocks hK hP hD hS rfl dX2_copy_76
set_option maxHeartbeats 4000000 in
set_option maxRecDepth 100000 in
theorem mX2_copy_q0 (l : Launch) (G : va_G) (cx a : Nat → Nat) (σ : Nat → Int → Int) : Met l yX2_copy wsX2_copy ({ frames := 1, cells := 0, slots := 0, locals := 60 }) (va_Pc [.ref (a 3), .ref (a 19)] (gW G (tx cx) (XA a) (wx cx a) σ)) (va_Qv (fun u => sc σ 0 (cpo (σ 0) (σ 1) 0) = u) (gW G (tx cx) (XA a) (wx cx a)) (XA a)) 0 0 (XA a) := by
  refine Met.ofW (cc := cX2_copy) (maxL := 2) (ret := none) (by decide) rfl ?_
  intro p e s m args below meth c s₁ B hml hv
  obtain ⟨rfl, hP, hK, hD⟩ := hv
  have hex := B.exec
  have hbc := B.bytes
  have hrt := B.returns
  have hts := atoms_spec (ws := wsX2_copy) B.pre
  have hown : s.vm.findClass RX2 = some m.cls := findClass_of_methodNamed B.named
  have hlocks := B.notSynchronized
  have hS : va_S (XA a) s.heap s.heap [] := va_S.rf
  have hin2 := iX2_copy_X2
  have hl := lv_entry ([.ref (a 3), .ref (a 19)]) (n := 2) (Nat.le_of_ble_eq_true rfl)
  rw [lg_entry_eq]
  generalize (lg_sl ([.ref (a 3), .ref (a 19)]) ++ List.replicate (2 - (lg_sl ([.ref (a 3), .ref (a 19)])).length) Slot.unset).toArray = ls at hl ⊢
  have hl : lv_has ls 2 [(0, .ref (a 3)), (1, .ref (a 19))] := hl
  refine lv_aload_n hex hbc dX2_copy_0 rfl (lv_at hl 0 rfl) ?_
  refine lv_aload_n hex hbc dX2_copy_1 rfl (lv_at hl 1 rfl) ?_
  refine va_get (v := .int (iI (σ 1 0))) hex hbc hts hin2 hown hK hP 19 rfl rfl 0 (by decide) (hts _ (List.mem_of_getElem? (i := 1) rfl)) (fun _ h => h) rfl dX2_copy_2 ?_
  refine va_put hex hbc hts hin2 tyX2 tyX2_ok nmX2 hown hK hP hD hS 3 rfl rfl 0 (by decide) (hts _ (List.mem_of_getElem? (i := 1) rfl)) (fun _ h => h) rfl (tyX2_ok 0 (by decide)) rfl rfl (Nat.le_of_ble_eq_true rfl) dX2_copy_5 (fun H locs hP hD hS => ?_)
  refine lv_aload_n hex hbc dX2_copy_8 rfl (lv_at hl 0 rfl) ?_
  refine lv_aload_n hex hbc dX2_copy_9 rfl (lv_at hl 1 rfl) ?_
  refine va_get (v := .int (iI (σ 1 74))) hex hbc hts hin2 hown hK hP 19 rfl rfl 1 (by decide) (hts _ (List.mem_of_getElem? (i := 2) rfl)) (fun _ h => h) rfl dX2_copy_10 ?_
  refine va_put hex hbc hts hin2 tyX2 tyX2_ok nmX2 hown hK hP hD hS 3 rfl rfl 1 (by decide) (hts _ (List.mem_of_getElem? (i := 2) rfl)) (fun _ h => h) rfl (tyX2_ok 1 (by decide)) rfl rfl (Nat.le_of_ble_eq_true rfl) dX2_copy_13 (fun H locs hP hD hS => ?_)
  refine lv_aload_n hex hbc dX2_copy_16 rfl (lv_at hl 1 rfl) ?_
  refine va_get (v := .ref (a 20)) hex hbc hts hin2 hown hK hP 19 rfl rfl 2 (by decide) (hts _ (List.mem_of_getElem? (i := 3) rfl)) (fun _ h => h) rfl dX2_copy_17 ?_
  refine lv_iconst (v := iI 0) hex hbc dX2_copy_20 rfl ?_
  refine lv_aload_n hex hbc dX2_copy_21 rfl (lv_at hl 0 rfl) ?_
  refine va_get (v := .ref (a 4)) hex hbc hts hin2 hown hK hP 3 rfl rfl 2 (by decide) (hts _ (List.mem_of_getElem? (i := 3) rfl)) (fun _ h => h) rfl dX2_copy_22 ?_
  refine lv_iconst (v := iI 0) hex hbc dX2_copy_25 rfl ?_
  refine lv_bipush (v := iI 64) hex hbc dX2_copy_26 (by decide) ?_
  refine va_copyi (f := aI (fun k => σ 1 (10 + k))) (g := aI (fun k => σ 0 (10 + k))) hex hbc (hml.trans hl.1.symm) hown (hts _ (List.mem_of_getElem? (i := 4) rfl)) (hts _ (List.mem_of_getElem? (i := 5) rfl)) (hts _ (List.mem_of_getElem? (i := 6) rfl)) (hts _ (List.mem_of_getElem? (i := 7) rfl)) hK hP hD hS 20 4 0 0 rfl rfl rfl rfl rfl (by decide) (by decide) (by decide) (by decide) (by decide) (fun _ _ => rfl) (Nat.le_of_ble_eq_true rfl) (by decide) dX2_copy_28 (fun H locs hP hD hS => ?_)
  refine lv_aload_n hex hbc dX2_copy_31 rfl (lv_at hl 1 rfl) ?_
  refine va_get (v := .ref (a 21)) hex hbc hts hin2 hown hK hP 19 rfl rfl 3 (by decide) (hts _ (List.mem_of_getElem? (i := 8) rfl)) (fun _ h => h) rfl dX2_copy_32 ?_
  refine lv_iconst (v := iI 0) hex hbc dX2_copy_35 rfl ?_
  refine lv_aload_n hex hbc dX2_copy_36 rfl (lv_at hl 0 rfl) ?_
  refine va_get (v := .ref (a 5)) hex hbc hts hin2 hown hK hP 3 rfl rfl 3 (by decide) (hts _ (List.mem_of_getElem? (i := 8) rfl)) (fun _ h => h) rfl dX2_copy_37 ?_
  refine lv_iconst (v := iI 0) hex hbc dX2_copy_40 rfl ?_
  refine lv_bipush (v := iI 9) hex hbc dX2_copy_41 (by decide) ?_
  refine va_copyi (f := aI (fun k => σ 1 (1 + k))) (g := aI (fun k => σ 0 (1 + k))) hex hbc (hml.trans hl.1.symm) hown (hts _ (List.mem_of_getElem? (i := 4) rfl)) (hts _ (List.mem_of_getElem? (i := 5) rfl)) (hts _ (List.mem_of_getElem? (i := 6) rfl)) (hts _ (List.mem_of_getElem? (i := 7) rfl)) hK hP hD hS 21 5 0 0 rfl rfl rfl rfl rfl (by decide) (by decide) (by decide) (by decide) (by decide) (fun _ _ => rfl) (Nat.le_of_ble_eq_true rfl) (by decide) dX2_copy_43 (fun H locs hP hD hS => ?_)
  refine lv_aload_n hex hbc dX2_copy_46 rfl (lv_at hl 1 rfl) ?_
  refine va_get (v := .ref (a 22)) hex hbc hts hin2 hown hK hP 19 rfl rfl 4 (by decide) (hts _ (List.mem_of_getElem? (i := 9) rfl)) (fun _ h => h) rfl dX2_copy_47 ?_
  refine lv_iconst (v := iI 0) hex hbc dX2_copy_50 rfl ?_
  refine lv_aload_n hex hbc dX2_copy_51 rfl (lv_at hl 0 rfl) ?_
  refine va_get (v := .ref (a 6)) hex hbc hts hin2 hown hK hP 3 rfl rfl 4 (by decide) (hts _ (List.mem_of_getElem? (i := 9) rfl)) (fun _ h => h) rfl dX2_copy_52 ?_
  refine lv_iconst (v := iI 0) hex hbc dX2_copy_55 rfl ?_
  refine lv_bipush (v := iI 16) hex hbc dX2_copy_56 (by decide) ?_
  refine va_copyi (f := aI (fun k => σ 1 (75 + k))) (g := aI (fun k => σ 0 (75 + k))) hex hbc (hml.trans hl.1.symm) hown (hts _ (List.mem_of_getElem? (i := 4) rfl)) (hts _ (List.mem_of_getElem? (i := 5) rfl)) (hts _ (List.mem_of_getElem? (i := 6) rfl)) (hts _ (List.mem_of_getElem? (i := 7) rfl)) hK hP hD hS 22 6 0 0 rfl rfl rfl rfl rfl (by decide) (by decide) (by decide) (by decide) (by decide) (fun _ _ => rfl) (Nat.le_of_ble_eq_true rfl) (by decide) dX2_copy_58 (fun H locs hP hD hS => ?_)
  refine lv_aload_n hex hbc dX2_copy_61 rfl (lv_at hl 1 rfl) ?_
  refine va_get (v := .ref (a 23)) hex hbc hts hin2 hown hK hP 19 rfl rfl 5 (by decide) (hts _ (List.mem_of_getElem? (i := 10) rfl)) (fun _ h => h) rfl dX2_copy_62 ?_
  refine lv_iconst (v := iI 0) hex hbc dX2_copy_65 rfl ?_
  refine lv_aload_n hex hbc dX2_copy_66 rfl (lv_at hl 0 rfl) ?_
  refine va_get (v := .ref (a 7)) hex hbc hts hin2 hown hK hP 3 rfl rfl 5 (by decide) (hts _ (List.mem_of_getElem? (i := 10) rfl)) (fun _ h => h) rfl dX2_copy_67 ?_
  refine lv_iconst (v := iI 0) hex hbc dX2_copy_70 rfl ?_
  refine lv_bipush (v := iI 16) hex hbc dX2_copy_71 (by decide) ?_
  refine va_copyi (f := aI (fun k => σ 1 (91 + k))) (g := aI (fun k => σ 0 (91 + k))) hex hbc (hml.trans hl.1.symm) hown (hts _ (List.mem_of_getElem? (i := 4) rfl)) (hts _ (List.mem_of_getElem? (i := 5) rfl)) (hts _ (List.mem_of_getElem? (i := 6) rfl)) (hts _ (List.mem_of_getElem? (i := 7) rfl)) hK hP hD hS 23 7 0 0 rfl rfl rfl rfl rfl (by decide) (by decide) (by decide) (by decide) (by decide) (fun _ _ => rfl) (Nat.le_of_ble_eq_true rfl) (by decide) dX2_copy_73 (fun H locs hP hD hS => ?_)
  have hP := leW_P (ws' := wx cx a (sc σ 0 (cpo (σ 0) (σ 1) 0))) (wx_cp_q0 (G := G) (cx := cx) (a := a) (σ := σ)) hP
  have hD := leW_D (ws' := wx cx a (sc σ 0 (cpo (σ 0) (σ 1) 0))) (wx_cp_q0 (G := G) (cx := cx) (a := a) (σ := σ)) hD
  exact g_vret hex hbc hrt hlocks hK hP hD hS rfl dX2_copy_76
set_option maxHeartbeats 4000000 in
set_option maxRecDepth 100000 in
theorem mX2_copy_q1 (l : Launch) (G : va_G) (cx a : Nat → Nat) (σ : Nat → Int → Int) : Met l yX2_copy wsX2_copy ({ frames := 1, cells := 0, slots := 0, locals := 60 }) (va_Pc [.ref (a 3), .ref (a 24)] (gW G (tx cx) (XA a) (wx cx a) σ)) (va_Qv (fun u => sc σ 0 (cpo (σ 0) (σ 1) 107) = u) (gW G (tx cx) (XA a) (wx cx a)) (XA a)) 0 0 (XA a) := by
  refine Met.ofW (cc := cX2_copy) (maxL := 2) (ret := none) (by decide) rfl ?_
  intro p e s m args below meth c s₁ B hml hv
  obtain ⟨rfl, hP, hK, hD⟩ := hv
  have hex := B.exec
  have hbc := B.bytes
  have hrt := B.returns
  have hts := atoms_spec (ws := wsX2_copy) B.pre
  have hown : s.vm.findClass RX2 = some m.cls := findClass_of_methodNamed B.named
  have hlocks := B.notSynchronized
  have hS : va_S (XA a) s.heap s.heap [] := va_S.rf
  have hin2 := iX2_copy_X2
  have hl := lv_entry ([.ref (a 3), .ref (a 24)]) (n := 2) (Nat.le_of_ble_eq_true rfl)
  rw [lg_entry_eq]
  generalize (lg_sl ([.ref (a 3), .ref (a 24)]) ++ List.replicate (2 - (lg_sl ([.ref (a 3), .ref (a 24)])).length) Slot.unset).toArray = ls at hl ⊢
  have hl : lv_has ls 2 [(0, .ref (a 3)), (1, .ref (a 24))] := hl
  refine lv_aload_n hex hbc dX2_copy_0 rfl (lv_at hl 0 rfl) ?_
  refine lv_aload_n hex hbc dX2_copy_1 rfl (lv_at hl 1 rfl) ?_
  refine va_get (v := .int (iI (σ 1 107))) hex hbc hts hin2 hown hK hP 24 rfl rfl 0 (by decide) (hts _ (List.mem_of_getElem? (i := 1) rfl)) (fun _ h => h) rfl dX2_copy_2 ?_
  refine va_put hex hbc hts hin2 tyX2 tyX2_ok nmX2 hown hK hP hD hS 3 rfl rfl 0 (by decide) (hts _ (List.mem_of_getElem? (i := 1) rfl)) (fun _ h => h) rfl (tyX2_ok 0 (by decide)) rfl rfl (Nat.le_of_ble_eq_true rfl) dX2_copy_5 (fun H locs hP hD hS => ?_)
  refine lv_aload_n hex hbc dX2_copy_8 rfl (lv_at hl 0 rfl) ?_
  refine lv_aload_n hex hbc dX2_copy_9 rfl (lv_at hl 1 rfl) ?_
  refine va_get (v := .int (iI (σ 1 181))) hex hbc hts hin2 hown hK hP 24 rfl rfl 1 (by decide) (hts _ (List.mem_of_getElem? (i := 2) rfl)) (fun _ h => h) rfl dX2_copy_10 ?_
  refine va_put hex hbc hts hin2 tyX2 tyX2_ok nmX2 hown hK hP hD hS 3 rfl rfl 1 (by decide) (hts _ (List.mem_of_getElem? (i := 2) rfl)) (fun _ h => h) rfl (tyX2_ok 1 (by decide)) rfl rfl (Nat.le_of_ble_eq_true rfl) dX2_copy_13 (fun H locs hP hD hS => ?_)
  refine lv_aload_n hex hbc dX2_copy_16 rfl (lv_at hl 1 rfl) ?_
  refine va_get (v := .ref (a 25)) hex hbc hts hin2 hown hK hP 24 rfl rfl 2 (by decide) (hts _ (List.mem_of_getElem? (i := 3) rfl)) (fun _ h => h) rfl dX2_copy_17 ?_
  refine lv_iconst (v := iI 0) hex hbc dX2_copy_20 rfl ?_
  refine lv_aload_n hex hbc dX2_copy_21 rfl (lv_at hl 0 rfl) ?_
  refine va_get (v := .ref (a 4)) hex hbc hts hin2 hown hK hP 3 rfl rfl 2 (by decide) (hts _ (List.mem_of_getElem? (i := 3) rfl)) (fun _ h => h) rfl dX2_copy_22 ?_
  refine lv_iconst (v := iI 0) hex hbc dX2_copy_25 rfl ?_
  refine lv_bipush (v := iI 64) hex hbc dX2_copy_26 (by decide) ?_
  refine va_copyi (f := aI (fun k => σ 1 (117 + k))) (g := aI (fun k => σ 0 (10 + k))) hex hbc (hml.trans hl.1.symm) hown (hts _ (List.mem_of_getElem? (i := 4) rfl)) (hts _ (List.mem_of_getElem? (i := 5) rfl)) (hts _ (List.mem_of_getElem? (i := 6) rfl)) (hts _ (List.mem_of_getElem? (i := 7) rfl)) hK hP hD hS 25 4 0 0 rfl rfl rfl rfl rfl (by decide) (by decide) (by decide) (by decide) (by decide) (fun _ _ => rfl) (Nat.le_of_ble_eq_true rfl) (by decide) dX2_copy_28 (fun H locs hP hD hS => ?_)
  refine lv_aload_n hex hbc dX2_copy_31 rfl (lv_at hl 1 rfl) ?_
  refine va_get (v := .ref (a 26)) hex hbc hts hin2 hown hK hP 24 rfl rfl 3 (by decide) (hts _ (List.mem_of_getElem? (i := 8) rfl)) (fun _ h => h) rfl dX2_copy_32 ?_
  refine lv_iconst (v := iI 0) hex hbc dX2_copy_35 rfl ?_
  refine lv_aload_n hex hbc dX2_copy_36 rfl (lv_at hl 0 rfl) ?_
  refine va_get (v := .ref (a 5)) hex hbc hts hin2 hown hK hP 3 rfl rfl 3 (by decide) (hts _ (List.mem_of_getElem? (i := 8) rfl)) (fun _ h => h) rfl dX2_copy_37 ?_
  refine lv_iconst (v := iI 0) hex hbc dX2_copy_40 rfl ?_
  refine lv_bipush (v := iI 9) hex hbc dX2_copy_41 (by decide) ?_
  refine va_copyi (f := aI (fun k => σ 1 (108 + k))) (g := aI (fun k => σ 0 (1 + k))) hex hbc (hml.trans hl.1.symm) hown (hts _ (List.mem_of_getElem? (i := 4) rfl)) (hts _ (List.mem_of_getElem? (i := 5) rfl)) (hts _ (List.mem_of_getElem? (i := 6) rfl)) (hts _ (List.mem_of_getElem? (i := 7) rfl)) hK hP hD hS 26 5 0 0 rfl rfl rfl rfl rfl (by decide) (by decide) (by decide) (by decide) (by decide) (fun _ _ => rfl) (Nat.le_of_ble_eq_true rfl) (by decide) dX2_copy_43 (fun H locs hP hD hS => ?_)
  refine lv_aload_n hex hbc dX2_copy_46 rfl (lv_at hl 1 rfl) ?_
  refine va_get (v := .ref (a 27)) hex hbc hts hin2 hown hK hP 24 rfl rfl 4 (by decide) (hts _ (List.mem_of_getElem? (i := 9) rfl)) (fun _ h => h) rfl dX2_copy_47 ?_
  refine lv_iconst (v := iI 0) hex hbc dX2_copy_50 rfl ?_
  refine lv_aload_n hex hbc dX2_copy_51 rfl (lv_at hl 0 rfl) ?_
  refine va_get (v := .ref (a 6)) hex hbc hts hin2 hown hK hP 3 rfl rfl 4 (by decide) (hts _ (List.mem_of_getElem? (i := 9) rfl)) (fun _ h => h) rfl dX2_copy_52 ?_
  refine lv_iconst (v := iI 0) hex hbc dX2_copy_55 rfl ?_
  refine lv_bipush (v := iI 16) hex hbc dX2_copy_56 (by decide) ?_
  refine va_copyi (f := aI (fun k => σ 1 (182 + k))) (g := aI (fun k => σ 0 (75 + k))) hex hbc (hml.trans hl.1.symm) hown (hts _ (List.mem_of_getElem? (i := 4) rfl)) (hts _ (List.mem_of_getElem? (i := 5) rfl)) (hts _ (List.mem_of_getElem? (i := 6) rfl)) (hts _ (List.mem_of_getElem? (i := 7) rfl)) hK hP hD hS 27 6 0 0 rfl rfl rfl rfl rfl (by decide) (by decide) (by decide) (by decide) (by decide) (fun _ _ => rfl) (Nat.le_of_ble_eq_true rfl) (by decide) dX2_copy_58 (fun H locs hP hD hS => ?_)
  refine lv_aload_n hex hbc dX2_copy_61 rfl (lv_at hl 1 rfl) ?_
  refine va_get (v := .ref (a 28)) hex hbc hts hin2 hown hK hP 24 rfl rfl 5 (by decide) (hts _ (List.mem_of_getElem? (i := 10) rfl)) (fun _ h => h) rfl dX2_copy_62 ?_
  refine lv_iconst (v := iI 0) hex hbc dX2_copy_65 rfl ?_
  refine lv_aload_n hex hbc dX2_copy_66 rfl (lv_at hl 0 rfl) ?_
  refine va_get (v := .ref (a 7)) hex hbc hts hin2 hown hK hP 3 rfl rfl 5 (by decide) (hts _ (List.mem_of_getElem? (i := 10) rfl)) (fun _ h => h) rfl dX2_copy_67 ?_
  refine lv_iconst (v := iI 0) hex hbc dX2_copy_70 rfl ?_
  refine lv_bipush (v := iI 16) hex hbc dX2_copy_71 (by decide) ?_
  refine va_copyi (f := aI (fun k => σ 1 (198 + k))) (g := aI (fun k => σ 0 (91 + k))) hex hbc (hml.trans hl.1.symm) hown (hts _ (List.mem_of_getElem? (i := 4) rfl)) (hts _ (List.mem_of_getElem? (i := 5) rfl)) (hts _ (List.mem_of_getElem? (i := 6) rfl)) (hts _ (List.mem_of_getElem? (i := 7) rfl)) hK hP hD hS 28 7 0 0 rfl rfl rfl rfl rfl (by decide) (by decide) (by decide) (by decide) (by decide) (fun _ _ => rfl) (Nat.le_of_ble_eq_true rfl) (by decide) dX2_copy_73 (fun H locs hP hD hS => ?_)
  have hP := leW_P (ws' := wx cx a (sc σ 0 (cpo (σ 0) (σ 1) 107))) (wx_cp_q1 (G := G) (cx := cx) (a := a) (σ := σ)) hP
  have hD := leW_D (ws' := wx cx a (sc σ 0 (cpo (σ 0) (σ 1) 107))) (wx_cp_q1 (G := G) (cx := cx) (a := a) (σ := σ)) hD
  exact g_vret hex hbc hrt hlocks hK hP hD hS rfl dX2_copy_76
set_option maxHeartbeats 4000000 in
set_option maxRecDepth 100000 in
theorem mX2_copy_q2 (l : Launch) (G : va_G) (cx a : Nat → Nat) (σ : Nat → Int → Int) : Met l yX2_copy wsX2_copy ({ frames := 1, cells := 0, slots := 0, locals := 60 }) (va_Pc [.ref (a 3), .ref (a 29)] (gW G (tx cx) (XA a) (wx cx a) σ)) (va_Qv (fun u => sc σ 0 (cpo (σ 0) (σ 1) 214) = u) (gW G (tx cx) (XA a) (wx cx a)) (XA a)) 0 0 (XA a) := by
  refine Met.ofW (cc := cX2_copy) (maxL := 2) (ret := none) (by decide) rfl ?_
  intro p e s m args below meth c s₁ B hml hv
  obtain ⟨rfl, hP, hK, hD⟩ := hv
  have hex := B.exec
  have hbc := B.bytes
  have hrt := B.returns
  have hts := atoms_spec (ws := wsX2_copy) B.pre
  have hown : s.vm.findClass RX2 = some m.cls := findClass_of_methodNamed B.named
  have hlocks := B.notSynchronized
  have hS : va_S (XA a) s.heap s.heap [] := va_S.rf
  have hin2 := iX2_copy_X2
  have hl := lv_entry ([.ref (a 3), .ref (a 29)]) (n := 2) (Nat.le_of_ble_eq_true rfl)
  rw [lg_entry_eq]
  generalize (lg_sl ([.ref (a 3), .ref (a 29)]) ++ List.replicate (2 - (lg_sl ([.ref (a 3), .ref (a 29)])).length) Slot.unset).toArray = ls at hl ⊢
  have hl : lv_has ls 2 [(0, .ref (a 3)), (1, .ref (a 29))] := hl
  refine lv_aload_n hex hbc dX2_copy_0 rfl (lv_at hl 0 rfl) ?_
  refine lv_aload_n hex hbc dX2_copy_1 rfl (lv_at hl 1 rfl) ?_
  refine va_get (v := .int (iI (σ 1 214))) hex hbc hts hin2 hown hK hP 29 rfl rfl 0 (by decide) (hts _ (List.mem_of_getElem? (i := 1) rfl)) (fun _ h => h) rfl dX2_copy_2 ?_
  refine va_put hex hbc hts hin2 tyX2 tyX2_ok nmX2 hown hK hP hD hS 3 rfl rfl 0 (by decide) (hts _ (List.mem_of_getElem? (i := 1) rfl)) (fun _ h => h) rfl (tyX2_ok 0 (by decide)) rfl rfl (Nat.le_of_ble_eq_true rfl) dX2_copy_5 (fun H locs hP hD hS => ?_)
  refine lv_aload_n hex hbc dX2_copy_8 rfl (lv_at hl 0 rfl) ?_
  refine lv_aload_n hex hbc dX2_copy_9 rfl (lv_at hl 1 rfl) ?_
  refine va_get (v := .int (iI (σ 1 288))) hex hbc hts hin2 hown hK hP 29 rfl rfl 1 (by decide) (hts _ (List.mem_of_getElem? (i := 2) rfl)) (fun _ h => h) rfl dX2_copy_10 ?_
  refine va_put hex hbc hts hin2 tyX2 tyX2_ok nmX2 hown hK hP hD hS 3 rfl rfl 1 (by decide) (hts _ (List.mem_of_getElem? (i := 2) rfl)) (fun _ h => h) rfl (tyX2_ok 1 (by decide)) rfl rfl (Nat.le_of_ble_eq_true rfl) dX2_copy_13 (fun H locs hP hD hS => ?_)
  refine lv_aload_n hex hbc dX2_copy_16 rfl (lv_at hl 1 rfl) ?_
  refine va_get (v := .ref (a 30)) hex hbc hts hin2 hown hK hP 29 rfl rfl 2 (by decide) (hts _ (List.mem_of_getElem? (i := 3) rfl)) (fun _ h => h) rfl dX2_copy_17 ?_
  refine lv_iconst (v := iI 0) hex hbc dX2_copy_20 rfl ?_
  refine lv_aload_n hex hbc dX2_copy_21 rfl (lv_at hl 0 rfl) ?_
  refine va_get (v := .ref (a 4)) hex hbc hts hin2 hown hK hP 3 rfl rfl 2 (by decide) (hts _ (List.mem_of_getElem? (i := 3) rfl)) (fun _ h => h) rfl dX2_copy_22 ?_
  refine lv_iconst (v := iI 0) hex hbc dX2_copy_25 rfl ?_
  refine lv_bipush (v := iI 64) hex hbc dX2_copy_26 (by decide) ?_
  refine va_copyi (f := aI (fun k => σ 1 (224 + k))) (g := aI (fun k => σ 0 (10 + k))) hex hbc (hml.trans hl.1.symm) hown (hts _ (List.mem_of_getElem? (i := 4) rfl)) (hts _ (List.mem_of_getElem? (i := 5) rfl)) (hts _ (List.mem_of_getElem? (i := 6) rfl)) (hts _ (List.mem_of_getElem? (i := 7) rfl)) hK hP hD hS 30 4 0 0 rfl rfl rfl rfl rfl (by decide) (by decide) (by decide) (by decide) (by decide) (fun _ _ => rfl) (Nat.le_of_ble_eq_true rfl) (by decide) dX2_copy_28 (fun H locs hP hD hS => ?_)
  refine lv_aload_n hex hbc dX2_copy_31 rfl (lv_at hl 1 rfl) ?_
  refine va_get (v := .ref (a 31)) hex hbc hts hin2 hown hK hP 29 rfl rfl 3 (by decide) (hts _ (List.mem_of_getElem? (i := 8) rfl)) (fun _ h => h) rfl dX2_copy_32 ?_
  refine lv_iconst (v := iI 0) hex hbc dX2_copy_35 rfl ?_
  refine lv_aload_n hex hbc dX2_copy_36 rfl (lv_at hl 0 rfl) ?_
  refine va_get (v := .ref (a 5)) hex hbc hts hin2 hown hK hP 3 rfl rfl 3 (by decide) (hts _ (List.mem_of_getElem? (i := 8) rfl)) (fun _ h => h) rfl dX2_copy_37 ?_
  refine lv_iconst (v := iI 0) hex hbc dX2_copy_40 rfl ?_
  refine lv_bipush (v := iI 9) hex hbc dX2_copy_41 (by decide) ?_
  refine va_copyi (f := aI (fun k => σ 1 (215 + k))) (g := aI (fun k => σ 0 (1 + k))) hex hbc (hml.trans hl.1.symm) hown (hts _ (List.mem_of_getElem? (i := 4) rfl)) (hts _ (List.mem_of_getElem? (i := 5) rfl)) (hts _ (List.mem_of_getElem? (i := 6) rfl)) (hts _ (List.mem_of_getElem? (i := 7) rfl)) hK hP hD hS 31 5 0 0 rfl rfl rfl rfl rfl (by decide) (by decide) (by decide) (by decide) (by decide) (fun _ _ => rfl) (Nat.le_of_ble_eq_true rfl) (by decide) dX2_copy_43 (fun H locs hP hD hS => ?_)
  refine lv_aload_n hex hbc dX2_copy_46 rfl (lv_at hl 1 rfl) ?_
  refine va_get (v := .ref (a 32)) hex hbc hts hin2 hown hK hP 29 rfl rfl 4 (by decide) (hts _ (List.mem_of_getElem? (i := 9) rfl)) (fun _ h => h) rfl dX2_copy_47 ?_
  refine lv_iconst (v := iI 0) hex hbc dX2_copy_50 rfl ?_
  refine lv_aload_n hex hbc dX2_copy_51 rfl (lv_at hl 0 rfl) ?_
  refine va_get (v := .ref (a 6)) hex hbc hts hin2 hown hK hP 3 rfl rfl 4 (by decide) (hts _ (List.mem_of_getElem? (i := 9) rfl)) (fun _ h => h) rfl dX2_copy_52 ?_
  refine lv_iconst (v := iI 0) hex hbc dX2_copy_55 rfl ?_
  refine lv_bipush (v := iI 16) hex hbc dX2_copy_56 (by decide) ?_
  refine va_copyi (f := aI (fun k => σ 1 (289 + k))) (g := aI (fun k => σ 0 (75 + k))) hex hbc (hml.trans hl.1.symm) hown (hts _ (List.mem_of_getElem? (i := 4) rfl)) (hts _ (List.mem_of_getElem? (i := 5) rfl)) (hts _ (List.mem_of_getElem? (i := 6) rfl)) (hts _ (List.mem_of_getElem? (i := 7) rfl)) hK hP hD hS 32 6 0 0 rfl rfl rfl rfl rfl (by decide) (by decide) (by decide) (by decide) (by decide) (fun _ _ => rfl) (Nat.le_of_ble_eq_true rfl) (by decide) dX2_copy_58 (fun H locs hP hD hS => ?_)
  refine lv_aload_n hex hbc dX2_copy_61 rfl (lv_at hl 1 rfl) ?_
  refine va_get (v := .ref (a 33)) hex hbc hts hin2 hown hK hP 29 rfl rfl 5 (by decide) (hts _ (List.mem_of_getElem? (i := 10) rfl)) (fun _ h => h) rfl dX2_copy_62 ?_
  refine lv_iconst (v := iI 0) hex hbc dX2_copy_65 rfl ?_
  refine lv_aload_n hex hbc dX2_copy_66 rfl (lv_at hl 0 rfl) ?_
  refine va_get (v := .ref (a 7)) hex hbc hts hin2 hown hK hP 3 rfl rfl 5 (by decide) (hts _ (List.mem_of_getElem? (i := 10) rfl)) (fun _ h => h) rfl dX2_copy_67 ?_
  refine lv_iconst (v := iI 0) hex hbc dX2_copy_70 rfl ?_
  refine lv_bipush (v := iI 16) hex hbc dX2_copy_71 (by decide) ?_
  refine va_copyi (f := aI (fun k => σ 1 (305 + k))) (g := aI (fun k => σ 0 (91 + k))) hex hbc (hml.trans hl.1.symm) hown (hts _ (List.mem_of_getElem? (i := 4) rfl)) (hts _ (List.mem_of_getElem? (i := 5) rfl)) (hts _ (List.mem_of_getElem? (i := 6) rfl)) (hts _ (List.mem_of_getElem? (i := 7) rfl)) hK hP hD hS 33 7 0 0 rfl rfl rfl rfl rfl (by decide) (by decide) (by decide) (by decide) (by decide) (fun _ _ => rfl) (Nat.le_of_ble_eq_true rfl) (by decide) dX2_copy_73 (fun H locs hP hD hS => ?_)
  have hP := leW_P (ws' := wx cx a (sc σ 0 (cpo (σ 0) (σ 1) 214))) (wx_cp_q2 (G := G) (cx := cx) (a := a) (σ := σ)) hP
  have hD := leW_D (ws' := wx cx a (sc σ 0 (cpo (σ 0) (σ 1) 214))) (wx_cp_q2 (G := G) (cx := cx) (a := a) (σ := σ)) hD
  exact g_vret hex hbc hrt hlocks hK hP hD hS rfl dX2_copy_76
set_option maxHeartbeats 4000000 in
set_option maxRecDepth 100000 in
theorem mX2_copy_q3 (l : Launch) (G : va_G) (cx a : Nat → Nat) (σ : Nat → Int → Int) : Met l yX2_copy wsX2_copy ({ frames := 1, cells := 0, slots := 0, locals := 60 }) (va_Pc [.ref (a 3), .ref (a 34)] (gW G (tx cx) (XA a) (wx cx a) σ)) (va_Qv (fun u => sc σ 0 (cpo (σ 0) (σ 1) 321) = u) (gW G (tx cx) (XA a) (wx cx a)) (XA a)) 0 0 (XA a) := by
  refine Met.ofW (cc := cX2_copy) (maxL := 2) (ret := none) (by decide) rfl ?_
  intro p e s m args below meth c s₁ B hml hv
  obtain ⟨rfl, hP, hK, hD⟩ := hv
  have hex := B.exec
  have hbc := B.bytes
  have hrt := B.returns
  have hts := atoms_spec (ws := wsX2_copy) B.pre
  have hown : s.vm.findClass RX2 = some m.cls := findClass_of_methodNamed B.named
  have hlocks := B.notSynchronized
  have hS : va_S (XA a) s.heap s.heap [] := va_S.rf
  have hin2 := iX2_copy_X2
  have hl := lv_entry ([.ref (a 3), .ref (a 34)]) (n := 2) (Nat.le_of_ble_eq_true rfl)
  rw [lg_entry_eq]
  generalize (lg_sl ([.ref (a 3), .ref (a 34)]) ++ List.replicate (2 - (lg_sl ([.ref (a 3), .ref (a 34)])).length) Slot.unset).toArray = ls at hl ⊢
  have hl : lv_has ls 2 [(0, .ref (a 3)), (1, .ref (a 34))] := hl
  refine lv_aload_n hex hbc dX2_copy_0 rfl (lv_at hl 0 rfl) ?_
  refine lv_aload_n hex hbc dX2_copy_1 rfl (lv_at hl 1 rfl) ?_
  refine va_get (v := .int (iI (σ 1 321))) hex hbc hts hin2 hown hK hP 34 rfl rfl 0 (by decide) (hts _ (List.mem_of_getElem? (i := 1) rfl)) (fun _ h => h) rfl dX2_copy_2 ?_
  refine va_put hex hbc hts hin2 tyX2 tyX2_ok nmX2 hown hK hP hD hS 3 rfl rfl 0 (by decide) (hts _ (List.mem_of_getElem? (i := 1) rfl)) (fun _ h => h) rfl (tyX2_ok 0 (by decide)) rfl rfl (Nat.le_of_ble_eq_true rfl) dX2_copy_5 (fun H locs hP hD hS => ?_)
  refine lv_aload_n hex hbc dX2_copy_8 rfl (lv_at hl 0 rfl) ?_
  refine lv_aload_n hex hbc dX2_copy_9 rfl (lv_at hl 1 rfl) ?_
  refine va_get (v := .int (iI (σ 1 395))) hex hbc hts hin2 hown hK hP 34 rfl rfl 1 (by decide) (hts _ (List.mem_of_getElem? (i := 2) rfl)) (fun _ h => h) rfl dX2_copy_10 ?_
  refine va_put hex hbc hts hin2 tyX2 tyX2_ok nmX2 hown hK hP hD hS 3 rfl rfl 1 (by decide) (hts _ (List.mem_of_getElem? (i := 2) rfl)) (fun _ h => h) rfl (tyX2_ok 1 (by decide)) rfl rfl (Nat.le_of_ble_eq_true rfl) dX2_copy_13 (fun H locs hP hD hS => ?_)
  refine lv_aload_n hex hbc dX2_copy_16 rfl (lv_at hl 1 rfl) ?_
  refine va_get (v := .ref (a 35)) hex hbc hts hin2 hown hK hP 34 rfl rfl 2 (by decide) (hts _ (List.mem_of_getElem? (i := 3) rfl)) (fun _ h => h) rfl dX2_copy_17 ?_
  refine lv_iconst (v := iI 0) hex hbc dX2_copy_20 rfl ?_
  refine lv_aload_n hex hbc dX2_copy_21 rfl (lv_at hl 0 rfl) ?_
  refine va_get (v := .ref (a 4)) hex hbc hts hin2 hown hK hP 3 rfl rfl 2 (by decide) (hts _ (List.mem_of_getElem? (i := 3) rfl)) (fun _ h => h) rfl dX2_copy_22 ?_
  refine lv_iconst (v := iI 0) hex hbc dX2_copy_25 rfl ?_
  refine lv_bipush (v := iI 64) hex hbc dX2_copy_26 (by decide) ?_
  refine va_copyi (f := aI (fun k => σ 1 (331 + k))) (g := aI (fun k => σ 0 (10 + k))) hex hbc (hml.trans hl.1.symm) hown (hts _ (List.mem_of_getElem? (i := 4) rfl)) (hts _ (List.mem_of_getElem? (i := 5) rfl)) (hts _ (List.mem_of_getElem? (i := 6) rfl)) (hts _ (List.mem_of_getElem? (i := 7) rfl)) hK hP hD hS 35 4 0 0 rfl rfl rfl rfl rfl (by decide) (by decide) (by decide) (by decide) (by decide) (fun _ _ => rfl) (Nat.le_of_ble_eq_true rfl) (by decide) dX2_copy_28 (fun H locs hP hD hS => ?_)
  refine lv_aload_n hex hbc dX2_copy_31 rfl (lv_at hl 1 rfl) ?_
  refine va_get (v := .ref (a 36)) hex hbc hts hin2 hown hK hP 34 rfl rfl 3 (by decide) (hts _ (List.mem_of_getElem? (i := 8) rfl)) (fun _ h => h) rfl dX2_copy_32 ?_
  refine lv_iconst (v := iI 0) hex hbc dX2_copy_35 rfl ?_
  refine lv_aload_n hex hbc dX2_copy_36 rfl (lv_at hl 0 rfl) ?_
  refine va_get (v := .ref (a 5)) hex hbc hts hin2 hown hK hP 3 rfl rfl 3 (by decide) (hts _ (List.mem_of_getElem? (i := 8) rfl)) (fun _ h => h) rfl dX2_copy_37 ?_
  refine lv_iconst (v := iI 0) hex hbc dX2_copy_40 rfl ?_
  refine lv_bipush (v := iI 9) hex hbc dX2_copy_41 (by decide) ?_
  refine va_copyi (f := aI (fun k => σ 1 (322 + k))) (g := aI (fun k => σ 0 (1 + k))) hex hbc (hml.trans hl.1.symm) hown (hts _ (List.mem_of_getElem? (i := 4) rfl)) (hts _ (List.mem_of_getElem? (i := 5) rfl)) (hts _ (List.mem_of_getElem? (i := 6) rfl)) (hts _ (List.mem_of_getElem? (i := 7) rfl)) hK hP hD hS 36 5 0 0 rfl rfl rfl rfl rfl (by decide) (by decide) (by decide) (by decide) (by decide) (fun _ _ => rfl) (Nat.le_of_ble_eq_true rfl) (by decide) dX2_copy_43 (fun H locs hP hD hS => ?_)
  refine lv_aload_n hex hbc dX2_copy_46 rfl (lv_at hl 1 rfl) ?_
  refine va_get (v := .ref (a 37)) hex hbc hts hin2 hown hK hP 34 rfl rfl 4 (by decide) (hts _ (List.mem_of_getElem? (i := 9) rfl)) (fun _ h => h) rfl dX2_copy_47 ?_
  refine lv_iconst (v := iI 0) hex hbc dX2_copy_50 rfl ?_
  refine lv_aload_n hex hbc dX2_copy_51 rfl (lv_at hl 0 rfl) ?_
  refine va_get (v := .ref (a 6)) hex hbc hts hin2 hown hK hP 3 rfl rfl 4 (by decide) (hts _ (List.mem_of_getElem? (i := 9) rfl)) (fun _ h => h) rfl dX2_copy_52 ?_
  refine lv_iconst (v := iI 0) hex hbc dX2_copy_55 rfl ?_
  refine lv_bipush (v := iI 16) hex hbc dX2_copy_56 (by decide) ?_
  refine va_copyi (f := aI (fun k => σ 1 (396 + k))) (g := aI (fun k => σ 0 (75 + k))) hex hbc (hml.trans hl.1.symm) hown (hts _ (List.mem_of_getElem? (i := 4) rfl)) (hts _ (List.mem_of_getElem? (i := 5) rfl)) (hts _ (List.mem_of_getElem? (i := 6) rfl)) (hts _ (List.mem_of_getElem? (i := 7) rfl)) hK hP hD hS 37 6 0 0 rfl rfl rfl rfl rfl (by decide) (by decide) (by decide) (by decide) (by decide) (fun _ _ => rfl) (Nat.le_of_ble_eq_true rfl) (by decide) dX2_copy_58 (fun H locs hP hD hS => ?_)
  refine lv_aload_n hex hbc dX2_copy_61 rfl (lv_at hl 1 rfl) ?_
  refine va_get (v := .ref (a 38)) hex hbc hts hin2 hown hK hP 34 rfl rfl 5 (by decide) (hts _ (List.mem_of_getElem? (i := 10) rfl)) (fun _ h => h) rfl dX2_copy_62 ?_
  refine lv_iconst (v := iI 0) hex hbc dX2_copy_65 rfl ?_
  refine lv_aload_n hex hbc dX2_copy_66 rfl (lv_at hl 0 rfl) ?_
  refine va_get (v := .ref (a 7)) hex hbc hts hin2 hown hK hP 3 rfl rfl 5 (by decide) (hts _ (List.mem_of_getElem? (i := 10) rfl)) (fun _ h => h) rfl dX2_copy_67 ?_
  refine lv_iconst (v := iI 0) hex hbc dX2_copy_70 rfl ?_
  refine lv_bipush (v := iI 16) hex hbc dX2_copy_71 (by decide) ?_
  refine va_copyi (f := aI (fun k => σ 1 (412 + k))) (g := aI (fun k => σ 0 (91 + k))) hex hbc (hml.trans hl.1.symm) hown (hts _ (List.mem_of_getElem? (i := 4) rfl)) (hts _ (List.mem_of_getElem? (i := 5) rfl)) (hts _ (List.mem_of_getElem? (i := 6) rfl)) (hts _ (List.mem_of_getElem? (i := 7) rfl)) hK hP hD hS 38 7 0 0 rfl rfl rfl rfl rfl (by decide) (by decide) (by decide) (by decide) (by decide) (fun _ _ => rfl) (Nat.le_of_ble_eq_true rfl) (by decide) dX2_copy_73 (fun H locs hP hD hS => ?_)
  have hP := leW_P (ws' := wx cx a (sc σ 0 (cpo (σ 0) (σ 1) 321))) (wx_cp_q3 (G := G) (cx := cx) (a := a) (σ := σ)) hP
  have hD := leW_D (ws' := wx cx a (sc σ 0 (cpo (σ 0) (σ 1) 321))) (wx_cp_q3 (G := G) (cx := cx) (a := a) (σ := σ)) hD
  exact g_vret hex hbc hrt hlocks hK hP hD hS rfl dX2_copy_76
set_option maxHeartbeats 4000000 in
set_option maxRecDepth 100000 in
theorem mX2_copy_q4 (l : Launch) (G : va_G) (cx a : Nat → Nat) (σ : Nat → Int → Int) : Met l yX2_copy wsX2_copy ({ frames := 1, cells := 0, slots := 0, locals := 60 }) (va_Pc [.ref (a 3), .ref (a 39)] (gW G (tx cx) (XA a) (wx cx a) σ)) (va_Qv (fun u => sc σ 0 (cpo (σ 0) (σ 1) 428) = u) (gW G (tx cx) (XA a) (wx cx a)) (XA a)) 0 0 (XA a) := by
  refine Met.ofW (cc := cX2_copy) (maxL := 2) (ret := none) (by decide) rfl ?_
  intro p e s m args below meth c s₁ B hml hv
  obtain ⟨rfl, hP, hK, hD⟩ := hv
  have hex := B.exec
  have hbc := B.bytes
  have hrt := B.returns
  have hts := atoms_spec (ws := wsX2_copy) B.pre
  have hown : s.vm.findClass RX2 = some m.cls := findClass_of_methodNamed B.named
  have hlocks := B.notSynchronized
  have hS : va_S (XA a) s.heap s.heap [] := va_S.rf
  have hin2 := iX2_copy_X2
  have hl := lv_entry ([.ref (a 3), .ref (a 39)]) (n := 2) (Nat.le_of_ble_eq_true rfl)
  rw [lg_entry_eq]
  generalize (lg_sl ([.ref (a 3), .ref (a 39)]) ++ List.replicate (2 - (lg_sl ([.ref (a 3), .ref (a 39)])).length) Slot.unset).toArray = ls at hl ⊢
  have hl : lv_has ls 2 [(0, .ref (a 3)), (1, .ref (a 39))] := hl
  refine lv_aload_n hex hbc dX2_copy_0 rfl (lv_at hl 0 rfl) ?_
  refine lv_aload_n hex hbc dX2_copy_1 rfl (lv_at hl 1 rfl) ?_
  refine va_get (v := .int (iI (σ 1 428))) hex hbc hts hin2 hown hK hP 39 rfl rfl 0 (by decide) (hts _ (List.mem_of_getElem? (i := 1) rfl)) (fun _ h => h) rfl dX2_copy_2 ?_
  refine va_put hex hbc hts hin2 tyX2 tyX2_ok nmX2 hown hK hP hD hS 3 rfl rfl 0 (by decide) (hts _ (List.mem_of_getElem? (i := 1) rfl)) (fun _ h => h) rfl (tyX2_ok 0 (by decide)) rfl rfl (Nat.le_of_ble_eq_true rfl) dX2_copy_5 (fun H locs hP hD hS => ?_)
  refine lv_aload_n hex hbc dX2_copy_8 rfl (lv_at hl 0 rfl) ?_
  refine lv_aload_n hex hbc dX2_copy_9 rfl (lv_at hl 1 rfl) ?_
  refine va_get (v := .int (iI (σ 1 502))) hex hbc hts hin2 hown hK hP 39 rfl rfl 1 (by decide) (hts _ (List.mem_of_getElem? (i := 2) rfl)) (fun _ h => h) rfl dX2_copy_10 ?_
  refine va_put hex hbc hts hin2 tyX2 tyX2_ok nmX2 hown hK hP hD hS 3 rfl rfl 1 (by decide) (hts _ (List.mem_of_getElem? (i := 2) rfl)) (fun _ h => h) rfl (tyX2_ok 1 (by decide)) rfl rfl (Nat.le_of_ble_eq_true rfl) dX2_copy_13 (fun H locs hP hD hS => ?_)
  refine lv_aload_n hex hbc dX2_copy_16 rfl (lv_at hl 1 rfl) ?_
  refine va_get (v := .ref (a 40)) hex hbc hts hin2 hown hK hP 39 rfl rfl 2 (by decide) (hts _ (List.mem_of_getElem? (i := 3) rfl)) (fun _ h => h) rfl dX2_copy_17 ?_
  refine lv_iconst (v := iI 0) hex hbc dX2_copy_20 rfl ?_
  refine lv_aload_n hex hbc dX2_copy_21 rfl (lv_at hl 0 rfl) ?_
  refine va_get (v := .ref (a 4)) hex hbc hts hin2 hown hK hP 3 rfl rfl 2 (by decide) (hts _ (List.mem_of_getElem? (i := 3) rfl)) (fun _ h => h) rfl dX2_copy_22 ?_
  refine lv_iconst (v := iI 0) hex hbc dX2_copy_25 rfl ?_
  refine lv_bipush (v := iI 64) hex hbc dX2_copy_26 (by decide) ?_
  refine va_copyi (f := aI (fun k => σ 1 (438 + k))) (g := aI (fun k => σ 0 (10 + k))) hex hbc (hml.trans hl.1.symm) hown (hts _ (List.mem_of_getElem? (i := 4) rfl)) (hts _ (List.mem_of_getElem? (i := 5) rfl)) (hts _ (List.mem_of_getElem? (i := 6) rfl)) (hts _ (List.mem_of_getElem? (i := 7) rfl)) hK hP hD hS 40 4 0 0 rfl rfl rfl rfl rfl (by decide) (by decide) (by decide) (by decide) (by decide) (fun _ _ => rfl) (Nat.le_of_ble_eq_true rfl) (by decide) dX2_copy_28 (fun H locs hP hD hS => ?_)
  refine lv_aload_n hex hbc dX2_copy_31 rfl (lv_at hl 1 rfl) ?_
  refine va_get (v := .ref (a 41)) hex hbc hts hin2 hown hK hP 39 rfl rfl 3 (by decide) (hts _ (List.mem_of_getElem? (i := 8) rfl)) (fun _ h => h) rfl dX2_copy_32 ?_
  refine lv_iconst (v := iI 0) hex hbc dX2_copy_35 rfl ?_
  refine lv_aload_n hex hbc dX2_copy_36 rfl (lv_at hl 0 rfl) ?_
  refine va_get (v := .ref (a 5)) hex hbc hts hin2 hown hK hP 3 rfl rfl 3 (by decide) (hts _ (List.mem_of_getElem? (i := 8) rfl)) (fun _ h => h) rfl dX2_copy_37 ?_
  refine lv_iconst (v := iI 0) hex hbc dX2_copy_40 rfl ?_
  refine lv_bipush (v := iI 9) hex hbc dX2_copy_41 (by decide) ?_
  refine va_copyi (f := aI (fun k => σ 1 (429 + k))) (g := aI (fun k => σ 0 (1 + k))) hex hbc (hml.trans hl.1.symm) hown (hts _ (List.mem_of_getElem? (i := 4) rfl)) (hts _ (List.mem_of_getElem? (i := 5) rfl)) (hts _ (List.mem_of_getElem? (i := 6) rfl)) (hts _ (List.mem_of_getElem? (i := 7) rfl)) hK hP hD hS 41 5 0 0 rfl rfl rfl rfl rfl (by decide) (by decide) (by decide) (by decide) (by decide) (fun _ _ => rfl) (Nat.le_of_ble_eq_true rfl) (by decide) dX2_copy_43 (fun H locs hP hD hS => ?_)
  refine lv_aload_n hex hbc dX2_copy_46 rfl (lv_at hl 1 rfl) ?_
  refine va_get (v := .ref (a 42)) hex hbc hts hin2 hown hK hP 39 rfl rfl 4 (by decide) (hts _ (List.mem_of_getElem? (i := 9) rfl)) (fun _ h => h) rfl dX2_copy_47 ?_
  refine lv_iconst (v := iI 0) hex hbc dX2_copy_50 rfl ?_
  refine lv_aload_n hex hbc dX2_copy_51 rfl (lv_at hl 0 rfl) ?_
  refine va_get (v := .ref (a 6)) hex hbc hts hin2 hown hK hP 3 rfl rfl 4 (by decide) (hts _ (List.mem_of_getElem? (i := 9) rfl)) (fun _ h => h) rfl dX2_copy_52 ?_
  refine lv_iconst (v := iI 0) hex hbc dX2_copy_55 rfl ?_
  refine lv_bipush (v := iI 16) hex hbc dX2_copy_56 (by decide) ?_
  refine va_copyi (f := aI (fun k => σ 1 (503 + k))) (g := aI (fun k => σ 0 (75 + k))) hex hbc (hml.trans hl.1.symm) hown (hts _ (List.mem_of_getElem? (i := 4) rfl)) (hts _ (List.mem_of_getElem? (i := 5) rfl)) (hts _ (List.mem_of_getElem? (i := 6) rfl)) (hts _ (List.mem_of_getElem? (i := 7) rfl)) hK hP hD hS 42 6 0 0 rfl rfl rfl rfl rfl (by decide) (by decide) (by decide) (by decide) (by decide) (fun _ _ => rfl) (Nat.le_of_ble_eq_true rfl) (by decide) dX2_copy_58 (fun H locs hP hD hS => ?_)
  refine lv_aload_n hex hbc dX2_copy_61 rfl (lv_at hl 1 rfl) ?_
  refine va_get (v := .ref (a 43)) hex hbc hts hin2 hown hK hP 39 rfl rfl 5 (by decide) (hts _ (List.mem_of_getElem? (i := 10) rfl)) (fun _ h => h) rfl dX2_copy_62 ?_
  refine lv_iconst (v := iI 0) hex hbc dX2_copy_65 rfl ?_
  refine lv_aload_n hex hbc dX2_copy_66 rfl (lv_at hl 0 rfl) ?_
  refine va_get (v := .ref (a 7)) hex hbc hts hin2 hown hK hP 3 rfl rfl 5 (by decide) (hts _ (List.mem_of_getElem? (i := 10) rfl)) (fun _ h => h) rfl dX2_copy_67 ?_
  refine lv_iconst (v := iI 0) hex hbc dX2_copy_70 rfl ?_
  refine lv_bipush (v := iI 16) hex hbc dX2_copy_71 (by decide) ?_
  refine va_copyi (f := aI (fun k => σ 1 (519 + k))) (g := aI (fun k => σ 0 (91 + k))) hex hbc (hml.trans hl.1.symm) hown (hts _ (List.mem_of_getElem? (i := 4) rfl)) (hts _ (List.mem_of_getElem? (i := 5) rfl)) (hts _ (List.mem_of_getElem? (i := 6) rfl)) (hts _ (List.mem_of_getElem? (i := 7) rfl)) hK hP hD hS 43 7 0 0 rfl rfl rfl rfl rfl (by decide) (by decide) (by decide) (by decide) (by decide) (fun _ _ => rfl) (Nat.le_of_ble_eq_true rfl) (by decide) dX2_copy_73 (fun H locs hP hD hS => ?_)
  have hP := leW_P (ws' := wx cx a (sc σ 0 (cpo (σ 0) (σ 1) 428))) (wx_cp_q4 (G := G) (cx := cx) (a := a) (σ := σ)) hP
  have hD := leW_D (ws' := wx cx a (sc σ 0 (cpo (σ 0) (σ 1) 428))) (wx_cp_q4 (G := G) (cx := cx) (a := a) (σ := σ)) hD
  exact g_vret hex hbc hrt hlocks hK hP hD hS rfl dX2_copy_76
set_option maxHeartbeats 4000000 in
set_option maxRecDepth 100000 in
theorem mX2_copy_q5 (l : Launch) (G : va_G) (cx a : Nat → Nat) (σ : Nat → Int → Int) : Met l yX2_copy wsX2_copy ({ frames := 1, cells := 0, slots := 0, locals := 60 }) (va_Pc [.ref (a 3), .ref (a 44)] (gW G (tx cx) (XA a) (wx cx a) σ)) (va_Qv (fun u => sc σ 0 (cpo (σ 0) (σ 1) 535) = u) (gW G (tx cx) (XA a) (wx cx a)) (XA a)) 0 0 (XA a) := by
  refine Met.ofW (cc := cX2_copy) (maxL := 2) (ret := none) (by decide) rfl ?_
  intro p e s m args below meth c s₁ B hml hv
  obtain ⟨rfl, hP, hK, hD⟩ := hv
  have hex := B.exec
  have hbc := B.bytes
  have hrt := B.returns
  have hts := atoms_spec (ws := wsX2_copy) B.pre
  have hown : s.vm.findClass RX2 = some m.cls := findClass_of_methodNamed B.named
  have hlocks := B.notSynchronized
  have hS : va_S (XA a) s.heap s.heap [] := va_S.rf
  have hin2 := iX2_copy_X2
  have hl := lv_entry ([.ref (a 3), .ref (a 44)]) (n := 2) (Nat.le_of_ble_eq_true rfl)
  rw [lg_entry_eq]
  generalize (lg_sl ([.ref (a 3), .ref (a 44)]) ++ List.replicate (2 - (lg_sl ([.ref (a 3), .ref (a 44)])).length) Slot.unset).toArray = ls at hl ⊢
  have hl : lv_has ls 2 [(0, .ref (a 3)), (1, .ref (a 44))] := hl
  refine lv_aload_n hex hbc dX2_copy_0 rfl (lv_at hl 0 rfl) ?_
  refine lv_aload_n hex hbc dX2_copy_1 rfl (lv_at hl 1 rfl) ?_
  refine va_get (v := .int (iI (σ 1 535))) hex hbc hts hin2 hown hK hP 44 rfl rfl 0 (by decide) (hts _ (List.mem_of_getElem? (i := 1) rfl)) (fun _ h => h) rfl dX2_copy_2 ?_
  refine va_put hex hbc hts hin2 tyX2 tyX2_ok nmX2 hown hK hP hD hS 3 rfl rfl 0 (by decide) (hts _ (List.mem_of_getElem? (i := 1) rfl)) (fun _ h => h) rfl (tyX2_ok 0 (by decide)) rfl rfl (Nat.le_of_ble_eq_true rfl) dX2_copy_5 (fun H locs hP hD hS => ?_)
  refine lv_aload_n hex hbc dX2_copy_8 rfl (lv_at hl 0 rfl) ?_
  refine lv_aload_n hex hbc dX2_copy_9 rfl (lv_at hl 1 rfl) ?_
  refine va_get (v := .int (iI (σ 1 609))) hex hbc hts hin2 hown hK hP 44 rfl rfl 1 (by decide) (hts _ (List.mem_of_getElem? (i := 2) rfl)) (fun _ h => h) rfl dX2_copy_10 ?_
  refine va_put hex hbc hts hin2 tyX2 tyX2_ok nmX2 hown hK hP hD hS 3 rfl rfl 1 (by decide) (hts _ (List.mem_of_getElem? (i := 2) rfl)) (fun _ h => h) rfl (tyX2_ok 1 (by decide)) rfl rfl (Nat.le_of_ble_eq_true rfl) dX2_copy_13 (fun H locs hP hD hS => ?_)
  refine lv_aload_n hex hbc dX2_copy_16 rfl (lv_at hl 1 rfl) ?_
  refine va_get (v := .ref (a 45)) hex hbc hts hin2 hown hK hP 44 rfl rfl 2 (by decide) (hts _ (List.mem_of_getElem? (i := 3) rfl)) (fun _ h => h) rfl dX2_copy_17 ?_
  refine lv_iconst (v := iI 0) hex hbc dX2_copy_20 rfl ?_
  refine lv_aload_n hex hbc dX2_copy_21 rfl (lv_at hl 0 rfl) ?_
  refine va_get (v := .ref (a 4)) hex hbc hts hin2 hown hK hP 3 rfl rfl 2 (by decide) (hts _ (List.mem_of_getElem? (i := 3) rfl)) (fun _ h => h) rfl dX2_copy_22 ?_
  refine lv_iconst (v := iI 0) hex hbc dX2_copy_25 rfl ?_
  refine lv_bipush (v := iI 64) hex hbc dX2_copy_26 (by decide) ?_
  refine va_copyi (f := aI (fun k => σ 1 (545 + k))) (g := aI (fun k => σ 0 (10 + k))) hex hbc (hml.trans hl.1.symm) hown (hts _ (List.mem_of_getElem? (i := 4) rfl)) (hts _ (List.mem_of_getElem? (i := 5) rfl)) (hts _ (List.mem_of_getElem? (i := 6) rfl)) (hts _ (List.mem_of_getElem? (i := 7) rfl)) hK hP hD hS 45 4 0 0 rfl rfl rfl rfl rfl (by decide) (by decide) (by decide) (by decide) (by decide) (fun _ _ => rfl) (Nat.le_of_ble_eq_true rfl) (by decide) dX2_copy_28 (fun H locs hP hD hS => ?_)
  refine lv_aload_n hex hbc dX2_copy_31 rfl (lv_at hl 1 rfl) ?_
  refine va_get (v := .ref (a 46)) hex hbc hts hin2 hown hK hP 44 rfl rfl 3 (by decide) (hts _ (List.mem_of_getElem? (i := 8) rfl)) (fun _ h => h) rfl dX2_copy_32 ?_
  refine lv_iconst (v := iI 0) hex hbc dX2_copy_35 rfl ?_
  refine lv_aload_n hex hbc dX2_copy_36 rfl (lv_at hl 0 rfl) ?_
  refine va_get (v := .ref (a 5)) hex hbc hts hin2 hown hK hP 3 rfl rfl 3 (by decide) (hts _ (List.mem_of_getElem? (i := 8) rfl)) (fun _ h => h) rfl dX2_copy_37 ?_
  refine lv_iconst (v := iI 0) hex hbc dX2_copy_40 rfl ?_
  refine lv_bipush (v := iI 9) hex hbc dX2_copy_41 (by decide) ?_
  refine va_copyi (f := aI (fun k => σ 1 (536 + k))) (g := aI (fun k => σ 0 (1 + k))) hex hbc (hml.trans hl.1.symm) hown (hts _ (List.mem_of_getElem? (i := 4) rfl)) (hts _ (List.mem_of_getElem? (i := 5) rfl)) (hts _ (List.mem_of_getElem? (i := 6) rfl)) (hts _ (List.mem_of_getElem? (i := 7) rfl)) hK hP hD hS 46 5 0 0 rfl rfl rfl rfl rfl (by decide) (by decide) (by decide) (by decide) (by decide) (fun _ _ => rfl) (Nat.le_of_ble_eq_true rfl) (by decide) dX2_copy_43 (fun H locs hP hD hS => ?_)
  refine lv_aload_n hex hbc dX2_copy_46 rfl (lv_at hl 1 rfl) ?_
  refine va_get (v := .ref (a 47)) hex hbc hts hin2 hown hK hP 44 rfl rfl 4 (by decide) (hts _ (List.mem_of_getElem? (i := 9) rfl)) (fun _ h => h) rfl dX2_copy_47 ?_
  refine lv_iconst (v := iI 0) hex hbc dX2_copy_50 rfl ?_
  refine lv_aload_n hex hbc dX2_copy_51 rfl (lv_at hl 0 rfl) ?_
  refine va_get (v := .ref (a 6)) hex hbc hts hin2 hown hK hP 3 rfl rfl 4 (by decide) (hts _ (List.mem_of_getElem? (i := 9) rfl)) (fun _ h => h) rfl dX2_copy_52 ?_
  refine lv_iconst (v := iI 0) hex hbc dX2_copy_55 rfl ?_
  refine lv_bipush (v := iI 16) hex hbc dX2_copy_56 (by decide) ?_
  refine va_copyi (f := aI (fun k => σ 1 (610 + k))) (g := aI (fun k => σ 0 (75 + k))) hex hbc (hml.trans hl.1.symm) hown (hts _ (List.mem_of_getElem? (i := 4) rfl)) (hts _ (List.mem_of_getElem? (i := 5) rfl)) (hts _ (List.mem_of_getElem? (i := 6) rfl)) (hts _ (List.mem_of_getElem? (i := 7) rfl)) hK hP hD hS 47 6 0 0 rfl rfl rfl rfl rfl (by decide) (by decide) (by decide) (by decide) (by decide) (fun _ _ => rfl) (Nat.le_of_ble_eq_true rfl) (by decide) dX2_copy_58 (fun H locs hP hD hS => ?_)
  refine lv_aload_n hex hbc dX2_copy_61 rfl (lv_at hl 1 rfl) ?_
  refine va_get (v := .ref (a 48)) hex hbc hts hin2 hown hK hP 44 rfl rfl 5 (by decide) (hts _ (List.mem_of_getElem? (i := 10) rfl)) (fun _ h => h) rfl dX2_copy_62 ?_
  refine lv_iconst (v := iI 0) hex hbc dX2_copy_65 rfl ?_
  refine lv_aload_n hex hbc dX2_copy_66 rfl (lv_at hl 0 rfl) ?_
  refine va_get (v := .ref (a 7)) hex hbc hts hin2 hown hK hP 3 rfl rfl 5 (by decide) (hts _ (List.mem_of_getElem? (i := 10) rfl)) (fun _ h => h) rfl dX2_copy_67 ?_
  refine lv_iconst (v := iI 0) hex hbc dX2_copy_70 rfl ?_
  refine lv_bipush (v := iI 16) hex hbc dX2_copy_71 (by decide) ?_
  refine va_copyi (f := aI (fun k => σ 1 (626 + k))) (g := aI (fun k => σ 0 (91 + k))) hex hbc (hml.trans hl.1.symm) hown (hts _ (List.mem_of_getElem? (i := 4) rfl)) (hts _ (List.mem_of_getElem? (i := 5) rfl)) (hts _ (List.mem_of_getElem? (i := 6) rfl)) (hts _ (List.mem_of_getElem? (i := 7) rfl)) hK hP hD hS 48 7 0 0 rfl rfl rfl rfl rfl (by decide) (by decide) (by decide) (by decide) (by decide) (fun _ _ => rfl) (Nat.le_of_ble_eq_true rfl) (by decide) dX2_copy_73 (fun H locs hP hD hS => ?_)
  have hP := leW_P (ws' := wx cx a (sc σ 0 (cpo (σ 0) (σ 1) 535))) (wx_cp_q5 (G := G) (cx := cx) (a := a) (σ := σ)) hP
  have hD := leW_D (ws' := wx cx a (sc σ 0 (cpo (σ 0) (σ 1) 535))) (wx_cp_q5 (G := G) (cx := cx) (a := a) (σ := σ)) hD
  exact g_vret hex hbc hrt hlocks hK hP hD hS rfl dX2_copy_76
set_option maxHeartbeats 4000000 in
set_option maxRecDepth 100000 in
theorem mX2_copy_q6 (l : Launch) (G : va_G) (cx a : Nat → Nat) (σ : Nat → Int → Int) : Met l yX2_copy wsX2_copy ({ frames := 1, cells := 0, slots := 0, locals := 60 }) (va_Pc [.ref (a 3), .ref (a 49)] (gW G (tx cx) (XA a) (wx cx a) σ)) (va_Qv (fun u => sc σ 0 (cpo (σ 0) (σ 1) 642) = u) (gW G (tx cx) (XA a) (wx cx a)) (XA a)) 0 0 (XA a) := by
  refine Met.ofW (cc := cX2_copy) (maxL := 2) (ret := none) (by decide) rfl ?_
  intro p e s m args below meth c s₁ B hml hv
  obtain ⟨rfl, hP, hK, hD⟩ := hv
  have hex := B.exec
  have hbc := B.bytes
  have hrt := B.returns
  have hts := atoms_spec (ws := wsX2_copy) B.pre
  have hown : s.vm.findClass RX2 = some m.cls := findClass_of_methodNamed B.named
  have hlocks := B.notSynchronized
  have hS : va_S (XA a) s.heap s.heap [] := va_S.rf
  have hin2 := iX2_copy_X2
  have hl := lv_entry ([.ref (a 3), .ref (a 49)]) (n := 2) (Nat.le_of_ble_eq_true rfl)
  rw [lg_entry_eq]
  generalize (lg_sl ([.ref (a 3), .ref (a 49)]) ++ List.replicate (2 - (lg_sl ([.ref (a 3), .ref (a 49)])).length) Slot.unset).toArray = ls at hl ⊢
  have hl : lv_has ls 2 [(0, .ref (a 3)), (1, .ref (a 49))] := hl
  refine lv_aload_n hex hbc dX2_copy_0 rfl (lv_at hl 0 rfl) ?_
  refine lv_aload_n hex hbc dX2_copy_1 rfl (lv_at hl 1 rfl) ?_
  refine va_get (v := .int (iI (σ 1 642))) hex hbc hts hin2 hown hK hP 49 rfl rfl 0 (by decide) (hts _ (List.mem_of_getElem? (i := 1) rfl)) (fun _ h => h) rfl dX2_copy_2 ?_
  refine va_put hex hbc hts hin2 tyX2 tyX2_ok nmX2 hown hK hP hD hS 3 rfl rfl 0 (by decide) (hts _ (List.mem_of_getElem? (i := 1) rfl)) (fun _ h => h) rfl (tyX2_ok 0 (by decide)) rfl rfl (Nat.le_of_ble_eq_true rfl) dX2_copy_5 (fun H locs hP hD hS => ?_)
  refine lv_aload_n hex hbc dX2_copy_8 rfl (lv_at hl 0 rfl) ?_
  refine lv_aload_n hex hbc dX2_copy_9 rfl (lv_at hl 1 rfl) ?_
  refine va_get (v := .int (iI (σ 1 716))) hex hbc hts hin2 hown hK hP 49 rfl rfl 1 (by decide) (hts _ (List.mem_of_getElem? (i := 2) rfl)) (fun _ h => h) rfl dX2_copy_10 ?_
  refine va_put hex hbc hts hin2 tyX2 tyX2_ok nmX2 hown hK hP hD hS 3 rfl rfl 1 (by decide) (hts _ (List.mem_of_getElem? (i := 2) rfl)) (fun _ h => h) rfl (tyX2_ok 1 (by decide)) rfl rfl (Nat.le_of_ble_eq_true rfl) dX2_copy_13 (fun H locs hP hD hS => ?_)
  refine lv_aload_n hex hbc dX2_copy_16 rfl (lv_at hl 1 rfl) ?_
  refine va_get (v := .ref (a 50)) hex hbc hts hin2 hown hK hP 49 rfl rfl 2 (by decide) (hts _ (List.mem_of_getElem? (i := 3) rfl)) (fun _ h => h) rfl dX2_copy_17 ?_
  refine lv_iconst (v := iI 0) hex hbc dX2_copy_20 rfl ?_
  refine lv_aload_n hex hbc dX2_copy_21 rfl (lv_at hl 0 rfl) ?_
  refine va_get (v := .ref (a 4)) hex hbc hts hin2 hown hK hP 3 rfl rfl 2 (by decide) (hts _ (List.mem_of_getElem? (i := 3) rfl)) (fun _ h => h) rfl dX2_copy_22 ?_
  refine lv_iconst (v := iI 0) hex hbc dX2_copy_25 rfl ?_
  refine lv_bipush (v := iI 64) hex hbc dX2_copy_26 (by decide) ?_
  refine va_copyi (f := aI (fun k => σ 1 (652 + k))) (g := aI (fun k => σ 0 (10 + k))) hex hbc (hml.trans hl.1.symm) hown (hts _ (List.mem_of_getElem? (i := 4) rfl)) (hts _ (List.mem_of_getElem? (i := 5) rfl)) (hts _ (List.mem_of_getElem? (i := 6) rfl)) (hts _ (List.mem_of_getElem? (i := 7) rfl)) hK hP hD hS 50 4 0 0 rfl rfl rfl rfl rfl (by decide) (by decide) (by decide) (by decide) (by decide) (fun _ _ => rfl) (Nat.le_of_ble_eq_true rfl) (by decide) dX2_copy_28 (fun H locs hP hD hS => ?_)
  refine lv_aload_n hex hbc dX2_copy_31 rfl (lv_at hl 1 rfl) ?_
  refine va_get (v := .ref (a 51)) hex hbc hts hin2 hown hK hP 49 rfl rfl 3 (by decide) (hts _ (List.mem_of_getElem? (i := 8) rfl)) (fun _ h => h) rfl dX2_copy_32 ?_
  refine lv_iconst (v := iI 0) hex hbc dX2_copy_35 rfl ?_
  refine lv_aload_n hex hbc dX2_copy_36 rfl (lv_at hl 0 rfl) ?_
  refine va_get (v := .ref (a 5)) hex hbc hts hin2 hown hK hP 3 rfl rfl 3 (by decide) (hts _ (List.mem_of_getElem? (i := 8) rfl)) (fun _ h => h) rfl dX2_copy_37 ?_
  refine lv_iconst (v := iI 0) hex hbc dX2_copy_40 rfl ?_
  refine lv_bipush (v := iI 9) hex hbc dX2_copy_41 (by decide) ?_
  refine va_copyi (f := aI (fun k => σ 1 (643 + k))) (g := aI (fun k => σ 0 (1 + k))) hex hbc (hml.trans hl.1.symm) hown (hts _ (List.mem_of_getElem? (i := 4) rfl)) (hts _ (List.mem_of_getElem? (i := 5) rfl)) (hts _ (List.mem_of_getElem? (i := 6) rfl)) (hts _ (List.mem_of_getElem? (i := 7) rfl)) hK hP hD hS 51 5 0 0 rfl rfl rfl rfl rfl (by decide) (by decide) (by decide) (by decide) (by decide) (fun _ _ => rfl) (Nat.le_of_ble_eq_true rfl) (by decide) dX2_copy_43 (fun H locs hP hD hS => ?_)
  refine lv_aload_n hex hbc dX2_copy_46 rfl (lv_at hl 1 rfl) ?_
  refine va_get (v := .ref (a 52)) hex hbc hts hin2 hown hK hP 49 rfl rfl 4 (by decide) (hts _ (List.mem_of_getElem? (i := 9) rfl)) (fun _ h => h) rfl dX2_copy_47 ?_
  refine lv_iconst (v := iI 0) hex hbc dX2_copy_50 rfl ?_
  refine lv_aload_n hex hbc dX2_copy_51 rfl (lv_at hl 0 rfl) ?_
  refine va_get (v := .ref (a 6)) hex hbc hts hin2 hown hK hP 3 rfl rfl 4 (by decide) (hts _ (List.mem_of_getElem? (i := 9) rfl)) (fun _ h => h) rfl dX2_copy_52 ?_
  refine lv_iconst (v := iI 0) hex hbc dX2_copy_55 rfl ?_
  refine lv_bipush (v := iI 16) hex hbc dX2_copy_56 (by decide) ?_
  refine va_copyi (f := aI (fun k => σ 1 (717 + k))) (g := aI (fun k => σ 0 (75 + k))) hex hbc (hml.trans hl.1.symm) hown (hts _ (List.mem_of_getElem? (i := 4) rfl)) (hts _ (List.mem_of_getElem? (i := 5) rfl)) (hts _ (List.mem_of_getElem? (i := 6) rfl)) (hts _ (List.mem_of_getElem? (i := 7) rfl)) hK hP hD hS 52 6 0 0 rfl rfl rfl rfl rfl (by decide) (by decide) (by decide) (by decide) (by decide) (fun _ _ => rfl) (Nat.le_of_ble_eq_true rfl) (by decide) dX2_copy_58 (fun H locs hP hD hS => ?_)
  refine lv_aload_n hex hbc dX2_copy_61 rfl (lv_at hl 1 rfl) ?_
  refine va_get (v := .ref (a 53)) hex hbc hts hin2 hown hK hP 49 rfl rfl 5 (by decide) (hts _ (List.mem_of_getElem? (i := 10) rfl)) (fun _ h => h) rfl dX2_copy_62 ?_
  refine lv_iconst (v := iI 0) hex hbc dX2_copy_65 rfl ?_
  refine lv_aload_n hex hbc dX2_copy_66 rfl (lv_at hl 0 rfl) ?_
  refine va_get (v := .ref (a 7)) hex hbc hts hin2 hown hK hP 3 rfl rfl 5 (by decide) (hts _ (List.mem_of_getElem? (i := 10) rfl)) (fun _ h => h) rfl dX2_copy_67 ?_
  refine lv_iconst (v := iI 0) hex hbc dX2_copy_70 rfl ?_
  refine lv_bipush (v := iI 16) hex hbc dX2_copy_71 (by decide) ?_
  refine va_copyi (f := aI (fun k => σ 1 (733 + k))) (g := aI (fun k => σ 0 (91 + k))) hex hbc (hml.trans hl.1.symm) hown (hts _ (List.mem_of_getElem? (i := 4) rfl)) (hts _ (List.mem_of_getElem? (i := 5) rfl)) (hts _ (List.mem_of_getElem? (i := 6) rfl)) (hts _ (List.mem_of_getElem? (i := 7) rfl)) hK hP hD hS 53 7 0 0 rfl rfl rfl rfl rfl (by decide) (by decide) (by decide) (by decide) (by decide) (fun _ _ => rfl) (Nat.le_of_ble_eq_true rfl) (by decide) dX2_copy_73 (fun H locs hP hD hS => ?_)
  have hP := leW_P (ws' := wx cx a (sc σ 0 (cpo (σ 0) (σ 1) 642))) (wx_cp_q6 (G := G) (cx := cx) (a := a) (σ := σ)) hP
  have hD := leW_D (ws' := wx cx a (sc σ 0 (cpo (σ 0) (σ 1) 642))) (wx_cp_q6 (G := G) (cx := cx) (a := a) (σ := σ)) hD
  exact g_vret hex hbc hrt hlocks hK hP hD hS rfl dX2_copy_76
set_option maxHeartbeats 4000000 in
set_option maxRecDepth 100000 in
theorem mX2_copy_q7 (l : Launch) (G : va_G) (cx a : Nat → Nat) (σ : Nat → Int → Int) : Met l yX2_copy wsX2_copy ({ frames := 1, cells := 0, slots := 0, locals := 60 }) (va_Pc [.ref (a 3), .ref (a 54)] (gW G (tx cx) (XA a) (wx cx a) σ)) (va_Qv (fun u => sc σ 0 (cpo (σ 0) (σ 1) 749) = u) (gW G (tx cx) (XA a) (wx cx a)) (XA a)) 0 0 (XA a) := by
  refine Met.ofW (cc := cX2_copy) (maxL := 2) (ret := none) (by decide) rfl ?_
  intro p e s m args below meth c s₁ B hml hv
  obtain ⟨rfl, hP, hK, hD⟩ := hv
  have hex := B.exec
  have hbc := B.bytes
  have hrt := B.returns
  have hts := atoms_spec (ws := wsX2_copy) B.pre
  have hown : s.vm.findClass RX2 = some m.cls := findClass_of_methodNamed B.named
  have hlocks := B.notSynchronized
  have hS : va_S (XA a) s.heap s.heap [] := va_S.rf
  have hin2 := iX2_copy_X2
  have hl := lv_entry ([.ref (a 3), .ref (a 54)]) (n := 2) (Nat.le_of_ble_eq_true rfl)
  rw [lg_entry_eq]
  generalize (lg_sl ([.ref (a 3), .ref (a 54)]) ++ List.replicate (2 - (lg_sl ([.ref (a 3), .ref (a 54)])).length) Slot.unset).toArray = ls at hl ⊢
  have hl : lv_has ls 2 [(0, .ref (a 3)), (1, .ref (a 54))] := hl
  refine lv_aload_n hex hbc dX2_copy_0 rfl (lv_at hl 0 rfl) ?_
  refine lv_aload_n hex hbc dX2_copy_1 rfl (lv_at hl 1 rfl) ?_
  refine va_get (v := .int (iI (σ 1 749))) hex hbc hts hin2 hown hK hP 54 rfl rfl 0 (by decide) (hts _ (List.mem_of_getElem? (i := 1) rfl)) (fun _ h => h) rfl dX2_copy_2 ?_
  refine va_put hex hbc hts hin2 tyX2 tyX2_ok nmX2 hown hK hP hD hS 3 rfl rfl 0 (by decide) (hts _ (List.mem_of_getElem? (i := 1) rfl)) (fun _ h => h) rfl (tyX2_ok 0 (by decide)) rfl rfl (Nat.le_of_ble_eq_true rfl) dX2_copy_5 (fun H locs hP hD hS => ?_)
  refine lv_aload_n hex hbc dX2_copy_8 rfl (lv_at hl 0 rfl) ?_
  refine lv_aload_n hex hbc dX2_copy_9 rfl (lv_at hl 1 rfl) ?_
  refine va_get (v := .int (iI (σ 1 823))) hex hbc hts hin2 hown hK hP 54 rfl rfl 1 (by decide) (hts _ (List.mem_of_getElem? (i := 2) rfl)) (fun _ h => h) rfl dX2_copy_10 ?_
  refine va_put hex hbc hts hin2 tyX2 tyX2_ok nmX2 hown hK hP hD hS 3 rfl rfl 1 (by decide) (hts _ (List.mem_of_getElem? (i := 2) rfl)) (fun _ h => h) rfl (tyX2_ok 1 (by decide)) rfl rfl (Nat.le_of_ble_eq_true rfl) dX2_copy_13 (fun H locs hP hD hS => ?_)
  refine lv_aload_n hex hbc dX2_copy_16 rfl (lv_at hl 1 rfl) ?_
  refine va_get (v := .ref (a 55)) hex hbc hts hin2 hown hK hP 54 rfl rfl 2 (by decide) (hts _ (List.mem_of_getElem? (i := 3) rfl)) (fun _ h => h) rfl dX2_copy_17 ?_
  refine lv_iconst (v := iI 0) hex hbc dX2_copy_20 rfl ?_
  refine lv_aload_n hex hbc dX2_copy_21 rfl (lv_at hl 0 rfl) ?_
  refine va_get (v := .ref (a 4)) hex hbc hts hin2 hown hK hP 3 rfl rfl 2 (by decide) (hts _ (List.mem_of_getElem? (i := 3) rfl)) (fun _ h => h) rfl dX2_copy_22 ?_
  refine lv_iconst (v := iI 0) hex hbc dX2_copy_25 rfl ?_
  refine lv_bipush (v := iI 64) hex hbc dX2_copy_26 (by decide) ?_
  refine va_copyi (f := aI (fun k => σ 1 (759 + k))) (g := aI (fun k => σ 0 (10 + k))) hex hbc (hml.trans hl.1.symm) hown (hts _ (List.mem_of_getElem? (i := 4) rfl)) (hts _ (List.mem_of_getElem? (i := 5) rfl)) (hts _ (List.mem_of_getElem? (i := 6) rfl)) (hts _ (List.mem_of_getElem? (i := 7) rfl)) hK hP hD hS 55 4 0 0 rfl rfl rfl rfl rfl (by decide) (by decide) (by decide) (by decide) (by decide) (fun _ _ => rfl) (Nat.le_of_ble_eq_true rfl) (by decide) dX2_copy_28 (fun H locs hP hD hS => ?_)
  refine lv_aload_n hex hbc dX2_copy_31 rfl (lv_at hl 1 rfl) ?_
  refine va_get (v := .ref (a 56)) hex hbc hts hin2 hown hK hP 54 rfl rfl 3 (by decide) (hts _ (List.mem_of_getElem? (i := 8) rfl)) (fun _ h => h) rfl dX2_copy_32 ?_
  refine lv_iconst (v := iI 0) hex hbc dX2_copy_35 rfl ?_
  refine lv_aload_n hex hbc dX2_copy_36 rfl (lv_at hl 0 rfl) ?_
  refine va_get (v := .ref (a 5)) hex hbc hts hin2 hown hK hP 3 rfl rfl 3 (by decide) (hts _ (List.mem_of_getElem? (i := 8) rfl)) (fun _ h => h) rfl dX2_copy_37 ?_
  refine lv_iconst (v := iI 0) hex hbc dX2_copy_40 rfl ?_
  refine lv_bipush (v := iI 9) hex hbc dX2_copy_41 (by decide) ?_
  refine va_copyi (f := aI (fun k => σ 1 (750 + k))) (g := aI (fun k => σ 0 (1 + k))) hex hbc (hml.trans hl.1.symm) hown (hts _ (List.mem_of_getElem? (i := 4) rfl)) (hts _ (List.mem_of_getElem? (i := 5) rfl)) (hts _ (List.mem_of_getElem? (i := 6) rfl)) (hts _ (List.mem_of_getElem? (i := 7) rfl)) hK hP hD hS 56 5 0 0 rfl rfl rfl rfl rfl (by decide) (by decide) (by decide) (by decide) (by decide) (fun _ _ => rfl) (Nat.le_of_ble_eq_true rfl) (by decide) dX2_copy_43 (fun H locs hP hD hS => ?_)
  refine lv_aload_n hex hbc dX2_copy_46 rfl (lv_at hl 1 rfl) ?_
  refine va_get (v := .ref (a 57)) hex hbc hts hin2 hown hK hP 54 rfl rfl 4 (by decide) (hts _ (List.mem_of_getElem? (i := 9) rfl)) (fun _ h => h) rfl dX2_copy_47 ?_
  refine lv_iconst (v := iI 0) hex hbc dX2_copy_50 rfl ?_
  refine lv_aload_n hex hbc dX2_copy_51 rfl (lv_at hl 0 rfl) ?_
  refine va_get (v := .ref (a 6)) hex hbc hts hin2 hown hK hP 3 rfl rfl 4 (by decide) (hts _ (List.mem_of_getElem? (i := 9) rfl)) (fun _ h => h) rfl dX2_copy_52 ?_
  refine lv_iconst (v := iI 0) hex hbc dX2_copy_55 rfl ?_
  refine lv_bipush (v := iI 16) hex hbc dX2_copy_56 (by decide) ?_
  refine va_copyi (f := aI (fun k => σ 1 (824 + k))) (g := aI (fun k => σ 0 (75 + k))) hex hbc (hml.trans hl.1.symm) hown (hts _ (List.mem_of_getElem? (i := 4) rfl)) (hts _ (List.mem_of_getElem? (i := 5) rfl)) (hts _ (List.mem_of_getElem? (i := 6) rfl)) (hts _ (List.mem_of_getElem? (i := 7) rfl)) hK hP hD hS 57 6 0 0 rfl rfl rfl rfl rfl (by decide) (by decide) (by decide) (by decide) (by decide) (fun _ _ => rfl) (Nat.le_of_ble_eq_true rfl) (by decide) dX2_copy_58 (fun H locs hP hD hS => ?_)
  refine lv_aload_n hex hbc dX2_copy_61 rfl (lv_at hl 1 rfl) ?_
  refine va_get (v := .ref (a 58)) hex hbc hts hin2 hown hK hP 54 rfl rfl 5 (by decide) (hts _ (List.mem_of_getElem? (i := 10) rfl)) (fun _ h => h) rfl dX2_copy_62 ?_
  refine lv_iconst (v := iI 0) hex hbc dX2_copy_65 rfl ?_
  refine lv_aload_n hex hbc dX2_copy_66 rfl (lv_at hl 0 rfl) ?_
  refine va_get (v := .ref (a 7)) hex hbc hts hin2 hown hK hP 3 rfl rfl 5 (by decide) (hts _ (List.mem_of_getElem? (i := 10) rfl)) (fun _ h => h) rfl dX2_copy_67 ?_
  refine lv_iconst (v := iI 0) hex hbc dX2_copy_70 rfl ?_
  refine lv_bipush (v := iI 16) hex hbc dX2_copy_71 (by decide) ?_
  refine va_copyi (f := aI (fun k => σ 1 (840 + k))) (g := aI (fun k => σ 0 (91 + k))) hex hbc (hml.trans hl.1.symm) hown (hts _ (List.mem_of_getElem? (i := 4) rfl)) (hts _ (List.mem_of_getElem? (i := 5) rfl)) (hts _ (List.mem_of_getElem? (i := 6) rfl)) (hts _ (List.mem_of_getElem? (i := 7) rfl)) hK hP hD hS 58 7 0 0 rfl rfl rfl rfl rfl (by decide) (by decide) (by decide) (by decide) (by decide) (fun _ _ => rfl) (Nat.le_of_ble_eq_true rfl) (by decide) dX2_copy_73 (fun H locs hP hD hS => ?_)
  have hP := leW_P (ws' := wx cx a (sc σ 0 (cpo (σ 0) (σ 1) 749))) (wx_cp_q7 (G := G) (cx := cx) (a := a) (σ := σ)) hP
  have hD := leW_D (ws' := wx cx a (sc σ 0 (cpo (σ 0) (σ 1) 749))) (wx_cp_q7 (G := G) (cx := cx) (a := a) (σ := σ)) hD
  exact g_vret hex hbc hrt hlocks hK hP hD hS rfl dX2_copy_76
set_option maxHeartbeats 4000000 in
set_option maxRecDepth 100000 in
theorem mX2_copy_k0 (l : Launch) (G : va_G) (cx a : Nat → Nat) (σ : Nat → Int → Int) : Met l yX2_copy wsX2_copy ({ frames := 1, cells := 0, slots := 0, locals := 60 }) (va_Pc [.ref (a 60), .ref (a 3)] (gW G (tx cx) (XA a) (wx cx a) σ)) (va_Qv (fun u => sc σ 9 (cpi (σ 9) (σ 0) 0) = u) (gW G (tx cx) (XA a) (wx cx a)) (XA a)) 0 0 (XA a) := by
  refine Met.ofW (cc := cX2_copy) (maxL := 2) (ret := none) (by decide) rfl ?_
  intro p e s m args below meth c s₁ B hml hv
  obtain ⟨rfl, hP, hK, hD⟩ := hv
  have hex := B.exec
  have hbc := B.bytes
  have hrt := B.returns
  have hts := atoms_spec (ws := wsX2_copy) B.pre
  have hown : s.vm.findClass RX2 = some m.cls := findClass_of_methodNamed B.named
  have hlocks := B.notSynchronized
  have hS : va_S (XA a) s.heap s.heap [] := va_S.rf
  have hin2 := iX2_copy_X2
  have hl := lv_entry ([.ref (a 60), .ref (a 3)]) (n := 2) (Nat.le_of_ble_eq_true rfl)
  rw [lg_entry_eq]
  generalize (lg_sl ([.ref (a 60), .ref (a 3)]) ++ List.replicate (2 - (lg_sl ([.ref (a 60), .ref (a 3)])).length) Slot.unset).toArray = ls at hl ⊢
  have hl : lv_has ls 2 [(0, .ref (a 60)), (1, .ref (a 3))] := hl
  refine lv_aload_n hex hbc dX2_copy_0 rfl (lv_at hl 0 rfl) ?_
  refine lv_aload_n hex hbc dX2_copy_1 rfl (lv_at hl 1 rfl) ?_
  refine va_get (v := .int (iI (σ 0 0))) hex hbc hts hin2 hown hK hP 3 rfl rfl 0 (by decide) (hts _ (List.mem_of_getElem? (i := 1) rfl)) (fun _ h => h) rfl dX2_copy_2 ?_
  refine va_put hex hbc hts hin2 tyX2 tyX2_ok nmX2 hown hK hP hD hS 60 rfl rfl 0 (by decide) (hts _ (List.mem_of_getElem? (i := 1) rfl)) (fun _ h => h) rfl (tyX2_ok 0 (by decide)) rfl rfl (Nat.le_of_ble_eq_true rfl) dX2_copy_5 (fun H locs hP hD hS => ?_)
  refine lv_aload_n hex hbc dX2_copy_8 rfl (lv_at hl 0 rfl) ?_
  refine lv_aload_n hex hbc dX2_copy_9 rfl (lv_at hl 1 rfl) ?_
  refine va_get (v := .int (iI (σ 0 74))) hex hbc hts hin2 hown hK hP 3 rfl rfl 1 (by decide) (hts _ (List.mem_of_getElem? (i := 2) rfl)) (fun _ h => h) rfl dX2_copy_10 ?_
  refine va_put hex hbc hts hin2 tyX2 tyX2_ok nmX2 hown hK hP hD hS 60 rfl rfl 1 (by decide) (hts _ (List.mem_of_getElem? (i := 2) rfl)) (fun _ h => h) rfl (tyX2_ok 1 (by decide)) rfl rfl (Nat.le_of_ble_eq_true rfl) dX2_copy_13 (fun H locs hP hD hS => ?_)
  refine lv_aload_n hex hbc dX2_copy_16 rfl (lv_at hl 1 rfl) ?_
  refine va_get (v := .ref (a 4)) hex hbc hts hin2 hown hK hP 3 rfl rfl 2 (by decide) (hts _ (List.mem_of_getElem? (i := 3) rfl)) (fun _ h => h) rfl dX2_copy_17 ?_
  refine lv_iconst (v := iI 0) hex hbc dX2_copy_20 rfl ?_
  refine lv_aload_n hex hbc dX2_copy_21 rfl (lv_at hl 0 rfl) ?_
  refine va_get (v := .ref (a 61)) hex hbc hts hin2 hown hK hP 60 rfl rfl 2 (by decide) (hts _ (List.mem_of_getElem? (i := 3) rfl)) (fun _ h => h) rfl dX2_copy_22 ?_
  refine lv_iconst (v := iI 0) hex hbc dX2_copy_25 rfl ?_
  refine lv_bipush (v := iI 64) hex hbc dX2_copy_26 (by decide) ?_
  refine va_copyi (f := aI (fun k => σ 0 (10 + k))) (g := aI (fun k => σ 9 (10 + k))) hex hbc (hml.trans hl.1.symm) hown (hts _ (List.mem_of_getElem? (i := 4) rfl)) (hts _ (List.mem_of_getElem? (i := 5) rfl)) (hts _ (List.mem_of_getElem? (i := 6) rfl)) (hts _ (List.mem_of_getElem? (i := 7) rfl)) hK hP hD hS 4 61 0 0 rfl rfl rfl rfl rfl (by decide) (by decide) (by decide) (by decide) (by decide) (fun _ _ => rfl) (Nat.le_of_ble_eq_true rfl) (by decide) dX2_copy_28 (fun H locs hP hD hS => ?_)
  refine lv_aload_n hex hbc dX2_copy_31 rfl (lv_at hl 1 rfl) ?_
  refine va_get (v := .ref (a 5)) hex hbc hts hin2 hown hK hP 3 rfl rfl 3 (by decide) (hts _ (List.mem_of_getElem? (i := 8) rfl)) (fun _ h => h) rfl dX2_copy_32 ?_
  refine lv_iconst (v := iI 0) hex hbc dX2_copy_35 rfl ?_
  refine lv_aload_n hex hbc dX2_copy_36 rfl (lv_at hl 0 rfl) ?_
  refine va_get (v := .ref (a 62)) hex hbc hts hin2 hown hK hP 60 rfl rfl 3 (by decide) (hts _ (List.mem_of_getElem? (i := 8) rfl)) (fun _ h => h) rfl dX2_copy_37 ?_
  refine lv_iconst (v := iI 0) hex hbc dX2_copy_40 rfl ?_
  refine lv_bipush (v := iI 9) hex hbc dX2_copy_41 (by decide) ?_
  refine va_copyi (f := aI (fun k => σ 0 (1 + k))) (g := aI (fun k => σ 9 (1 + k))) hex hbc (hml.trans hl.1.symm) hown (hts _ (List.mem_of_getElem? (i := 4) rfl)) (hts _ (List.mem_of_getElem? (i := 5) rfl)) (hts _ (List.mem_of_getElem? (i := 6) rfl)) (hts _ (List.mem_of_getElem? (i := 7) rfl)) hK hP hD hS 5 62 0 0 rfl rfl rfl rfl rfl (by decide) (by decide) (by decide) (by decide) (by decide) (fun _ _ => rfl) (Nat.le_of_ble_eq_true rfl) (by decide) dX2_copy_43 (fun H locs hP hD hS => ?_)
  refine lv_aload_n hex hbc dX2_copy_46 rfl (lv_at hl 1 rfl) ?_
  refine va_get (v := .ref (a 6)) hex hbc hts hin2 hown hK hP 3 rfl rfl 4 (by decide) (hts _ (List.mem_of_getElem? (i := 9) rfl)) (fun _ h => h) rfl dX2_copy_47 ?_
  refine lv_iconst (v := iI 0) hex hbc dX2_copy_50 rfl ?_
  refine lv_aload_n hex hbc dX2_copy_51 rfl (lv_at hl 0 rfl) ?_
  refine va_get (v := .ref (a 63)) hex hbc hts hin2 hown hK hP 60 rfl rfl 4 (by decide) (hts _ (List.mem_of_getElem? (i := 9) rfl)) (fun _ h => h) rfl dX2_copy_52 ?_
  refine lv_iconst (v := iI 0) hex hbc dX2_copy_55 rfl ?_
  refine lv_bipush (v := iI 16) hex hbc dX2_copy_56 (by decide) ?_
  refine va_copyi (f := aI (fun k => σ 0 (75 + k))) (g := aI (fun k => σ 9 (75 + k))) hex hbc (hml.trans hl.1.symm) hown (hts _ (List.mem_of_getElem? (i := 4) rfl)) (hts _ (List.mem_of_getElem? (i := 5) rfl)) (hts _ (List.mem_of_getElem? (i := 6) rfl)) (hts _ (List.mem_of_getElem? (i := 7) rfl)) hK hP hD hS 6 63 0 0 rfl rfl rfl rfl rfl (by decide) (by decide) (by decide) (by decide) (by decide) (fun _ _ => rfl) (Nat.le_of_ble_eq_true rfl) (by decide) dX2_copy_58 (fun H locs hP hD hS => ?_)
  refine lv_aload_n hex hbc dX2_copy_61 rfl (lv_at hl 1 rfl) ?_
  refine va_get (v := .ref (a 7)) hex hbc hts hin2 hown hK hP 3 rfl rfl 5 (by decide) (hts _ (List.mem_of_getElem? (i := 10) rfl)) (fun _ h => h) rfl dX2_copy_62 ?_
  refine lv_iconst (v := iI 0) hex hbc dX2_copy_65 rfl ?_
  refine lv_aload_n hex hbc dX2_copy_66 rfl (lv_at hl 0 rfl) ?_
  refine va_get (v := .ref (a 64)) hex hbc hts hin2 hown hK hP 60 rfl rfl 5 (by decide) (hts _ (List.mem_of_getElem? (i := 10) rfl)) (fun _ h => h) rfl dX2_copy_67 ?_
  refine lv_iconst (v := iI 0) hex hbc dX2_copy_70 rfl ?_
  refine lv_bipush (v := iI 16) hex hbc dX2_copy_71 (by decide) ?_
  refine va_copyi (f := aI (fun k => σ 0 (91 + k))) (g := aI (fun k => σ 9 (91 + k))) hex hbc (hml.trans hl.1.symm) hown (hts _ (List.mem_of_getElem? (i := 4) rfl)) (hts _ (List.mem_of_getElem? (i := 5) rfl)) (hts _ (List.mem_of_getElem? (i := 6) rfl)) (hts _ (List.mem_of_getElem? (i := 7) rfl)) hK hP hD hS 7 64 0 0 rfl rfl rfl rfl rfl (by decide) (by decide) (by decide) (by decide) (by decide) (fun _ _ => rfl) (Nat.le_of_ble_eq_true rfl) (by decide) dX2_copy_73 (fun H locs hP hD hS => ?_)
  have hP := leW_P (ws' := wx cx a (sc σ 9 (cpi (σ 9) (σ 0) 0))) (wx_cp_k0 (G := G) (cx := cx) (a := a) (σ := σ)) hP
  have hD := leW_D (ws' := wx cx a (sc σ 9 (cpi (σ 9) (σ 0) 0))) (wx_cp_k0 (G := G) (cx := cx) (a := a) (σ := σ)) hD
  exact g_vret hex hbc hrt hlocks hK hP hD hS rfl dX2_copy_76
set_option maxHeartbeats 4000000 in
set_option maxRecDepth 100000 in
theorem mX2_copy_k1 (l : Launch) (G : va_G) (cx a : Nat → Nat) (σ : Nat → Int → Int) : Met l yX2_copy wsX2_copy ({ frames := 1, cells := 0, slots := 0, locals := 60 }) (va_Pc [.ref (a 65), .ref (a 3)] (gW G (tx cx) (XA a) (wx cx a) σ)) (va_Qv (fun u => sc σ 9 (cpi (σ 9) (σ 0) 107) = u) (gW G (tx cx) (XA a) (wx cx a)) (XA a)) 0 0 (XA a) := by
  refine Met.ofW (cc := cX2_copy) (maxL := 2) (ret := none) (by decide) rfl ?_
  intro p e s m args below meth c s₁ B hml hv
  obtain ⟨rfl, hP, hK, hD⟩ := hv
  have hex := B.exec
  have hbc := B.bytes
  have hrt := B.returns
  have hts := atoms_spec (ws := wsX2_copy) B.pre
  have hown : s.vm.findClass RX2 = some m.cls := findClass_of_methodNamed B.named
  have hlocks := B.notSynchronized
  have hS : va_S (XA a) s.heap s.heap [] := va_S.rf
  have hin2 := iX2_copy_X2
  have hl := lv_entry ([.ref (a 65), .ref (a 3)]) (n := 2) (Nat.le_of_ble_eq_true rfl)
  rw [lg_entry_eq]
  generalize (lg_sl ([.ref (a 65), .ref (a 3)]) ++ List.replicate (2 - (lg_sl ([.ref (a 65), .ref (a 3)])).length) Slot.unset).toArray = ls at hl ⊢
  have hl : lv_has ls 2 [(0, .ref (a 65)), (1, .ref (a 3))] := hl
  refine lv_aload_n hex hbc dX2_copy_0 rfl (lv_at hl 0 rfl) ?_
  refine lv_aload_n hex hbc dX2_copy_1 rfl (lv_at hl 1 rfl) ?_
  refine va_get (v := .int (iI (σ 0 0))) hex hbc hts hin2 hown hK hP 3 rfl rfl 0 (by decide) (hts _ (List.mem_of_getElem? (i := 1) rfl)) (fun _ h => h) rfl dX2_copy_2 ?_
  refine va_put hex hbc hts hin2 tyX2 tyX2_ok nmX2 hown hK hP hD hS 65 rfl rfl 0 (by decide) (hts _ (List.mem_of_getElem? (i := 1) rfl)) (fun _ h => h) rfl (tyX2_ok 0 (by decide)) rfl rfl (Nat.le_of_ble_eq_true rfl) dX2_copy_5 (fun H locs hP hD hS => ?_)
  refine lv_aload_n hex hbc dX2_copy_8 rfl (lv_at hl 0 rfl) ?_
  refine lv_aload_n hex hbc dX2_copy_9 rfl (lv_at hl 1 rfl) ?_
  refine va_get (v := .int (iI (σ 0 74))) hex hbc hts hin2 hown hK hP 3 rfl rfl 1 (by decide) (hts _ (List.mem_of_getElem? (i := 2) rfl)) (fun _ h => h) rfl dX2_copy_10 ?_
  refine va_put hex hbc hts hin2 tyX2 tyX2_ok nmX2 hown hK hP hD hS 65 rfl rfl 1 (by decide) (hts _ (List.mem_of_getElem? (i := 2) rfl)) (fun _ h => h) rfl (tyX2_ok 1 (by decide)) rfl rfl (Nat.le_of_ble_eq_true rfl) dX2_copy_13 (fun H locs hP hD hS => ?_)
  refine lv_aload_n hex hbc dX2_copy_16 rfl (lv_at hl 1 rfl) ?_
  refine va_get (v := .ref (a 4)) hex hbc hts hin2 hown hK hP 3 rfl rfl 2 (by decide) (hts _ (List.mem_of_getElem? (i := 3) rfl)) (fun _ h => h) rfl dX2_copy_17 ?_
  refine lv_iconst (v := iI 0) hex hbc dX2_copy_20 rfl ?_
  refine lv_aload_n hex hbc dX2_copy_21 rfl (lv_at hl 0 rfl) ?_
  refine va_get (v := .ref (a 66)) hex hbc hts hin2 hown hK hP 65 rfl rfl 2 (by decide) (hts _ (List.mem_of_getElem? (i := 3) rfl)) (fun _ h => h) rfl dX2_copy_22 ?_
  refine lv_iconst (v := iI 0) hex hbc dX2_copy_25 rfl ?_
  refine lv_bipush (v := iI 64) hex hbc dX2_copy_26 (by decide) ?_
  refine va_copyi (f := aI (fun k => σ 0 (10 + k))) (g := aI (fun k => σ 9 (117 + k))) hex hbc (hml.trans hl.1.symm) hown (hts _ (List.mem_of_getElem? (i := 4) rfl)) (hts _ (List.mem_of_getElem? (i := 5) rfl)) (hts _ (List.mem_of_getElem? (i := 6) rfl)) (hts _ (List.mem_of_getElem? (i := 7) rfl)) hK hP hD hS 4 66 0 0 rfl rfl rfl rfl rfl (by decide) (by decide) (by decide) (by decide) (by decide) (fun _ _ => rfl) (Nat.le_of_ble_eq_true rfl) (by decide) dX2_copy_28 (fun H locs hP hD hS => ?_)
  refine lv_aload_n hex hbc dX2_copy_31 rfl (lv_at hl 1 rfl) ?_
  refine va_get (v := .ref (a 5)) hex hbc hts hin2 hown hK hP 3 rfl rfl 3 (by decide) (hts _ (List.mem_of_getElem? (i := 8) rfl)) (fun _ h => h) rfl dX2_copy_32 ?_
  refine lv_iconst (v := iI 0) hex hbc dX2_copy_35 rfl ?_
  refine lv_aload_n hex hbc dX2_copy_36 rfl (lv_at hl 0 rfl) ?_
  refine va_get (v := .ref (a 67)) hex hbc hts hin2 hown hK hP 65 rfl rfl 3 (by decide) (hts _ (List.mem_of_getElem? (i := 8) rfl)) (fun _ h => h) rfl dX2_copy_37 ?_
  refine lv_iconst (v := iI 0) hex hbc dX2_copy_40 rfl ?_
  refine lv_bipush (v := iI 9) hex hbc dX2_copy_41 (by decide) ?_
  refine va_copyi (f := aI (fun k => σ 0 (1 + k))) (g := aI (fun k => σ 9 (108 + k))) hex hbc (hml.trans hl.1.symm) hown (hts _ (List.mem_of_getElem? (i := 4) rfl)) (hts _ (List.mem_of_getElem? (i := 5) rfl)) (hts _ (List.mem_of_getElem? (i := 6) rfl)) (hts _ (List.mem_of_getElem? (i := 7) rfl)) hK hP hD hS 5 67 0 0 rfl rfl rfl rfl rfl (by decide) (by decide) (by decide) (by decide) (by decide) (fun _ _ => rfl) (Nat.le_of_ble_eq_true rfl) (by decide) dX2_copy_43 (fun H locs hP hD hS => ?_)
  refine lv_aload_n hex hbc dX2_copy_46 rfl (lv_at hl 1 rfl) ?_
  refine va_get (v := .ref (a 6)) hex hbc hts hin2 hown hK hP 3 rfl rfl 4 (by decide) (hts _ (List.mem_of_getElem? (i := 9) rfl)) (fun _ h => h) rfl dX2_copy_47 ?_
  refine lv_iconst (v := iI 0) hex hbc dX2_copy_50 rfl ?_
  refine lv_aload_n hex hbc dX2_copy_51 rfl (lv_at hl 0 rfl) ?_
  refine va_get (v := .ref (a 68)) hex hbc hts hin2 hown hK hP 65 rfl rfl 4 (by decide) (hts _ (List.mem_of_getElem? (i := 9) rfl)) (fun _ h => h) rfl dX2_copy_52 ?_
  refine lv_iconst (v := iI 0) hex hbc dX2_copy_55 rfl ?_
  refine lv_bipush (v := iI 16) hex hbc dX2_copy_56 (by decide) ?_
  refine va_copyi (f := aI (fun k => σ 0 (75 + k))) (g := aI (fun k => σ 9 (182 + k))) hex hbc (hml.trans hl.1.symm) hown (hts _ (List.mem_of_getElem? (i := 4) rfl)) (hts _ (List.mem_of_getElem? (i := 5) rfl)) (hts _ (List.mem_of_getElem? (i := 6) rfl)) (hts _ (List.mem_of_getElem? (i := 7) rfl)) hK hP hD hS 6 68 0 0 rfl rfl rfl rfl rfl (by decide) (by decide) (by decide) (by decide) (by decide) (fun _ _ => rfl) (Nat.le_of_ble_eq_true rfl) (by decide) dX2_copy_58 (fun H locs hP hD hS => ?_)
  refine lv_aload_n hex hbc dX2_copy_61 rfl (lv_at hl 1 rfl) ?_
  refine va_get (v := .ref (a 7)) hex hbc hts hin2 hown hK hP 3 rfl rfl 5 (by decide) (hts _ (List.mem_of_getElem? (i := 10) rfl)) (fun _ h => h) rfl dX2_copy_62 ?_
  refine lv_iconst (v := iI 0) hex hbc dX2_copy_65 rfl ?_
  refine lv_aload_n hex hbc dX2_copy_66 rfl (lv_at hl 0 rfl) ?_
  refine va_get (v := .ref (a 69)) hex hbc hts hin2 hown hK hP 65 rfl rfl 5 (by decide) (hts _ (List.mem_of_getElem? (i := 10) rfl)) (fun _ h => h) rfl dX2_copy_67 ?_
  refine lv_iconst (v := iI 0) hex hbc dX2_copy_70 rfl ?_
  refine lv_bipush (v := iI 16) hex hbc dX2_copy_71 (by decide) ?_
  refine va_copyi (f := aI (fun k => σ 0 (91 + k))) (g := aI (fun k => σ 9 (198 + k))) hex hbc (hml.trans hl.1.symm) hown (hts _ (List.mem_of_getElem? (i := 4) rfl)) (hts _ (List.mem_of_getElem? (i := 5) rfl)) (hts _ (List.mem_of_getElem? (i := 6) rfl)) (hts _ (List.mem_of_getElem? (i := 7) rfl)) hK hP hD hS 7 69 0 0 rfl rfl rfl rfl rfl (by decide) (by decide) (by decide) (by decide) (by decide) (fun _ _ => rfl) (Nat.le_of_ble_eq_true rfl) (by decide) dX2_copy_73 (fun H locs hP hD hS => ?_)
  have hP := leW_P (ws' := wx cx a (sc σ 9 (cpi (σ 9) (σ 0) 107))) (wx_cp_k1 (G := G) (cx := cx) (a := a) (σ := σ)) hP
  have hD := leW_D (ws' := wx cx a (sc σ 9 (cpi (σ 9) (σ 0) 107))) (wx_cp_k1 (G := G) (cx := cx) (a := a) (σ := σ)) hD
  exact g_vret hex hbc hrt hlocks hK hP hD hS rfl dX2_copy_76
set_option maxHeartbeats 4000000 in
set_option maxRecDepth 100000 in
theorem mX2_copy_b0 (l : Launch) (G : va_G) (cx a : Nat → Nat) (σ : Nat → Int → Int) : Met l yX2_copy wsX2_copy ({ frames := 1, cells := 0, slots := 0, locals := 60 }) (va_Pc [.ref (a 3), .ref (a 60)] (gW G (tx cx) (XA a) (wx cx a) σ)) (va_Qv (fun u => sc σ 0 (cpo (σ 0) (σ 9) 0) = u) (gW G (tx cx) (XA a) (wx cx a)) (XA a)) 0 0 (XA a) := by
  refine Met.ofW (cc := cX2_copy) (maxL := 2) (ret := none) (by decide) rfl ?_
  intro p e s m args below meth c s₁ B hml hv
  obtain ⟨rfl, hP, hK, hD⟩ := hv
  have hex := B.exec
  have hbc := B.bytes
  have hrt := B.returns
  have hts := atoms_spec (ws := wsX2_copy) B.pre
  have hown : s.vm.findClass RX2 = some m.cls := findClass_of_methodNamed B.named
  have hlocks := B.notSynchronized
  have hS : va_S (XA a) s.heap s.heap [] := va_S.rf
  have hin2 := iX2_copy_X2
  have hl := lv_entry ([.ref (a 3), .ref (a 60)]) (n := 2) (Nat.le_of_ble_eq_true rfl)
  rw [lg_entry_eq]
  generalize (lg_sl ([.ref (a 3), .ref (a 60)]) ++ List.replicate (2 - (lg_sl ([.ref (a 3), .ref (a 60)])).length) Slot.unset).toArray = ls at hl ⊢
  have hl : lv_has ls 2 [(0, .ref (a 3)), (1, .ref (a 60))] := hl
  refine lv_aload_n hex hbc dX2_copy_0 rfl (lv_at hl 0 rfl) ?_
  refine lv_aload_n hex hbc dX2_copy_1 rfl (lv_at hl 1 rfl) ?_
  refine va_get (v := .int (iI (σ 9 0))) hex hbc hts hin2 hown hK hP 60 rfl rfl 0 (by decide) (hts _ (List.mem_of_getElem? (i := 1) rfl)) (fun _ h => h) rfl dX2_copy_2 ?_
  refine va_put hex hbc hts hin2 tyX2 tyX2_ok nmX2 hown hK hP hD hS 3 rfl rfl 0 (by decide) (hts _ (List.mem_of_getElem? (i := 1) rfl)) (fun _ h => h) rfl (tyX2_ok 0 (by decide)) rfl rfl (Nat.le_of_ble_eq_true rfl) dX2_copy_5 (fun H locs hP hD hS => ?_)
  refine lv_aload_n hex hbc dX2_copy_8 rfl (lv_at hl 0 rfl) ?_
  refine lv_aload_n hex hbc dX2_copy_9 rfl (lv_at hl 1 rfl) ?_
  refine va_get (v := .int (iI (σ 9 74))) hex hbc hts hin2 hown hK hP 60 rfl rfl 1 (by decide) (hts _ (List.mem_of_getElem? (i := 2) rfl)) (fun _ h => h) rfl dX2_copy_10 ?_
  refine va_put hex hbc hts hin2 tyX2 tyX2_ok nmX2 hown hK hP hD hS 3 rfl rfl 1 (by decide) (hts _ (List.mem_of_getElem? (i := 2) rfl)) (fun _ h => h) rfl (tyX2_ok 1 (by decide)) rfl rfl (Nat.le_of_ble_eq_true rfl) dX2_copy_13 (fun H locs hP hD hS => ?_)
  refine lv_aload_n hex hbc dX2_copy_16 rfl (lv_at hl 1 rfl) ?_
  refine va_get (v := .ref (a 61)) hex hbc hts hin2 hown hK hP 60 rfl rfl 2 (by decide) (hts _ (List.mem_of_getElem? (i := 3) rfl)) (fun _ h => h) rfl dX2_copy_17 ?_
  refine lv_iconst (v := iI 0) hex hbc dX2_copy_20 rfl ?_
  refine lv_aload_n hex hbc dX2_copy_21 rfl (lv_at hl 0 rfl) ?_
  refine va_get (v := .ref (a 4)) hex hbc hts hin2 hown hK hP 3 rfl rfl 2 (by decide) (hts _ (List.mem_of_getElem? (i := 3) rfl)) (fun _ h => h) rfl dX2_copy_22 ?_
  refine lv_iconst (v := iI 0) hex hbc dX2_copy_25 rfl ?_
  refine lv_bipush (v := iI 64) hex hbc dX2_copy_26 (by decide) ?_
  refine va_copyi (f := aI (fun k => σ 9 (10 + k))) (g := aI (fun k => σ 0 (10 + k))) hex hbc (hml.trans hl.1.symm) hown (hts _ (List.mem_of_getElem? (i := 4) rfl)) (hts _ (List.mem_of_getElem? (i := 5) rfl)) (hts _ (List.mem_of_getElem? (i := 6) rfl)) (hts _ (List.mem_of_getElem? (i := 7) rfl)) hK hP hD hS 61 4 0 0 rfl rfl rfl rfl rfl (by decide) (by decide) (by decide) (by decide) (by decide) (fun _ _ => rfl) (Nat.le_of_ble_eq_true rfl) (by decide) dX2_copy_28 (fun H locs hP hD hS => ?_)
  refine lv_aload_n hex hbc dX2_copy_31 rfl (lv_at hl 1 rfl) ?_
  refine va_get (v := .ref (a 62)) hex hbc hts hin2 hown hK hP 60 rfl rfl 3 (by decide) (hts _ (List.mem_of_getElem? (i := 8) rfl)) (fun _ h => h) rfl dX2_copy_32 ?_
  refine lv_iconst (v := iI 0) hex hbc dX2_copy_35 rfl ?_
  refine lv_aload_n hex hbc dX2_copy_36 rfl (lv_at hl 0 rfl) ?_
  refine va_get (v := .ref (a 5)) hex hbc hts hin2 hown hK hP 3 rfl rfl 3 (by decide) (hts _ (List.mem_of_getElem? (i := 8) rfl)) (fun _ h => h) rfl dX2_copy_37 ?_
  refine lv_iconst (v := iI 0) hex hbc dX2_copy_40 rfl ?_
  refine lv_bipush (v := iI 9) hex hbc dX2_copy_41 (by decide) ?_
  refine va_copyi (f := aI (fun k => σ 9 (1 + k))) (g := aI (fun k => σ 0 (1 + k))) hex hbc (hml.trans hl.1.symm) hown (hts _ (List.mem_of_getElem? (i := 4) rfl)) (hts _ (List.mem_of_getElem? (i := 5) rfl)) (hts _ (List.mem_of_getElem? (i := 6) rfl)) (hts _ (List.mem_of_getElem? (i := 7) rfl)) hK hP hD hS 62 5 0 0 rfl rfl rfl rfl rfl (by decide) (by decide) (by decide) (by decide) (by decide) (fun _ _ => rfl) (Nat.le_of_ble_eq_true rfl) (by decide) dX2_copy_43 (fun H locs hP hD hS => ?_)
  refine lv_aload_n hex hbc dX2_copy_46 rfl (lv_at hl 1 rfl) ?_
  refine va_get (v := .ref (a 63)) hex hbc hts hin2 hown hK hP 60 rfl rfl 4 (by decide) (hts _ (List.mem_of_getElem? (i := 9) rfl)) (fun _ h => h) rfl dX2_copy_47 ?_
  refine lv_iconst (v := iI 0) hex hbc dX2_copy_50 rfl ?_
  refine lv_aload_n hex hbc dX2_copy_51 rfl (lv_at hl 0 rfl) ?_
  refine va_get (v := .ref (a 6)) hex hbc hts hin2 hown hK hP 3 rfl rfl 4 (by decide) (hts _ (List.mem_of_getElem? (i := 9) rfl)) (fun _ h => h) rfl dX2_copy_52 ?_
  refine lv_iconst (v := iI 0) hex hbc dX2_copy_55 rfl ?_
  refine lv_bipush (v := iI 16) hex hbc dX2_copy_56 (by decide) ?_
  refine va_copyi (f := aI (fun k => σ 9 (75 + k))) (g := aI (fun k => σ 0 (75 + k))) hex hbc (hml.trans hl.1.symm) hown (hts _ (List.mem_of_getElem? (i := 4) rfl)) (hts _ (List.mem_of_getElem? (i := 5) rfl)) (hts _ (List.mem_of_getElem? (i := 6) rfl)) (hts _ (List.mem_of_getElem? (i := 7) rfl)) hK hP hD hS 63 6 0 0 rfl rfl rfl rfl rfl (by decide) (by decide) (by decide) (by decide) (by decide) (fun _ _ => rfl) (Nat.le_of_ble_eq_true rfl) (by decide) dX2_copy_58 (fun H locs hP hD hS => ?_)
  refine lv_aload_n hex hbc dX2_copy_61 rfl (lv_at hl 1 rfl) ?_
  refine va_get (v := .ref (a 64)) hex hbc hts hin2 hown hK hP 60 rfl rfl 5 (by decide) (hts _ (List.mem_of_getElem? (i := 10) rfl)) (fun _ h => h) rfl dX2_copy_62 ?_
  refine lv_iconst (v := iI 0) hex hbc dX2_copy_65 rfl ?_
  refine lv_aload_n hex hbc dX2_copy_66 rfl (lv_at hl 0 rfl) ?_
  refine va_get (v := .ref (a 7)) hex hbc hts hin2 hown hK hP 3 rfl rfl 5 (by decide) (hts _ (List.mem_of_getElem? (i := 10) rfl)) (fun _ h => h) rfl dX2_copy_67 ?_
  refine lv_iconst (v := iI 0) hex hbc dX2_copy_70 rfl ?_
  refine lv_bipush (v := iI 16) hex hbc dX2_copy_71 (by decide) ?_
  refine va_copyi (f := aI (fun k => σ 9 (91 + k))) (g := aI (fun k => σ 0 (91 + k))) hex hbc (hml.trans hl.1.symm) hown (hts _ (List.mem_of_getElem? (i := 4) rfl)) (hts _ (List.mem_of_getElem? (i := 5) rfl)) (hts _ (List.mem_of_getElem? (i := 6) rfl)) (hts _ (List.mem_of_getElem? (i := 7) rfl)) hK hP hD hS 64 7 0 0 rfl rfl rfl rfl rfl (by decide) (by decide) (by decide) (by decide) (by decide) (fun _ _ => rfl) (Nat.le_of_ble_eq_true rfl) (by decide) dX2_copy_73 (fun H locs hP hD hS => ?_)
  have hP := leW_P (ws' := wx cx a (sc σ 0 (cpo (σ 0) (σ 9) 0))) (wx_cp_b0 (G := G) (cx := cx) (a := a) (σ := σ)) hP
  have hD := leW_D (ws' := wx cx a (sc σ 0 (cpo (σ 0) (σ 9) 0))) (wx_cp_b0 (G := G) (cx := cx) (a := a) (σ := σ)) hD
  exact g_vret hex hbc hrt hlocks hK hP hD hS rfl dX2_copy_76
set_option maxHeartbeats 4000000 in
set_option maxRecDepth 100000 in
theorem mX2_copy_b1 (l : Launch) (G : va_G) (cx a : Nat → Nat) (σ : Nat → Int → Int) : Met l yX2_copy wsX2_copy ({ frames := 1, cells := 0, slots := 0, locals := 60 }) (va_Pc [.ref (a 3), .ref (a 65)] (gW G (tx cx) (XA a) (wx cx a) σ)) (va_Qv (fun u => sc σ 0 (cpo (σ 0) (σ 9) 107) = u) (gW G (tx cx) (XA a) (wx cx a)) (XA a)) 0 0 (XA a) := by
  refine Met.ofW (cc := cX2_copy) (maxL := 2) (ret := none) (by decide) rfl ?_
  intro p e s m args below meth c s₁ B hml hv
  obtain ⟨rfl, hP, hK, hD⟩ := hv
  have hex := B.exec
  have hbc := B.bytes
  have hrt := B.returns
  have hts := atoms_spec (ws := wsX2_copy) B.pre
  have hown : s.vm.findClass RX2 = some m.cls := findClass_of_methodNamed B.named
  have hlocks := B.notSynchronized
  have hS : va_S (XA a) s.heap s.heap [] := va_S.rf
  have hin2 := iX2_copy_X2
  have hl := lv_entry ([.ref (a 3), .ref (a 65)]) (n := 2) (Nat.le_of_ble_eq_true rfl)
  rw [lg_entry_eq]
  generalize (lg_sl ([.ref (a 3), .ref (a 65)]) ++ List.replicate (2 - (lg_sl ([.ref (a 3), .ref (a 65)])).length) Slot.unset).toArray = ls at hl ⊢
  have hl : lv_has ls 2 [(0, .ref (a 3)), (1, .ref (a 65))] := hl
  refine lv_aload_n hex hbc dX2_copy_0 rfl (lv_at hl 0 rfl) ?_
  refine lv_aload_n hex hbc dX2_copy_1 rfl (lv_at hl 1 rfl) ?_
  refine va_get (v := .int (iI (σ 9 107))) hex hbc hts hin2 hown hK hP 65 rfl rfl 0 (by decide) (hts _ (List.mem_of_getElem? (i := 1) rfl)) (fun _ h => h) rfl dX2_copy_2 ?_
  refine va_put hex hbc hts hin2 tyX2 tyX2_ok nmX2 hown hK hP hD hS 3 rfl rfl 0 (by decide) (hts _ (List.mem_of_getElem? (i := 1) rfl)) (fun _ h => h) rfl (tyX2_ok 0 (by decide)) rfl rfl (Nat.le_of_ble_eq_true rfl) dX2_copy_5 (fun H locs hP hD hS => ?_)
  refine lv_aload_n hex hbc dX2_copy_8 rfl (lv_at hl 0 rfl) ?_
  refine lv_aload_n hex hbc dX2_copy_9 rfl (lv_at hl 1 rfl) ?_
  refine va_get (v := .int (iI (σ 9 181))) hex hbc hts hin2 hown hK hP 65 rfl rfl 1 (by decide) (hts _ (List.mem_of_getElem? (i := 2) rfl)) (fun _ h => h) rfl dX2_copy_10 ?_
  refine va_put hex hbc hts hin2 tyX2 tyX2_ok nmX2 hown hK hP hD hS 3 rfl rfl 1 (by decide) (hts _ (List.mem_of_getElem? (i := 2) rfl)) (fun _ h => h) rfl (tyX2_ok 1 (by decide)) rfl rfl (Nat.le_of_ble_eq_true rfl) dX2_copy_13 (fun H locs hP hD hS => ?_)
  refine lv_aload_n hex hbc dX2_copy_16 rfl (lv_at hl 1 rfl) ?_
  refine va_get (v := .ref (a 66)) hex hbc hts hin2 hown hK hP 65 rfl rfl 2 (by decide) (hts _ (List.mem_of_getElem? (i := 3) rfl)) (fun _ h => h) rfl dX2_copy_17 ?_
  refine lv_iconst (v := iI 0) hex hbc dX2_copy_20 rfl ?_
  refine lv_aload_n hex hbc dX2_copy_21 rfl (lv_at hl 0 rfl) ?_
  refine va_get (v := .ref (a 4)) hex hbc hts hin2 hown hK hP 3 rfl rfl 2 (by decide) (hts _ (List.mem_of_getElem? (i := 3) rfl)) (fun _ h => h) rfl dX2_copy_22 ?_
  refine lv_iconst (v := iI 0) hex hbc dX2_copy_25 rfl ?_
  refine lv_bipush (v := iI 64) hex hbc dX2_copy_26 (by decide) ?_
  refine va_copyi (f := aI (fun k => σ 9 (117 + k))) (g := aI (fun k => σ 0 (10 + k))) hex hbc (hml.trans hl.1.symm) hown (hts _ (List.mem_of_getElem? (i := 4) rfl)) (hts _ (List.mem_of_getElem? (i := 5) rfl)) (hts _ (List.mem_of_getElem? (i := 6) rfl)) (hts _ (List.mem_of_getElem? (i := 7) rfl)) hK hP hD hS 66 4 0 0 rfl rfl rfl rfl rfl (by decide) (by decide) (by decide) (by decide) (by decide) (fun _ _ => rfl) (Nat.le_of_ble_eq_true rfl) (by decide) dX2_copy_28 (fun H locs hP hD hS => ?_)
  refine lv_aload_n hex hbc dX2_copy_31 rfl (lv_at hl 1 rfl) ?_
  refine va_get (v := .ref (a 67)) hex hbc hts hin2 hown hK hP 65 rfl rfl 3 (by decide) (hts _ (List.mem_of_getElem? (i := 8) rfl)) (fun _ h => h) rfl dX2_copy_32 ?_
  refine lv_iconst (v := iI 0) hex hbc dX2_copy_35 rfl ?_
  refine lv_aload_n hex hbc dX2_copy_36 rfl (lv_at hl 0 rfl) ?_
  refine va_get (v := .ref (a 5)) hex hbc hts hin2 hown hK hP 3 rfl rfl 3 (by decide) (hts _ (List.mem_of_getElem? (i := 8) rfl)) (fun _ h => h) rfl dX2_copy_37 ?_
  refine lv_iconst (v := iI 0) hex hbc dX2_copy_40 rfl ?_
  refine lv_bipush (v := iI 9) hex hbc dX2_copy_41 (by decide) ?_
  refine va_copyi (f := aI (fun k => σ 9 (108 + k))) (g := aI (fun k => σ 0 (1 + k))) hex hbc (hml.trans hl.1.symm) hown (hts _ (List.mem_of_getElem? (i := 4) rfl)) (hts _ (List.mem_of_getElem? (i := 5) rfl)) (hts _ (List.mem_of_getElem? (i := 6) rfl)) (hts _ (List.mem_of_getElem? (i := 7) rfl)) hK hP hD hS 67 5 0 0 rfl rfl rfl rfl rfl (by decide) (by decide) (by decide) (by decide) (by decide) (fun _ _ => rfl) (Nat.le_of_ble_eq_true rfl) (by decide) dX2_copy_43 (fun H locs hP hD hS => ?_)
  refine lv_aload_n hex hbc dX2_copy_46 rfl (lv_at hl 1 rfl) ?_
  refine va_get (v := .ref (a 68)) hex hbc hts hin2 hown hK hP 65 rfl rfl 4 (by decide) (hts _ (List.mem_of_getElem? (i := 9) rfl)) (fun _ h => h) rfl dX2_copy_47 ?_
  refine lv_iconst (v := iI 0) hex hbc dX2_copy_50 rfl ?_
  refine lv_aload_n hex hbc dX2_copy_51 rfl (lv_at hl 0 rfl) ?_
  refine va_get (v := .ref (a 6)) hex hbc hts hin2 hown hK hP 3 rfl rfl 4 (by decide) (hts _ (List.mem_of_getElem? (i := 9) rfl)) (fun _ h => h) rfl dX2_copy_52 ?_
  refine lv_iconst (v := iI 0) hex hbc dX2_copy_55 rfl ?_
  refine lv_bipush (v := iI 16) hex hbc dX2_copy_56 (by decide) ?_
  refine va_copyi (f := aI (fun k => σ 9 (182 + k))) (g := aI (fun k => σ 0 (75 + k))) hex hbc (hml.trans hl.1.symm) hown (hts _ (List.mem_of_getElem? (i := 4) rfl)) (hts _ (List.mem_of_getElem? (i := 5) rfl)) (hts _ (List.mem_of_getElem? (i := 6) rfl)) (hts _ (List.mem_of_getElem? (i := 7) rfl)) hK hP hD hS 68 6 0 0 rfl rfl rfl rfl rfl (by decide) (by decide) (by decide) (by decide) (by decide) (fun _ _ => rfl) (Nat.le_of_ble_eq_true rfl) (by decide) dX2_copy_58 (fun H locs hP hD hS => ?_)
  refine lv_aload_n hex hbc dX2_copy_61 rfl (lv_at hl 1 rfl) ?_
  refine va_get (v := .ref (a 69)) hex hbc hts hin2 hown hK hP 65 rfl rfl 5 (by decide) (hts _ (List.mem_of_getElem? (i := 10) rfl)) (fun _ h => h) rfl dX2_copy_62 ?_
  refine lv_iconst (v := iI 0) hex hbc dX2_copy_65 rfl ?_
  refine lv_aload_n hex hbc dX2_copy_66 rfl (lv_at hl 0 rfl) ?_
  refine va_get (v := .ref (a 7)) hex hbc hts hin2 hown hK hP 3 rfl rfl 5 (by decide) (hts _ (List.mem_of_getElem? (i := 10) rfl)) (fun _ h => h) rfl dX2_copy_67 ?_
  refine lv_iconst (v := iI 0) hex hbc dX2_copy_70 rfl ?_
  refine lv_bipush (v := iI 16) hex hbc dX2_copy_71 (by decide) ?_
  refine va_copyi (f := aI (fun k => σ 9 (198 + k))) (g := aI (fun k => σ 0 (91 + k))) hex hbc (hml.trans hl.1.symm) hown (hts _ (List.mem_of_getElem? (i := 4) rfl)) (hts _ (List.mem_of_getElem? (i := 5) rfl)) (hts _ (List.mem_of_getElem? (i := 6) rfl)) (hts _ (List.mem_of_getElem? (i := 7) rfl)) hK hP hD hS 69 7 0 0 rfl rfl rfl rfl rfl (by decide) (by decide) (by decide) (by decide) (by decide) (fun _ _ => rfl) (Nat.le_of_ble_eq_true rfl) (by decide) dX2_copy_73 (fun H locs hP hD hS => ?_)
  have hP := leW_P (ws' := wx cx a (sc σ 0 (cpo (σ 0) (σ 9) 107))) (wx_cp_b1 (G := G) (cx := cx) (a := a) (σ := σ)) hP
  have hD := leW_D (ws' := wx cx a (sc σ 0 (cpo (σ 0) (σ 9) 107))) (wx_cp_b1 (G := G) (cx := cx) (a := a) (σ := σ)) hD
  exact g_vret hex hbc hrt hlocks hK hP hD hS rfl dX2_copy_76
theorem g_aald {p : Program} {l : Launch} {e : Env} {R : Room} {s : State} {m : MethodId} {args : Array Value} {below : List Frame} {meth : Method} {c : Code} {H : Heap} {locs : List Loc} {cells slots : Nat} {Q : State → Prop} {cc : ByteArray} {pc : Nat} {ls : Array Slot} {rest : List Value} {G : va_G} {tys : List (ClassId × FieldType)} {ws : va_W}
    {a v : Nat} {cA : ClassId} {C : String} {n : Nat} {f : Nat → Option Nat} {i : Int} (hx : p.tables.exec = Jvm.exec) (hb : c.code = cc) (hK : va_K G vwCl tys s) (hP : va_P G vwCl ws H) (q0 t0 : Nat) (ha : ws[q0]? = some (a, .inl (cA, n, .inr (.inr (.inr (.inr f)))))) (ht : tys[t0]? = some (cA, .object C)) (hn : n < 2147483648) {k : Nat} (hi : i = (k : Int)) (hk : k < n) (hv : f k = some v) (hdg : decode cc pc = .ok (.aaload, 1))
    (kk : W p l e R s m args below meth c H locs cells slots Q (F0 m (pc + 1) ls (.ref v :: rest))) : W p l e R s m args below meth c H locs cells slots Q (F0 m pc ls (.int (iI i) :: .ref a :: rest)) := by
  have e : (iI i).toNatClampNeg = k := by have := iI_cl (i := i) ⟨by omega, by omega⟩; omega
  refine va_aldq hx hb hK hP q0 t0 ha ht (iI_in hn ⟨by omega, by omega⟩) hdg ?_
  rw [e, hv]
  exact kk
