/-! the constructor of the program (rows laid by wip/gen/ctor3.py) -/
/-- the numbers of a loop at its start -/
def w0_ : Int → Int := fun k => if k = 0 then 16 else if k = 1 then 100 else if k = 2 then 100 else if k = 3 then 2 else if k = 4 then 50 else if k = 5 then 200 else if k = 6 then 1600 else if k = 7 then 16 else if k = 9 then 50 else if k = 74 then 1 else 0
def s0X : Nat → Int → Int := fun c => if c = 0 then w0_ else if c = 1 then (fun z => w0_ (z % 107)) else if c = 9 then (fun z => w0_ (z % 107)) else zI
def a0 (h : Nat) (a : Nat → Nat) : Nat → Nat := fun k => if k = 0 then h else a k
theorem w0_0 {k : Int} (h : (10 ≤ k ∧ k < 74) ∨ 75 ≤ k) : zI 0 = w0_ k := by
  unfold w0_
  rw [if_neg (by omega), if_neg (by omega), if_neg (by omega), if_neg (by omega), if_neg (by omega), if_neg (by omega), if_neg (by omega), if_neg (by omega), if_neg (by omega), if_neg (by omega)]
  rfl
theorem w0_e (k : Int) (h1 : 0 ≤ k) (h2 : k < (64 : Nat)) : zI k = w0_ (10 + k) := w0_0 (by omega)
theorem w0_m (k : Int) (h1 : 0 ≤ k) (h2 : k < (16 : Nat)) : zI k = w0_ (75 + k) := w0_0 (by omega)
theorem w0_q (k : Int) (h1 : 0 ≤ k) (h2 : k < (16 : Nat)) : zI k = w0_ (91 + k) := w0_0 (by omega)
theorem w0_s (k : Int) (h1 : 0 ≤ k) (h2 : k < (9 : Nat)) : fvS k = w0_ (1 + k) := by
  rcases (show k = 0 ∨ k = 1 ∨ k = 2 ∨ k = 3 ∨ k = 4 ∨ k = 5 ∨ k = 6 ∨ k = 7 ∨ k = 8 by omega) with rfl | rfl | rfl | rfl | rfl | rfl | rfl | rfl | rfl <;> rfl
theorem w0_c {z x y : Int} (h : z = w0_ x) (e : y % 107 = x) : z = w0_ (y % 107) := by rw [e]; exact h
/-- what the constructor makes, in the order of the world -/
def x4a (bH : Nat → Nat) (q1 q2 q3 q4 q5 q6 q7 q8 q9 q10 q11 q12 q13 q14 q15 q16 q17 q18 q19 q20 q21 q22 q23 q24 q25 q26 q27 q28 : Nat) : Nat → Nat := (fun k => ([0, q17, q18, q1, q2, q3, q4, q5, q6, q7, q8, q9, q10, q11, q12, q13, q14, q15, (bH 40), (bH 0), (bH 1), (bH 2), (bH 3), (bH 4), (bH 5), (bH 6), (bH 7), (bH 8), (bH 9), (bH 10), (bH 11), (bH 12), (bH 13), (bH 14), (bH 15), (bH 16), (bH 17), (bH 18), (bH 19), (bH 20), (bH 21), (bH 22), (bH 23), (bH 24), (bH 25), (bH 26), (bH 27), (bH 28), (bH 29), (bH 30), (bH 31), (bH 32), (bH 33), (bH 34), (bH 35), (bH 36), (bH 37), (bH 38), (bH 39), q16, q19, q20, q21, q22, q23, q24, q25, q26, q27, q28] : List Nat).getD k 0)
def x4L (cx : Nat → Nat) (h : Nat) (bH : Nat → Nat) (q1 q2 q3 q4 q5 q6 q7 q8 q9 q10 q11 q12 q13 q14 q15 q16 q17 q18 q19 q20 q21 q22 q23 q24 q25 q26 q27 q28 : Nat) : va_W := [(h, .inr (4, [.ref q1, .ref q6, .ref q12, .ref q15, .ref q16, .ref q17, .ref q18])), (q17, .inl (cx 2, 2, .inl (aI zI))), (q18, .inl (cx 0, 16, .inl (aI zI))), (q1, .inr (2, [.int (iI 16), .int (iI 1), .ref q2, .ref q3, .ref q4, .ref q5])), (q2, .inl (cx 0, 64, .inl (aI zI))), (q3, .inl (cx 0, 9, .inl (aI fvS))), (q4, .inl (cx 0, 16, .inl (aI zI))), (q5, .inl (cx 0, 16, .inl (aI zI))), (q6, .inr (0, [.ref q1, .int 0, .int 0, .ref q7, .ref q8, .ref q9, .ref q10, .ref q11])), (q7, .inl (cx 0, 33, .inl (aI zI))), (q8, .inl (cx 0, 16, .inl (aI zI))), (q9, .inl (cx 0, 16, .inl (aI zI))), (q10, .inl (cx 0, 561, .inl (aI zI))), (q11, .inl (cx 0, 17, .inl (aI zI))), (q12, .inr (3, [.ref q1, .ref q6, .ref q13, .ref q14])), (q13, .inl (cx 0, 16, .inl (aI zI))), (q14, .inl (cx 1, 16, .inr (.inl (aL zI)))), (q15, .inr (1, [.ref (bH 40), .int 0, .int 0])), ((bH 40), .inl (cx 3, 8, .inr (.inr (.inr (.inr (rl [(bH 0), (bH 5), (bH 10), (bH 15), (bH 20), (bH 25), (bH 30), (bH 35)])))))), ((bH 0), .inr (2, [.int (iI 16), .int (iI 1), .ref (bH 1), .ref (bH 2), .ref (bH 3), .ref (bH 4)])), ((bH 1), .inl (cx 0, 64, .inl (aI zI))), ((bH 2), .inl (cx 0, 9, .inl (aI fvS))), ((bH 3), .inl (cx 0, 16, .inl (aI zI))), ((bH 4), .inl (cx 0, 16, .inl (aI zI))), ((bH 5), .inr (2, [.int (iI 16), .int (iI 1), .ref (bH 6), .ref (bH 7), .ref (bH 8), .ref (bH 9)])), ((bH 6), .inl (cx 0, 64, .inl (aI zI))), ((bH 7), .inl (cx 0, 9, .inl (aI fvS))), ((bH 8), .inl (cx 0, 16, .inl (aI zI))), ((bH 9), .inl (cx 0, 16, .inl (aI zI))), ((bH 10), .inr (2, [.int (iI 16), .int (iI 1), .ref (bH 11), .ref (bH 12), .ref (bH 13), .ref (bH 14)])), ((bH 11), .inl (cx 0, 64, .inl (aI zI))), ((bH 12), .inl (cx 0, 9, .inl (aI fvS))), ((bH 13), .inl (cx 0, 16, .inl (aI zI))), ((bH 14), .inl (cx 0, 16, .inl (aI zI))), ((bH 15), .inr (2, [.int (iI 16), .int (iI 1), .ref (bH 16), .ref (bH 17), .ref (bH 18), .ref (bH 19)])), ((bH 16), .inl (cx 0, 64, .inl (aI zI))), ((bH 17), .inl (cx 0, 9, .inl (aI fvS))), ((bH 18), .inl (cx 0, 16, .inl (aI zI))), ((bH 19), .inl (cx 0, 16, .inl (aI zI))), ((bH 20), .inr (2, [.int (iI 16), .int (iI 1), .ref (bH 21), .ref (bH 22), .ref (bH 23), .ref (bH 24)])), ((bH 21), .inl (cx 0, 64, .inl (aI zI))), ((bH 22), .inl (cx 0, 9, .inl (aI fvS))), ((bH 23), .inl (cx 0, 16, .inl (aI zI))), ((bH 24), .inl (cx 0, 16, .inl (aI zI))), ((bH 25), .inr (2, [.int (iI 16), .int (iI 1), .ref (bH 26), .ref (bH 27), .ref (bH 28), .ref (bH 29)])), ((bH 26), .inl (cx 0, 64, .inl (aI zI))), ((bH 27), .inl (cx 0, 9, .inl (aI fvS))), ((bH 28), .inl (cx 0, 16, .inl (aI zI))), ((bH 29), .inl (cx 0, 16, .inl (aI zI))), ((bH 30), .inr (2, [.int (iI 16), .int (iI 1), .ref (bH 31), .ref (bH 32), .ref (bH 33), .ref (bH 34)])), ((bH 31), .inl (cx 0, 64, .inl (aI zI))), ((bH 32), .inl (cx 0, 9, .inl (aI fvS))), ((bH 33), .inl (cx 0, 16, .inl (aI zI))), ((bH 34), .inl (cx 0, 16, .inl (aI zI))), ((bH 35), .inr (2, [.int (iI 16), .int (iI 1), .ref (bH 36), .ref (bH 37), .ref (bH 38), .ref (bH 39)])), ((bH 36), .inl (cx 0, 64, .inl (aI zI))), ((bH 37), .inl (cx 0, 9, .inl (aI fvS))), ((bH 38), .inl (cx 0, 16, .inl (aI zI))), ((bH 39), .inl (cx 0, 16, .inl (aI zI))), (q16, .inl (cx 3, 2, .inr (.inr (.inr (.inr (rl [q19, q24])))))), (q19, .inr (2, [.int (iI 16), .int (iI 1), .ref q20, .ref q21, .ref q22, .ref q23])), (q20, .inl (cx 0, 64, .inl (aI zI))), (q21, .inl (cx 0, 9, .inl (aI fvS))), (q22, .inl (cx 0, 16, .inl (aI zI))), (q23, .inl (cx 0, 16, .inl (aI zI))), (q24, .inr (2, [.int (iI 16), .int (iI 1), .ref q25, .ref q26, .ref q27, .ref q28])), (q25, .inl (cx 0, 64, .inl (aI zI))), (q26, .inl (cx 0, 9, .inl (aI fvS))), (q27, .inl (cx 0, 16, .inl (aI zI))), (q28, .inl (cx 0, 16, .inl (aI zI)))]
def x4C (cx : Nat → Nat) (h : Nat) (bH : Nat → Nat) (q1 q2 q3 q4 q5 q6 q7 q8 q9 q10 q11 q12 q13 q14 q15 q16 q17 q18 q19 q20 q21 q22 q23 q24 q25 q26 q27 q28 : Nat) : va_W := (((((((([(h, .inr (4, [.ref q1, .ref q6, .ref q12, .ref q15, .ref q16, .ref q17, .ref q18]))] ++ gl cx q1 q2 q3 q4 q5) ++ gg cx q6 q1 q7 q8 q9 q10 q11) ++ gs cx q12 q1 q6 q13 q14) ++ hw cx q15 bH) ++ [(q16, .inl (cx 3, 2, .inr (.inr (.inr (.inr (rl [q19, q24]))))))]) ++ [(q17, .inl (cx 2, 2, .inl (aI zI)))]) ++ [(q18, .inl (cx 0, 16, .inl (aI zI)))]) ++ gl cx q19 q20 q21 q22 q23) ++ gl cx q24 q25 q26 q27 q28
theorem x4_leW {G : va_G} (cx : Nat → Nat) (h : Nat) (bH : Nat → Nat) (q1 q2 q3 q4 q5 q6 q7 q8 q9 q10 q11 q12 q13 q14 q15 q16 q17 q18 q19 q20 q21 q22 q23 q24 q25 q26 q27 q28 : Nat) : leW G vwCl (x4L cx h bH q1 q2 q3 q4 q5 q6 q7 q8 q9 q10 q11 q12 q13 q14 q15 q16 q17 q18 q19 q20 q21 q22 q23 q24 q25 q26 q27 q28) (wx cx (a0 h (x4a bH q1 q2 q3 q4 q5 q6 q7 q8 q9 q10 q11 q12 q13 q14 q15 q16 q17 q18 q19 q20 q21 q22 q23 q24 q25 q26 q27 q28)) s0X) := by
  refine leW_o ?_ rfl
  refine leW_i ?_ (fun k h1 h2 => rfl)
  refine leW_i ?_ (fun k h1 h2 => rfl)
  refine leW_o ?_ rfl
  refine leW_i ?_ (fun k h1 h2 => w0_e k h1 h2)
  refine leW_i ?_ (fun k h1 h2 => w0_s k h1 h2)
  refine leW_i ?_ (fun k h1 h2 => w0_m k h1 h2)
  refine leW_i ?_ (fun k h1 h2 => w0_q k h1 h2)
  refine leW_o ?_ rfl
  refine leW_i ?_ (fun k h1 h2 => rfl)
  refine leW_i ?_ (fun k h1 h2 => rfl)
  refine leW_i ?_ (fun k h1 h2 => rfl)
  refine leW_i ?_ (fun k h1 h2 => rfl)
  refine leW_i ?_ (fun k h1 h2 => rfl)
  refine leW_o ?_ rfl
  refine leW_i ?_ (fun k h1 h2 => rfl)
  refine leW_l ?_ (fun k h1 h2 => rfl)
  refine leW_o ?_ rfl
  refine leW_q ?_ (fun k hk => by rcases (show k = 0 ∨ k = 1 ∨ k = 2 ∨ k = 3 ∨ k = 4 ∨ k = 5 ∨ k = 6 ∨ k = 7 by omega) with rfl | rfl | rfl | rfl | rfl | rfl | rfl | rfl <;> rfl)
  refine leW_o ?_ rfl
  refine leW_i ?_ (fun k h1 h2 => w0_c (w0_e k h1 h2) (by omega))
  refine leW_i ?_ (fun k h1 h2 => w0_c (w0_s k h1 h2) (by omega))
  refine leW_i ?_ (fun k h1 h2 => w0_c (w0_m k h1 h2) (by omega))
  refine leW_i ?_ (fun k h1 h2 => w0_c (w0_q k h1 h2) (by omega))
  refine leW_o ?_ rfl
  refine leW_i ?_ (fun k h1 h2 => w0_c (w0_e k h1 h2) (by omega))
  refine leW_i ?_ (fun k h1 h2 => w0_c (w0_s k h1 h2) (by omega))
  refine leW_i ?_ (fun k h1 h2 => w0_c (w0_m k h1 h2) (by omega))
  refine leW_i ?_ (fun k h1 h2 => w0_c (w0_q k h1 h2) (by omega))
  refine leW_o ?_ rfl
  refine leW_i ?_ (fun k h1 h2 => w0_c (w0_e k h1 h2) (by omega))
  refine leW_i ?_ (fun k h1 h2 => w0_c (w0_s k h1 h2) (by omega))
  refine leW_i ?_ (fun k h1 h2 => w0_c (w0_m k h1 h2) (by omega))
  refine leW_i ?_ (fun k h1 h2 => w0_c (w0_q k h1 h2) (by omega))
  refine leW_o ?_ rfl
  refine leW_i ?_ (fun k h1 h2 => w0_c (w0_e k h1 h2) (by omega))
  refine leW_i ?_ (fun k h1 h2 => w0_c (w0_s k h1 h2) (by omega))
  refine leW_i ?_ (fun k h1 h2 => w0_c (w0_m k h1 h2) (by omega))
  refine leW_i ?_ (fun k h1 h2 => w0_c (w0_q k h1 h2) (by omega))
  refine leW_o ?_ rfl
  refine leW_i ?_ (fun k h1 h2 => w0_c (w0_e k h1 h2) (by omega))
  refine leW_i ?_ (fun k h1 h2 => w0_c (w0_s k h1 h2) (by omega))
  refine leW_i ?_ (fun k h1 h2 => w0_c (w0_m k h1 h2) (by omega))
  refine leW_i ?_ (fun k h1 h2 => w0_c (w0_q k h1 h2) (by omega))
  refine leW_o ?_ rfl
  refine leW_i ?_ (fun k h1 h2 => w0_c (w0_e k h1 h2) (by omega))
  refine leW_i ?_ (fun k h1 h2 => w0_c (w0_s k h1 h2) (by omega))
  refine leW_i ?_ (fun k h1 h2 => w0_c (w0_m k h1 h2) (by omega))
  refine leW_i ?_ (fun k h1 h2 => w0_c (w0_q k h1 h2) (by omega))
  refine leW_o ?_ rfl
  refine leW_i ?_ (fun k h1 h2 => w0_c (w0_e k h1 h2) (by omega))
  refine leW_i ?_ (fun k h1 h2 => w0_c (w0_s k h1 h2) (by omega))
  refine leW_i ?_ (fun k h1 h2 => w0_c (w0_m k h1 h2) (by omega))
  refine leW_i ?_ (fun k h1 h2 => w0_c (w0_q k h1 h2) (by omega))
  refine leW_o ?_ rfl
  refine leW_i ?_ (fun k h1 h2 => w0_c (w0_e k h1 h2) (by omega))
  refine leW_i ?_ (fun k h1 h2 => w0_c (w0_s k h1 h2) (by omega))
  refine leW_i ?_ (fun k h1 h2 => w0_c (w0_m k h1 h2) (by omega))
  refine leW_i ?_ (fun k h1 h2 => w0_c (w0_q k h1 h2) (by omega))
  refine leW_q ?_ (fun k hk => by rcases (show k = 0 ∨ k = 1 by omega) with rfl | rfl <;> rfl)
  refine leW_o ?_ rfl
  refine leW_i ?_ (fun k h1 h2 => w0_c (w0_e k h1 h2) (by omega))
  refine leW_i ?_ (fun k h1 h2 => w0_c (w0_s k h1 h2) (by omega))
  refine leW_i ?_ (fun k h1 h2 => w0_c (w0_m k h1 h2) (by omega))
  refine leW_i ?_ (fun k h1 h2 => w0_c (w0_q k h1 h2) (by omega))
  refine leW_o ?_ rfl
  refine leW_i ?_ (fun k h1 h2 => w0_c (w0_e k h1 h2) (by omega))
  refine leW_i ?_ (fun k h1 h2 => w0_c (w0_s k h1 h2) (by omega))
  refine leW_i ?_ (fun k h1 h2 => w0_c (w0_m k h1 h2) (by omega))
  refine leW_i ?_ (fun k h1 h2 => w0_c (w0_q k h1 h2) (by omega))
  exact leW_0
def x4F (cx : Nat → Nat) (h : Nat) (bH : Nat → Nat) (q1 q2 q3 q4 q5 q6 q7 q8 q9 q10 q11 q12 q13 q14 q15 q16 q17 q18 q19 q20 q21 q22 q23 q24 q25 q26 q27 q28 : Nat) : va_W := [(h, .inr (4, [.ref q1, .ref q6, .ref q12, .ref q15, .ref q16, .ref q17, .ref q18])), (q1, .inr (2, [.int (iI 16), .int (iI 1), .ref q2, .ref q3, .ref q4, .ref q5])), (q2, .inl (cx 0, 64, .inl (aI zI))), (q3, .inl (cx 0, 9, .inl (aI fvS))), (q4, .inl (cx 0, 16, .inl (aI zI))), (q5, .inl (cx 0, 16, .inl (aI zI))), (q6, .inr (0, [.ref q1, .int 0, .int 0, .ref q7, .ref q8, .ref q9, .ref q10, .ref q11])), (q7, .inl (cx 0, 33, .inl (aI zI))), (q8, .inl (cx 0, 16, .inl (aI zI))), (q9, .inl (cx 0, 16, .inl (aI zI))), (q10, .inl (cx 0, 561, .inl (aI zI))), (q11, .inl (cx 0, 17, .inl (aI zI))), (q12, .inr (3, [.ref q1, .ref q6, .ref q13, .ref q14])), (q13, .inl (cx 0, 16, .inl (aI zI))), (q14, .inl (cx 1, 16, .inr (.inl (aL zI)))), (q15, .inr (1, [.ref (bH 40), .int 0, .int 0])), ((bH 40), .inl (cx 3, 8, .inr (.inr (.inr (.inr (rl [(bH 0), (bH 5), (bH 10), (bH 15), (bH 20), (bH 25), (bH 30), (bH 35)])))))), ((bH 0), .inr (2, [.int (iI 16), .int (iI 1), .ref (bH 1), .ref (bH 2), .ref (bH 3), .ref (bH 4)])), ((bH 1), .inl (cx 0, 64, .inl (aI zI))), ((bH 2), .inl (cx 0, 9, .inl (aI fvS))), ((bH 3), .inl (cx 0, 16, .inl (aI zI))), ((bH 4), .inl (cx 0, 16, .inl (aI zI))), ((bH 5), .inr (2, [.int (iI 16), .int (iI 1), .ref (bH 6), .ref (bH 7), .ref (bH 8), .ref (bH 9)])), ((bH 6), .inl (cx 0, 64, .inl (aI zI))), ((bH 7), .inl (cx 0, 9, .inl (aI fvS))), ((bH 8), .inl (cx 0, 16, .inl (aI zI))), ((bH 9), .inl (cx 0, 16, .inl (aI zI))), ((bH 10), .inr (2, [.int (iI 16), .int (iI 1), .ref (bH 11), .ref (bH 12), .ref (bH 13), .ref (bH 14)])), ((bH 11), .inl (cx 0, 64, .inl (aI zI))), ((bH 12), .inl (cx 0, 9, .inl (aI fvS))), ((bH 13), .inl (cx 0, 16, .inl (aI zI))), ((bH 14), .inl (cx 0, 16, .inl (aI zI))), ((bH 15), .inr (2, [.int (iI 16), .int (iI 1), .ref (bH 16), .ref (bH 17), .ref (bH 18), .ref (bH 19)])), ((bH 16), .inl (cx 0, 64, .inl (aI zI))), ((bH 17), .inl (cx 0, 9, .inl (aI fvS))), ((bH 18), .inl (cx 0, 16, .inl (aI zI))), ((bH 19), .inl (cx 0, 16, .inl (aI zI))), ((bH 20), .inr (2, [.int (iI 16), .int (iI 1), .ref (bH 21), .ref (bH 22), .ref (bH 23), .ref (bH 24)])), ((bH 21), .inl (cx 0, 64, .inl (aI zI))), ((bH 22), .inl (cx 0, 9, .inl (aI fvS))), ((bH 23), .inl (cx 0, 16, .inl (aI zI))), ((bH 24), .inl (cx 0, 16, .inl (aI zI))), ((bH 25), .inr (2, [.int (iI 16), .int (iI 1), .ref (bH 26), .ref (bH 27), .ref (bH 28), .ref (bH 29)])), ((bH 26), .inl (cx 0, 64, .inl (aI zI))), ((bH 27), .inl (cx 0, 9, .inl (aI fvS))), ((bH 28), .inl (cx 0, 16, .inl (aI zI))), ((bH 29), .inl (cx 0, 16, .inl (aI zI))), ((bH 30), .inr (2, [.int (iI 16), .int (iI 1), .ref (bH 31), .ref (bH 32), .ref (bH 33), .ref (bH 34)])), ((bH 31), .inl (cx 0, 64, .inl (aI zI))), ((bH 32), .inl (cx 0, 9, .inl (aI fvS))), ((bH 33), .inl (cx 0, 16, .inl (aI zI))), ((bH 34), .inl (cx 0, 16, .inl (aI zI))), ((bH 35), .inr (2, [.int (iI 16), .int (iI 1), .ref (bH 36), .ref (bH 37), .ref (bH 38), .ref (bH 39)])), ((bH 36), .inl (cx 0, 64, .inl (aI zI))), ((bH 37), .inl (cx 0, 9, .inl (aI fvS))), ((bH 38), .inl (cx 0, 16, .inl (aI zI))), ((bH 39), .inl (cx 0, 16, .inl (aI zI))), (q16, .inl (cx 3, 2, .inr (.inr (.inr (.inr (rl [q19, q24])))))), (q17, .inl (cx 2, 2, .inl (aI zI))), (q18, .inl (cx 0, 16, .inl (aI zI))), (q19, .inr (2, [.int (iI 16), .int (iI 1), .ref q20, .ref q21, .ref q22, .ref q23])), (q20, .inl (cx 0, 64, .inl (aI zI))), (q21, .inl (cx 0, 9, .inl (aI fvS))), (q22, .inl (cx 0, 16, .inl (aI zI))), (q23, .inl (cx 0, 16, .inl (aI zI))), (q24, .inr (2, [.int (iI 16), .int (iI 1), .ref q25, .ref q26, .ref q27, .ref q28])), (q25, .inl (cx 0, 64, .inl (aI zI))), (q26, .inl (cx 0, 9, .inl (aI fvS))), (q27, .inl (cx 0, 16, .inl (aI zI))), (q28, .inl (cx 0, 16, .inl (aI zI)))]
theorem x4_flat (cx : Nat → Nat) (h : Nat) (bH : Nat → Nat) (q1 q2 q3 q4 q5 q6 q7 q8 q9 q10 q11 q12 q13 q14 q15 q16 q17 q18 q19 q20 q21 q22 q23 q24 q25 q26 q27 q28 : Nat) : x4C cx h bH q1 q2 q3 q4 q5 q6 q7 q8 q9 q10 q11 q12 q13 q14 q15 q16 q17 q18 q19 q20 q21 q22 q23 q24 q25 q26 q27 q28 = x4F cx h bH q1 q2 q3 q4 q5 q6 q7 q8 q9 q10 q11 q12 q13 q14 q15 q16 q17 q18 q19 q20 q21 q22 q23 q24 q25 q26 q27 q28 := by
  unfold x4C x4F hw gg gs gl
  simp only [List.cons_append, List.nil_append]
def x4p : List Nat := [0, 58, 59, 1, 2, 3, 4, 5, 6, 7, 8, 9, 10, 11, 12, 13, 14, 15, 16, 17, 18, 19, 20, 21, 22, 23, 24, 25, 26, 27, 28, 29, 30, 31, 32, 33, 34, 35, 36, 37, 38, 39, 40, 41, 42, 43, 44, 45, 46, 47, 48, 49, 50, 51, 52, 53, 54, 55, 56, 57, 60, 61, 62, 63, 64, 65, 66, 67, 68, 69]
theorem x4_per (cx : Nat → Nat) (h : Nat) (bH : Nat → Nat) (q1 q2 q3 q4 q5 q6 q7 q8 q9 q10 q11 q12 q13 q14 q15 q16 q17 q18 q19 q20 q21 q22 q23 q24 q25 q26 q27 q28 : Nat) : x4p.map (fun i => (x4F cx h bH q1 q2 q3 q4 q5 q6 q7 q8 q9 q10 q11 q12 q13 q14 q15 q16 q17 q18 q19 q20 q21 q22 q23 q24 q25 q26 q27 q28)[i]?) = (x4L cx h bH q1 q2 q3 q4 q5 q6 q7 q8 q9 q10 q11 q12 q13 q14 q15 q16 q17 q18 q19 q20 q21 q22 q23 q24 q25 q26 q27 q28).map some := by
  unfold x4F x4L x4p
  rfl
theorem x4_fm {cx : Nat → Nat} {ws ws1 : va_W} {is : List Nat} (h : is.map (fun i => ws[i]?) = ws1.map some) : is.filterMap (fun i => ws[i]?) = ws1 := by
  have e : is.filterMap (fun i => ws[i]?) = (is.map (fun i => ws[i]?)).filterMap id := by rw [List.filterMap_map]; rfl
  rw [e, h, List.filterMap_map]
  exact List.filterMap_some
theorem x4_conv {G : va_G} {A : Nat → Prop} {H : Heap} (cx : Nat → Nat) (h : Nat) (bH : Nat → Nat) (q1 q2 q3 q4 q5 q6 q7 q8 q9 q10 q11 q12 q13 q14 q15 q16 q17 q18 q19 q20 q21 q22 q23 q24 q25 q26 q27 q28 : Nat) (hP : va_P G vwCl (x4C cx h bH q1 q2 q3 q4 q5 q6 q7 q8 q9 q10 q11 q12 q13 q14 q15 q16 q17 q18 q19 q20 q21 q22 q23 q24 q25 q26 q27 q28) H) (hD : va_D A (x4C cx h bH q1 q2 q3 q4 q5 q6 q7 q8 q9 q10 q11 q12 q13 q14 q15 q16 q17 q18 q19 q20 q21 q22 q23 q24 q25 q26 q27 q28)) : va_P G vwCl (wx cx (a0 h (x4a bH q1 q2 q3 q4 q5 q6 q7 q8 q9 q10 q11 q12 q13 q14 q15 q16 q17 q18 q19 q20 q21 q22 q23 q24 q25 q26 q27 q28)) s0X) H ∧ va_D A (wx cx (a0 h (x4a bH q1 q2 q3 q4 q5 q6 q7 q8 q9 q10 q11 q12 q13 q14 q15 q16 q17 q18 q19 q20 q21 q22 q23 q24 q25 q26 q27 q28)) s0X) := by
  rw [x4_flat] at hP hD
  exact ⟨leW_P (x4_leW cx h bH q1 q2 q3 q4 q5 q6 q7 q8 q9 q10 q11 q12 q13 q14 q15 q16 q17 q18 q19 q20 q21 q22 q23 q24 q25 q26 q27 q28) (hP.sub x4p (x4_fm (cx := cx) (x4_per cx h bH q1 q2 q3 q4 q5 q6 q7 q8 q9 q10 q11 q12 q13 q14 q15 q16 q17 q18 q19 q20 q21 q22 q23 q24 q25 q26 q27 q28))), leW_D (x4_leW (G := G) cx h bH q1 q2 q3 q4 q5 q6 q7 q8 q9 q10 q11 q12 q13 q14 q15 q16 q17 q18 q19 q20 q21 q22 q23 q24 q25 q26 q27 q28) (hD.sub x4p (by decide +kernel) (x4_per cx h bH q1 q2 q3 q4 q5 q6 q7 q8 q9 q10 q11 q12 q13 q14 q15 q16 q17 q18 q19 q20 q21 q22 q23 q24 q25 q26 q27 q28))⟩
