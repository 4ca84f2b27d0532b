def wx (cx a : Nat → Nat) (σ : Nat → Int → Int) : va_W :=
  [(a 0, .inr (4, [.ref (a 3), .ref (a 8), .ref (a 14), .ref (a 17), .ref (a 59), .ref (a 1), .ref (a 2)])),
   (a 1, .inl (cx 2, 2, .inl (aI (σ 11)))),
   (a 2, .inl (cx 0, 16, .inl (aI (σ 13)))),
   (a 3, .inr (2, [.int (iI (σ 0 0)), .int (iI (σ 0 74)), .ref (a 4), .ref (a 5), .ref (a 6), .ref (a 7)])),
   (a 4, .inl (cx 0, 64, .inl (aI (fun k => σ 0 (10 + k))))),
   (a 5, .inl (cx 0, 9, .inl (aI (fun k => σ 0 (1 + k))))),
   (a 6, .inl (cx 0, 16, .inl (aI (fun k => σ 0 (75 + k))))),
   (a 7, .inl (cx 0, 16, .inl (aI (fun k => σ 0 (91 + k))))),
   (a 8, .inr (0, [.ref (a 3), .int (iI (σ 21 0)), .int (iI (σ 21 1)), .ref (a 9), .ref (a 10), .ref (a 11), .ref (a 12), .ref (a 13)])),
   (a 9, .inl (cx 0, 33, .inl (aI (σ 14)))),
   (a 10, .inl (cx 0, 16, .inl (aI (σ 15)))),
   (a 11, .inl (cx 0, 16, .inl (aI (σ 16)))),
   (a 12, .inl (cx 0, 561, .inl (aI (σ 17)))),
   (a 13, .inl (cx 0, 17, .inl (aI (σ 18)))),
   (a 14, .inr (3, [.ref (a 3), .ref (a 8), .ref (a 15), .ref (a 16)])),
   (a 15, .inl (cx 0, 16, .inl (aI (σ 19)))),
   (a 16, .inl (cx 1, 16, .inr (.inl (aL (σ 20))))),
   (a 17, .inr (1, [.ref (a 18), .int (iI (σ 12 0)), .int (iI (σ 12 1))])),
   (a 18, .inl (cx 3, 8, .inr (.inr (.inr (.inr (fun k => some (a (19 + 5 * k)))))))),
   (a 19, .inr (2, [.int (iI (σ 1 0)), .int (iI (σ 1 74)), .ref (a 20), .ref (a 21), .ref (a 22), .ref (a 23)])),
   (a 20, .inl (cx 0, 64, .inl (aI (fun k => σ 1 (10 + k))))),
   (a 21, .inl (cx 0, 9, .inl (aI (fun k => σ 1 (1 + k))))),
   (a 22, .inl (cx 0, 16, .inl (aI (fun k => σ 1 (75 + k))))),
   (a 23, .inl (cx 0, 16, .inl (aI (fun k => σ 1 (91 + k))))),
   (a 24, .inr (2, [.int (iI (σ 1 107)), .int (iI (σ 1 181)), .ref (a 25), .ref (a 26), .ref (a 27), .ref (a 28)])),
   (a 25, .inl (cx 0, 64, .inl (aI (fun k => σ 1 (117 + k))))),
   (a 26, .inl (cx 0, 9, .inl (aI (fun k => σ 1 (108 + k))))),
   (a 27, .inl (cx 0, 16, .inl (aI (fun k => σ 1 (182 + k))))),
   (a 28, .inl (cx 0, 16, .inl (aI (fun k => σ 1 (198 + k))))),
   (a 29, .inr (2, [.int (iI (σ 1 214)), .int (iI (σ 1 288)), .ref (a 30), .ref (a 31), .ref (a 32), .ref (a 33)])),
   (a 30, .inl (cx 0, 64, .inl (aI (fun k => σ 1 (224 + k))))),
   (a 31, .inl (cx 0, 9, .inl (aI (fun k => σ 1 (215 + k))))),
   (a 32, .inl (cx 0, 16, .inl (aI (fun k => σ 1 (289 + k))))),
   (a 33, .inl (cx 0, 16, .inl (aI (fun k => σ 1 (305 + k))))),
   (a 34, .inr (2, [.int (iI (σ 1 321)), .int (iI (σ 1 395)), .ref (a 35), .ref (a 36), .ref (a 37), .ref (a 38)])),
   (a 35, .inl (cx 0, 64, .inl (aI (fun k => σ 1 (331 + k))))),
   (a 36, .inl (cx 0, 9, .inl (aI (fun k => σ 1 (322 + k))))),
   (a 37, .inl (cx 0, 16, .inl (aI (fun k => σ 1 (396 + k))))),
   (a 38, .inl (cx 0, 16, .inl (aI (fun k => σ 1 (412 + k))))),
   (a 39, .inr (2, [.int (iI (σ 1 428)), .int (iI (σ 1 502)), .ref (a 40), .ref (a 41), .ref (a 42), .ref (a 43)])),
   (a 40, .inl (cx 0, 64, .inl (aI (fun k => σ 1 (438 + k))))),
   (a 41, .inl (cx 0, 9, .inl (aI (fun k => σ 1 (429 + k))))),
   (a 42, .inl (cx 0, 16, .inl (aI (fun k => σ 1 (503 + k))))),
   (a 43, .inl (cx 0, 16, .inl (aI (fun k => σ 1 (519 + k))))),
   (a 44, .inr (2, [.int (iI (σ 1 535)), .int (iI (σ 1 609)), .ref (a 45), .ref (a 46), .ref (a 47), .ref (a 48)])),
   (a 45, .inl (cx 0, 64, .inl (aI (fun k => σ 1 (545 + k))))),
   (a 46, .inl (cx 0, 9, .inl (aI (fun k => σ 1 (536 + k))))),
   (a 47, .inl (cx 0, 16, .inl (aI (fun k => σ 1 (610 + k))))),
   (a 48, .inl (cx 0, 16, .inl (aI (fun k => σ 1 (626 + k))))),
   (a 49, .inr (2, [.int (iI (σ 1 642)), .int (iI (σ 1 716)), .ref (a 50), .ref (a 51), .ref (a 52), .ref (a 53)])),
   (a 50, .inl (cx 0, 64, .inl (aI (fun k => σ 1 (652 + k))))),
   (a 51, .inl (cx 0, 9, .inl (aI (fun k => σ 1 (643 + k))))),
   (a 52, .inl (cx 0, 16, .inl (aI (fun k => σ 1 (717 + k))))),
   (a 53, .inl (cx 0, 16, .inl (aI (fun k => σ 1 (733 + k))))),
   (a 54, .inr (2, [.int (iI (σ 1 749)), .int (iI (σ 1 823)), .ref (a 55), .ref (a 56), .ref (a 57), .ref (a 58)])),
   (a 55, .inl (cx 0, 64, .inl (aI (fun k => σ 1 (759 + k))))),
   (a 56, .inl (cx 0, 9, .inl (aI (fun k => σ 1 (750 + k))))),
   (a 57, .inl (cx 0, 16, .inl (aI (fun k => σ 1 (824 + k))))),
   (a 58, .inl (cx 0, 16, .inl (aI (fun k => σ 1 (840 + k))))),
   (a 59, .inl (cx 3, 2, .inr (.inr (.inr (.inr (fun k => some (a (60 + 5 * k)))))))),
   (a 60, .inr (2, [.int (iI (σ 9 0)), .int (iI (σ 9 74)), .ref (a 61), .ref (a 62), .ref (a 63), .ref (a 64)])),
   (a 61, .inl (cx 0, 64, .inl (aI (fun k => σ 9 (10 + k))))),
   (a 62, .inl (cx 0, 9, .inl (aI (fun k => σ 9 (1 + k))))),
   (a 63, .inl (cx 0, 16, .inl (aI (fun k => σ 9 (75 + k))))),
   (a 64, .inl (cx 0, 16, .inl (aI (fun k => σ 9 (91 + k))))),
   (a 65, .inr (2, [.int (iI (σ 9 107)), .int (iI (σ 9 181)), .ref (a 66), .ref (a 67), .ref (a 68), .ref (a 69)])),
   (a 66, .inl (cx 0, 64, .inl (aI (fun k => σ 9 (117 + k))))),
   (a 67, .inl (cx 0, 9, .inl (aI (fun k => σ 9 (108 + k))))),
   (a 68, .inl (cx 0, 16, .inl (aI (fun k => σ 9 (182 + k))))),
   (a 69, .inl (cx 0, 16, .inl (aI (fun k => σ 9 (198 + k)))))]


abbrev tx (cx : Nat → Nat) : List (ClassId × FieldType) := [(cx 0, .int), (cx 1, .long), (cx 2, .boolean), (cx 3, .object "LoopSlicer$Loop")]
def XA (a : Nat → Nat) : Nat → Prop := fun q => ∃ k, k < 70 ∧ q = a k
theorem wx_up_1 {G : va_G} {cx a : Nat → Nat} {σ : Nat → Int → Int} {i v : Int} (h : 0 ≤ i ∧ i < 2) : leW G vwCl ((wx cx a σ).set 1 (a 1, .inl (cx 2, 2, .inl (aI (ups (σ 11) i v))))) (wx cx a (st σ 11 i v)) := by
  refine leW_k ?_
  refine leW_k ?_
  refine leW_k ?_
  refine leW_k ?_
  refine leW_k ?_
  refine leW_k ?_
  refine leW_k ?_
  refine leW_k ?_
  refine leW_k ?_
  refine leW_k ?_
  refine leW_k ?_
  refine leW_k ?_
  refine leW_k ?_
  refine leW_k ?_
  refine leW_k ?_
  refine leW_k ?_
  refine leW_k ?_
  refine leW_k ?_
  refine leW_k ?_
  refine leW_k ?_
  refine leW_k ?_
  refine leW_k ?_
  refine leW_k ?_
  refine leW_k ?_
  refine leW_k ?_
  refine leW_k ?_
  refine leW_k ?_
  refine leW_k ?_
  refine leW_k ?_
  refine leW_k ?_
  refine leW_k ?_
  refine leW_k ?_
  refine leW_k ?_
  refine leW_k ?_
  refine leW_k ?_
  refine leW_k ?_
  refine leW_k ?_
  refine leW_k ?_
  refine leW_k ?_
  refine leW_k ?_
  refine leW_k ?_
  refine leW_k ?_
  refine leW_k ?_
  refine leW_k ?_
  refine leW_k ?_
  refine leW_k ?_
  refine leW_k ?_
  refine leW_k ?_
  refine leW_k ?_
  refine leW_k ?_
  refine leW_k ?_
  refine leW_k ?_
  refine leW_k ?_
  refine leW_k ?_
  refine leW_k ?_
  refine leW_k ?_
  refine leW_k ?_
  refine leW_k ?_
  refine leW_k ?_
  refine leW_k ?_
  refine leW_k ?_
  refine leW_k ?_
  refine leW_k ?_
  refine leW_k ?_
  refine leW_k ?_
  refine leW_k ?_
  refine leW_k ?_
  refine leW_k ?_
  refine leW_k ?_
  refine leW_k ?_
  exact leW_0

theorem wx_up_2 {G : va_G} {cx a : Nat → Nat} {σ : Nat → Int → Int} {i v : Int} (h : 0 ≤ i ∧ i < 16) : leW G vwCl ((wx cx a σ).set 2 (a 2, .inl (cx 0, 16, .inl (aI (ups (σ 13) i v))))) (wx cx a (st σ 13 i v)) := by
  refine leW_k ?_
  refine leW_k ?_
  refine leW_k ?_
  refine leW_k ?_
  refine leW_k ?_
  refine leW_k ?_
  refine leW_k ?_
  refine leW_k ?_
  refine leW_k ?_
  refine leW_k ?_
  refine leW_k ?_
  refine leW_k ?_
  refine leW_k ?_
  refine leW_k ?_
  refine leW_k ?_
  refine leW_k ?_
  refine leW_k ?_
  refine leW_k ?_
  refine leW_k ?_
  refine leW_k ?_
  refine leW_k ?_
  refine leW_k ?_
  refine leW_k ?_
  refine leW_k ?_
  refine leW_k ?_
  refine leW_k ?_
  refine leW_k ?_
  refine leW_k ?_
  refine leW_k ?_
  refine leW_k ?_
  refine leW_k ?_
  refine leW_k ?_
  refine leW_k ?_
  refine leW_k ?_
  refine leW_k ?_
  refine leW_k ?_
  refine leW_k ?_
  refine leW_k ?_
  refine leW_k ?_
  refine leW_k ?_
  refine leW_k ?_
  refine leW_k ?_
  refine leW_k ?_
  refine leW_k ?_
  refine leW_k ?_
  refine leW_k ?_
  refine leW_k ?_
  refine leW_k ?_
  refine leW_k ?_
  refine leW_k ?_
  refine leW_k ?_
  refine leW_k ?_
  refine leW_k ?_
  refine leW_k ?_
  refine leW_k ?_
  refine leW_k ?_
  refine leW_k ?_
  refine leW_k ?_
  refine leW_k ?_
  refine leW_k ?_
  refine leW_k ?_
  refine leW_k ?_
  refine leW_k ?_
  refine leW_k ?_
  refine leW_k ?_
  refine leW_k ?_
  refine leW_k ?_
  refine leW_k ?_
  refine leW_k ?_
  refine leW_k ?_
  exact leW_0

theorem wx_pf_3_0 {G : va_G} {cx a : Nat → Nat} {σ : Nat → Int → Int} {v : Int} : leW G vwCl ((wx cx a σ).set 3 (a 3, .inr (2, [.int (iI v), .int (iI (σ 0 74)), .ref (a 4), .ref (a 5), .ref (a 6), .ref (a 7)]))) (wx cx a (st σ 0 0 v)) := by
  refine leW_k ?_
  refine leW_k ?_
  refine leW_k ?_
  refine leW_o ?_ ?_
  rotate_left
  · rw [show st σ 0 0 v 0 0 = v from by rw [st_a]; exact if_pos ⟨rfl, rfl⟩, show st σ 0 0 v 0 74 = σ 0 74 from by rw [st_a]; exact if_neg (by omega)]
  refine leW_i ?_ (fun k h1 h2 => ?_)
  rotate_left
  · show σ 0 (10 + k) = (if 10 + k = 0 then v else σ 0 (10 + k))
    rw [if_neg (by omega)]
  refine leW_i ?_ (fun k h1 h2 => ?_)
  rotate_left
  · show σ 0 (1 + k) = (if 1 + k = 0 then v else σ 0 (1 + k))
    rw [if_neg (by omega)]
  refine leW_i ?_ (fun k h1 h2 => ?_)
  rotate_left
  · show σ 0 (75 + k) = (if 75 + k = 0 then v else σ 0 (75 + k))
    rw [if_neg (by omega)]
  refine leW_i ?_ (fun k h1 h2 => ?_)
  rotate_left
  · show σ 0 (91 + k) = (if 91 + k = 0 then v else σ 0 (91 + k))
    rw [if_neg (by omega)]
  refine leW_k ?_
  refine leW_k ?_
  refine leW_k ?_
  refine leW_k ?_
  refine leW_k ?_
  refine leW_k ?_
  refine leW_k ?_
  refine leW_k ?_
  refine leW_k ?_
  refine leW_k ?_
  refine leW_k ?_
  refine leW_k ?_
  refine leW_k ?_
  refine leW_k ?_
  refine leW_k ?_
  refine leW_k ?_
  refine leW_k ?_
  refine leW_k ?_
  refine leW_k ?_
  refine leW_k ?_
  refine leW_k ?_
  refine leW_k ?_
  refine leW_k ?_
  refine leW_k ?_
  refine leW_k ?_
  refine leW_k ?_
  refine leW_k ?_
  refine leW_k ?_
  refine leW_k ?_
  refine leW_k ?_
  refine leW_k ?_
  refine leW_k ?_
  refine leW_k ?_
  refine leW_k ?_
  refine leW_k ?_
  refine leW_k ?_
  refine leW_k ?_
  refine leW_k ?_
  refine leW_k ?_
  refine leW_k ?_
  refine leW_k ?_
  refine leW_k ?_
  refine leW_k ?_
  refine leW_k ?_
  refine leW_k ?_
  refine leW_k ?_
  refine leW_k ?_
  refine leW_k ?_
  refine leW_k ?_
  refine leW_k ?_
  refine leW_k ?_
  refine leW_k ?_
  refine leW_k ?_
  refine leW_k ?_
  refine leW_k ?_
  refine leW_k ?_
  refine leW_k ?_
  refine leW_k ?_
  refine leW_k ?_
  refine leW_k ?_
  refine leW_k ?_
  refine leW_k ?_
  exact leW_0

theorem wx_pf_3_1 {G : va_G} {cx a : Nat → Nat} {σ : Nat → Int → Int} {v : Int} : leW G vwCl ((wx cx a σ).set 3 (a 3, .inr (2, [.int (iI (σ 0 0)), .int (iI v), .ref (a 4), .ref (a 5), .ref (a 6), .ref (a 7)]))) (wx cx a (st σ 0 74 v)) := by
  refine leW_k ?_
  refine leW_k ?_
  refine leW_k ?_
  refine leW_o ?_ ?_
  rotate_left
  · rw [show st σ 0 74 v 0 74 = v from by rw [st_a]; exact if_pos ⟨rfl, rfl⟩, show st σ 0 74 v 0 0 = σ 0 0 from by rw [st_a]; exact if_neg (by omega)]
  refine leW_i ?_ (fun k h1 h2 => ?_)
  rotate_left
  · show σ 0 (10 + k) = (if 10 + k = 74 then v else σ 0 (10 + k))
    rw [if_neg (by omega)]
  refine leW_i ?_ (fun k h1 h2 => ?_)
  rotate_left
  · show σ 0 (1 + k) = (if 1 + k = 74 then v else σ 0 (1 + k))
    rw [if_neg (by omega)]
  refine leW_i ?_ (fun k h1 h2 => ?_)
  rotate_left
  · show σ 0 (75 + k) = (if 75 + k = 74 then v else σ 0 (75 + k))
    rw [if_neg (by omega)]
  refine leW_i ?_ (fun k h1 h2 => ?_)
  rotate_left
  · show σ 0 (91 + k) = (if 91 + k = 74 then v else σ 0 (91 + k))
    rw [if_neg (by omega)]
  refine leW_k ?_
  refine leW_k ?_
  refine leW_k ?_
  refine leW_k ?_
  refine leW_k ?_
  refine leW_k ?_
  refine leW_k ?_
  refine leW_k ?_
  refine leW_k ?_
  refine leW_k ?_
  refine leW_k ?_
  refine leW_k ?_
  refine leW_k ?_
  refine leW_k ?_
  refine leW_k ?_
  refine leW_k ?_
  refine leW_k ?_
  refine leW_k ?_
  refine leW_k ?_
  refine leW_k ?_
  refine leW_k ?_
  refine leW_k ?_
  refine leW_k ?_
  refine leW_k ?_
  refine leW_k ?_
  refine leW_k ?_
  refine leW_k ?_
  refine leW_k ?_
  refine leW_k ?_
  refine leW_k ?_
  refine leW_k ?_
  refine leW_k ?_
  refine leW_k ?_
  refine leW_k ?_
  refine leW_k ?_
  refine leW_k ?_
  refine leW_k ?_
  refine leW_k ?_
  refine leW_k ?_
  refine leW_k ?_
  refine leW_k ?_
  refine leW_k ?_
  refine leW_k ?_
  refine leW_k ?_
  refine leW_k ?_
  refine leW_k ?_
  refine leW_k ?_
  refine leW_k ?_
  refine leW_k ?_
  refine leW_k ?_
  refine leW_k ?_
  refine leW_k ?_
  refine leW_k ?_
  refine leW_k ?_
  refine leW_k ?_
  refine leW_k ?_
  refine leW_k ?_
  refine leW_k ?_
  refine leW_k ?_
  refine leW_k ?_
  refine leW_k ?_
  refine leW_k ?_
  exact leW_0

theorem wx_up_4 {G : va_G} {cx a : Nat → Nat} {σ : Nat → Int → Int} {i v : Int} (h : 0 ≤ i ∧ i < 64) : leW G vwCl ((wx cx a σ).set 4 (a 4, .inl (cx 0, 64, .inl (aI (ups (fun k => σ 0 (10 + k)) i v))))) (wx cx a (st σ 0 (10 + i) v)) := by
  refine leW_k ?_
  refine leW_k ?_
  refine leW_k ?_
  refine leW_o ?_ ?_
  rotate_left
  · rw [show st σ 0 (10 + i) v 0 0 = σ 0 0 from by rw [st_a]; exact if_neg (by omega), show st σ 0 (10 + i) v 0 74 = σ 0 74 from by rw [st_a]; exact if_neg (by omega)]
  refine leW_i ?_ (fun k h1 h2 => ?_)
  rotate_left
  · show (if k = i then v else σ 0 (10 + k)) = (if 10 + k = (10 + i) then v else σ 0 (10 + k))
    by_cases hk : k = i
    · rw [if_pos hk, if_pos (by omega)]
    · rw [if_neg hk, if_neg (by omega)]
  refine leW_i ?_ (fun k h1 h2 => ?_)
  rotate_left
  · show σ 0 (1 + k) = (if 1 + k = (10 + i) then v else σ 0 (1 + k))
    rw [if_neg (by omega)]
  refine leW_i ?_ (fun k h1 h2 => ?_)
  rotate_left
  · show σ 0 (75 + k) = (if 75 + k = (10 + i) then v else σ 0 (75 + k))
    rw [if_neg (by omega)]
  refine leW_i ?_ (fun k h1 h2 => ?_)
  rotate_left
  · show σ 0 (91 + k) = (if 91 + k = (10 + i) then v else σ 0 (91 + k))
    rw [if_neg (by omega)]
  refine leW_k ?_
  refine leW_k ?_
  refine leW_k ?_
  refine leW_k ?_
  refine leW_k ?_
  refine leW_k ?_
  refine leW_k ?_
  refine leW_k ?_
  refine leW_k ?_
  refine leW_k ?_
  refine leW_k ?_
  refine leW_k ?_
  refine leW_k ?_
  refine leW_k ?_
  refine leW_k ?_
  refine leW_k ?_
  refine leW_k ?_
  refine leW_k ?_
  refine leW_k ?_
  refine leW_k ?_
  refine leW_k ?_
  refine leW_k ?_
  refine leW_k ?_
  refine leW_k ?_
  refine leW_k ?_
  refine leW_k ?_
  refine leW_k ?_
  refine leW_k ?_
  refine leW_k ?_
  refine leW_k ?_
  refine leW_k ?_
  refine leW_k ?_
  refine leW_k ?_
  refine leW_k ?_
  refine leW_k ?_
  refine leW_k ?_
  refine leW_k ?_
  refine leW_k ?_
  refine leW_k ?_
  refine leW_k ?_
  refine leW_k ?_
  refine leW_k ?_
  refine leW_k ?_
  refine leW_k ?_
  refine leW_k ?_
  refine leW_k ?_
  refine leW_k ?_
  refine leW_k ?_
  refine leW_k ?_
  refine leW_k ?_
  refine leW_k ?_
  refine leW_k ?_
  refine leW_k ?_
  refine leW_k ?_
  refine leW_k ?_
  refine leW_k ?_
  refine leW_k ?_
  refine leW_k ?_
  refine leW_k ?_
  refine leW_k ?_
  refine leW_k ?_
  refine leW_k ?_
  exact leW_0

theorem wx_up_5 {G : va_G} {cx a : Nat → Nat} {σ : Nat → Int → Int} {i v : Int} (h : 0 ≤ i ∧ i < 9) : leW G vwCl ((wx cx a σ).set 5 (a 5, .inl (cx 0, 9, .inl (aI (ups (fun k => σ 0 (1 + k)) i v))))) (wx cx a (st σ 0 (1 + i) v)) := by
  refine leW_k ?_
  refine leW_k ?_
  refine leW_k ?_
  refine leW_o ?_ ?_
  rotate_left
  · rw [show st σ 0 (1 + i) v 0 0 = σ 0 0 from by rw [st_a]; exact if_neg (by omega), show st σ 0 (1 + i) v 0 74 = σ 0 74 from by rw [st_a]; exact if_neg (by omega)]
  refine leW_i ?_ (fun k h1 h2 => ?_)
  rotate_left
  · show σ 0 (10 + k) = (if 10 + k = (1 + i) then v else σ 0 (10 + k))
    rw [if_neg (by omega)]
  refine leW_i ?_ (fun k h1 h2 => ?_)
  rotate_left
  · show (if k = i then v else σ 0 (1 + k)) = (if 1 + k = (1 + i) then v else σ 0 (1 + k))
    by_cases hk : k = i
    · rw [if_pos hk, if_pos (by omega)]
    · rw [if_neg hk, if_neg (by omega)]
  refine leW_i ?_ (fun k h1 h2 => ?_)
  rotate_left
  · show σ 0 (75 + k) = (if 75 + k = (1 + i) then v else σ 0 (75 + k))
    rw [if_neg (by omega)]
  refine leW_i ?_ (fun k h1 h2 => ?_)
  rotate_left
  · show σ 0 (91 + k) = (if 91 + k = (1 + i) then v else σ 0 (91 + k))
    rw [if_neg (by omega)]
  refine leW_k ?_
  refine leW_k ?_
  refine leW_k ?_
  refine leW_k ?_
  refine leW_k ?_
  refine leW_k ?_
  refine leW_k ?_
  refine leW_k ?_
  refine leW_k ?_
  refine leW_k ?_
  refine leW_k ?_
  refine leW_k ?_
  refine leW_k ?_
  refine leW_k ?_
  refine leW_k ?_
  refine leW_k ?_
  refine leW_k ?_
  refine leW_k ?_
  refine leW_k ?_
  refine leW_k ?_
  refine leW_k ?_
  refine leW_k ?_
  refine leW_k ?_
  refine leW_k ?_
  refine leW_k ?_
  refine leW_k ?_
  refine leW_k ?_
  refine leW_k ?_
  refine leW_k ?_
  refine leW_k ?_
  refine leW_k ?_
  refine leW_k ?_
  refine leW_k ?_
  refine leW_k ?_
  refine leW_k ?_
  refine leW_k ?_
  refine leW_k ?_
  refine leW_k ?_
  refine leW_k ?_
  refine leW_k ?_
  refine leW_k ?_
  refine leW_k ?_
  refine leW_k ?_
  refine leW_k ?_
  refine leW_k ?_
  refine leW_k ?_
  refine leW_k ?_
  refine leW_k ?_
  refine leW_k ?_
  refine leW_k ?_
  refine leW_k ?_
  refine leW_k ?_
  refine leW_k ?_
  refine leW_k ?_
  refine leW_k ?_
  refine leW_k ?_
  refine leW_k ?_
  refine leW_k ?_
  refine leW_k ?_
  refine leW_k ?_
  refine leW_k ?_
  refine leW_k ?_
  exact leW_0

theorem wx_up_6 {G : va_G} {cx a : Nat → Nat} {σ : Nat → Int → Int} {i v : Int} (h : 0 ≤ i ∧ i < 16) : leW G vwCl ((wx cx a σ).set 6 (a 6, .inl (cx 0, 16, .inl (aI (ups (fun k => σ 0 (75 + k)) i v))))) (wx cx a (st σ 0 (75 + i) v)) := by
  refine leW_k ?_
  refine leW_k ?_
  refine leW_k ?_
  refine leW_o ?_ ?_
  rotate_left
  · rw [show st σ 0 (75 + i) v 0 0 = σ 0 0 from by rw [st_a]; exact if_neg (by omega), show st σ 0 (75 + i) v 0 74 = σ 0 74 from by rw [st_a]; exact if_neg (by omega)]
  refine leW_i ?_ (fun k h1 h2 => ?_)
  rotate_left
  · show σ 0 (10 + k) = (if 10 + k = (75 + i) then v else σ 0 (10 + k))
    rw [if_neg (by omega)]
  refine leW_i ?_ (fun k h1 h2 => ?_)
  rotate_left
  · show σ 0 (1 + k) = (if 1 + k = (75 + i) then v else σ 0 (1 + k))
    rw [if_neg (by omega)]
  refine leW_i ?_ (fun k h1 h2 => ?_)
  rotate_left
  · show (if k = i then v else σ 0 (75 + k)) = (if 75 + k = (75 + i) then v else σ 0 (75 + k))
    by_cases hk : k = i
    · rw [if_pos hk, if_pos (by omega)]
    · rw [if_neg hk, if_neg (by omega)]
  refine leW_i ?_ (fun k h1 h2 => ?_)
  rotate_left
  · show σ 0 (91 + k) = (if 91 + k = (75 + i) then v else σ 0 (91 + k))
    rw [if_neg (by omega)]
  refine leW_k ?_
  refine leW_k ?_
  refine leW_k ?_
  refine leW_k ?_
  refine leW_k ?_
  refine leW_k ?_
  refine leW_k ?_
  refine leW_k ?_
  refine leW_k ?_
  refine leW_k ?_
  refine leW_k ?_
  refine leW_k ?_
  refine leW_k ?_
  refine leW_k ?_
  refine leW_k ?_
  refine leW_k ?_
  refine leW_k ?_
  refine leW_k ?_
  refine leW_k ?_
  refine leW_k ?_
  refine leW_k ?_
  refine leW_k ?_
  refine leW_k ?_
  refine leW_k ?_
  refine leW_k ?_
  refine leW_k ?_
  refine leW_k ?_
  refine leW_k ?_
  refine leW_k ?_
  refine leW_k ?_
  refine leW_k ?_
  refine leW_k ?_
  refine leW_k ?_
  refine leW_k ?_
  refine leW_k ?_
  refine leW_k ?_
  refine leW_k ?_
  refine leW_k ?_
  refine leW_k ?_
  refine leW_k ?_
  refine leW_k ?_
  refine leW_k ?_
  refine leW_k ?_
  refine leW_k ?_
  refine leW_k ?_
  refine leW_k ?_
  refine leW_k ?_
  refine leW_k ?_
  refine leW_k ?_
  refine leW_k ?_
  refine leW_k ?_
  refine leW_k ?_
  refine leW_k ?_
  refine leW_k ?_
  refine leW_k ?_
  refine leW_k ?_
  refine leW_k ?_
  refine leW_k ?_
  refine leW_k ?_
  refine leW_k ?_
  refine leW_k ?_
  refine leW_k ?_
  exact leW_0

theorem wx_up_7 {G : va_G} {cx a : Nat → Nat} {σ : Nat → Int → Int} {i v : Int} (h : 0 ≤ i ∧ i < 16) : leW G vwCl ((wx cx a σ).set 7 (a 7, .inl (cx 0, 16, .inl (aI (ups (fun k => σ 0 (91 + k)) i v))))) (wx cx a (st σ 0 (91 + i) v)) := by
  refine leW_k ?_
  refine leW_k ?_
  refine leW_k ?_
  refine leW_o ?_ ?_
  rotate_left
  · rw [show st σ 0 (91 + i) v 0 0 = σ 0 0 from by rw [st_a]; exact if_neg (by omega), show st σ 0 (91 + i) v 0 74 = σ 0 74 from by rw [st_a]; exact if_neg (by omega)]
  refine leW_i ?_ (fun k h1 h2 => ?_)
  rotate_left
  · show σ 0 (10 + k) = (if 10 + k = (91 + i) then v else σ 0 (10 + k))
    rw [if_neg (by omega)]
  refine leW_i ?_ (fun k h1 h2 => ?_)
  rotate_left
  · show σ 0 (1 + k) = (if 1 + k = (91 + i) then v else σ 0 (1 + k))
    rw [if_neg (by omega)]
  refine leW_i ?_ (fun k h1 h2 => ?_)
  rotate_left
  · show σ 0 (75 + k) = (if 75 + k = (91 + i) then v else σ 0 (75 + k))
    rw [if_neg (by omega)]
  refine leW_i ?_ (fun k h1 h2 => ?_)
  rotate_left
  · show (if k = i then v else σ 0 (91 + k)) = (if 91 + k = (91 + i) then v else σ 0 (91 + k))
    by_cases hk : k = i
    · rw [if_pos hk, if_pos (by omega)]
    · rw [if_neg hk, if_neg (by omega)]
  refine leW_k ?_
  refine leW_k ?_
  refine leW_k ?_
  refine leW_k ?_
  refine leW_k ?_
  refine leW_k ?_
  refine leW_k ?_
  refine leW_k ?_
  refine leW_k ?_
  refine leW_k ?_
  refine leW_k ?_
  refine leW_k ?_
  refine leW_k ?_
  refine leW_k ?_
  refine leW_k ?_
  refine leW_k ?_
  refine leW_k ?_
  refine leW_k ?_
  refine leW_k ?_
  refine leW_k ?_
  refine leW_k ?_
  refine leW_k ?_
  refine leW_k ?_
  refine leW_k ?_
  refine leW_k ?_
  refine leW_k ?_
  refine leW_k ?_
  refine leW_k ?_
  refine leW_k ?_
  refine leW_k ?_
  refine leW_k ?_
  refine leW_k ?_
  refine leW_k ?_
  refine leW_k ?_
  refine leW_k ?_
  refine leW_k ?_
  refine leW_k ?_
  refine leW_k ?_
  refine leW_k ?_
  refine leW_k ?_
  refine leW_k ?_
  refine leW_k ?_
  refine leW_k ?_
  refine leW_k ?_
  refine leW_k ?_
  refine leW_k ?_
  refine leW_k ?_
  refine leW_k ?_
  refine leW_k ?_
  refine leW_k ?_
  refine leW_k ?_
  refine leW_k ?_
  refine leW_k ?_
  refine leW_k ?_
  refine leW_k ?_
  refine leW_k ?_
  refine leW_k ?_
  refine leW_k ?_
  refine leW_k ?_
  refine leW_k ?_
  refine leW_k ?_
  refine leW_k ?_
  exact leW_0

theorem wx_pf_8_1 {G : va_G} {cx a : Nat → Nat} {σ : Nat → Int → Int} {v : Int} : leW G vwCl ((wx cx a σ).set 8 (a 8, .inr (0, [.ref (a 3), .int (iI v), .int (iI (σ 21 1)), .ref (a 9), .ref (a 10), .ref (a 11), .ref (a 12), .ref (a 13)]))) (wx cx a (st σ 21 0 v)) := by
  refine leW_k ?_
  refine leW_k ?_
  refine leW_k ?_
  refine leW_k ?_
  refine leW_k ?_
  refine leW_k ?_
  refine leW_k ?_
  refine leW_k ?_
  refine leW_o ?_ rfl
  refine leW_k ?_
  refine leW_k ?_
  refine leW_k ?_
  refine leW_k ?_
  refine leW_k ?_
  refine leW_k ?_
  refine leW_k ?_
  refine leW_k ?_
  refine leW_k ?_
  refine leW_k ?_
  refine leW_k ?_
  refine leW_k ?_
  refine leW_k ?_
  refine leW_k ?_
  refine leW_k ?_
  refine leW_k ?_
  refine leW_k ?_
  refine leW_k ?_
  refine leW_k ?_
  refine leW_k ?_
  refine leW_k ?_
  refine leW_k ?_
  refine leW_k ?_
  refine leW_k ?_
  refine leW_k ?_
  refine leW_k ?_
  refine leW_k ?_
  refine leW_k ?_
  refine leW_k ?_
  refine leW_k ?_
  refine leW_k ?_
  refine leW_k ?_
  refine leW_k ?_
  refine leW_k ?_
  refine leW_k ?_
  refine leW_k ?_
  refine leW_k ?_
  refine leW_k ?_
  refine leW_k ?_
  refine leW_k ?_
  refine leW_k ?_
  refine leW_k ?_
  refine leW_k ?_
  refine leW_k ?_
  refine leW_k ?_
  refine leW_k ?_
  refine leW_k ?_
  refine leW_k ?_
  refine leW_k ?_
  refine leW_k ?_
  refine leW_k ?_
  refine leW_k ?_
  refine leW_k ?_
  refine leW_k ?_
  refine leW_k ?_
  refine leW_k ?_
  refine leW_k ?_
  refine leW_k ?_
  refine leW_k ?_
  refine leW_k ?_
  refine leW_k ?_
  exact leW_0

theorem wx_pf_8_2 {G : va_G} {cx a : Nat → Nat} {σ : Nat → Int → Int} {v : Int} : leW G vwCl ((wx cx a σ).set 8 (a 8, .inr (0, [.ref (a 3), .int (iI (σ 21 0)), .int (iI v), .ref (a 9), .ref (a 10), .ref (a 11), .ref (a 12), .ref (a 13)]))) (wx cx a (st σ 21 1 v)) := by
  refine leW_k ?_
  refine leW_k ?_
  refine leW_k ?_
  refine leW_k ?_
  refine leW_k ?_
  refine leW_k ?_
  refine leW_k ?_
  refine leW_k ?_
  refine leW_o ?_ rfl
  refine leW_k ?_
  refine leW_k ?_
  refine leW_k ?_
  refine leW_k ?_
  refine leW_k ?_
  refine leW_k ?_
  refine leW_k ?_
  refine leW_k ?_
  refine leW_k ?_
  refine leW_k ?_
  refine leW_k ?_
  refine leW_k ?_
  refine leW_k ?_
  refine leW_k ?_
  refine leW_k ?_
  refine leW_k ?_
  refine leW_k ?_
  refine leW_k ?_
  refine leW_k ?_
  refine leW_k ?_
  refine leW_k ?_
  refine leW_k ?_
  refine leW_k ?_
  refine leW_k ?_
  refine leW_k ?_
  refine leW_k ?_
  refine leW_k ?_
  refine leW_k ?_
  refine leW_k ?_
  refine leW_k ?_
  refine leW_k ?_
  refine leW_k ?_
  refine leW_k ?_
  refine leW_k ?_
  refine leW_k ?_
  refine leW_k ?_
  refine leW_k ?_
  refine leW_k ?_
  refine leW_k ?_
  refine leW_k ?_
  refine leW_k ?_
  refine leW_k ?_
  refine leW_k ?_
  refine leW_k ?_
  refine leW_k ?_
  refine leW_k ?_
  refine leW_k ?_
  refine leW_k ?_
  refine leW_k ?_
  refine leW_k ?_
  refine leW_k ?_
  refine leW_k ?_
  refine leW_k ?_
  refine leW_k ?_
  refine leW_k ?_
  refine leW_k ?_
  refine leW_k ?_
  refine leW_k ?_
  refine leW_k ?_
  refine leW_k ?_
  refine leW_k ?_
  exact leW_0

theorem wx_up_9 {G : va_G} {cx a : Nat → Nat} {σ : Nat → Int → Int} {i v : Int} (h : 0 ≤ i ∧ i < 33) : leW G vwCl ((wx cx a σ).set 9 (a 9, .inl (cx 0, 33, .inl (aI (ups (σ 14) i v))))) (wx cx a (st σ 14 i v)) := by
  refine leW_k ?_
  refine leW_k ?_
  refine leW_k ?_
  refine leW_k ?_
  refine leW_k ?_
  refine leW_k ?_
  refine leW_k ?_
  refine leW_k ?_
  refine leW_k ?_
  refine leW_k ?_
  refine leW_k ?_
  refine leW_k ?_
  refine leW_k ?_
  refine leW_k ?_
  refine leW_k ?_
  refine leW_k ?_
  refine leW_k ?_
  refine leW_k ?_
  refine leW_k ?_
  refine leW_k ?_
  refine leW_k ?_
  refine leW_k ?_
  refine leW_k ?_
  refine leW_k ?_
  refine leW_k ?_
  refine leW_k ?_
  refine leW_k ?_
  refine leW_k ?_
  refine leW_k ?_
  refine leW_k ?_
  refine leW_k ?_
  refine leW_k ?_
  refine leW_k ?_
  refine leW_k ?_
  refine leW_k ?_
  refine leW_k ?_
  refine leW_k ?_
  refine leW_k ?_
  refine leW_k ?_
  refine leW_k ?_
  refine leW_k ?_
  refine leW_k ?_
  refine leW_k ?_
  refine leW_k ?_
  refine leW_k ?_
  refine leW_k ?_
  refine leW_k ?_
  refine leW_k ?_
  refine leW_k ?_
  refine leW_k ?_
  refine leW_k ?_
  refine leW_k ?_
  refine leW_k ?_
  refine leW_k ?_
  refine leW_k ?_
  refine leW_k ?_
  refine leW_k ?_
  refine leW_k ?_
  refine leW_k ?_
  refine leW_k ?_
  refine leW_k ?_
  refine leW_k ?_
  refine leW_k ?_
  refine leW_k ?_
  refine leW_k ?_
  refine leW_k ?_
  refine leW_k ?_
  refine leW_k ?_
  refine leW_k ?_
  refine leW_k ?_
  exact leW_0

theorem wx_up_10 {G : va_G} {cx a : Nat → Nat} {σ : Nat → Int → Int} {i v : Int} (h : 0 ≤ i ∧ i < 16) : leW G vwCl ((wx cx a σ).set 10 (a 10, .inl (cx 0, 16, .inl (aI (ups (σ 15) i v))))) (wx cx a (st σ 15 i v)) := by
  refine leW_k ?_
  refine leW_k ?_
  refine leW_k ?_
  refine leW_k ?_
  refine leW_k ?_
  refine leW_k ?_
  refine leW_k ?_
  refine leW_k ?_
  refine leW_k ?_
  refine leW_k ?_
  refine leW_k ?_
  refine leW_k ?_
  refine leW_k ?_
  refine leW_k ?_
  refine leW_k ?_
  refine leW_k ?_
  refine leW_k ?_
  refine leW_k ?_
  refine leW_k ?_
  refine leW_k ?_
  refine leW_k ?_
  refine leW_k ?_
  refine leW_k ?_
  refine leW_k ?_
  refine leW_k ?_
  refine leW_k ?_
  refine leW_k ?_
  refine leW_k ?_
  refine leW_k ?_
  refine leW_k ?_
  refine leW_k ?_
  refine leW_k ?_
  refine leW_k ?_
  refine leW_k ?_
  refine leW_k ?_
  refine leW_k ?_
  refine leW_k ?_
  refine leW_k ?_
  refine leW_k ?_
  refine leW_k ?_
  refine leW_k ?_
  refine leW_k ?_
  refine leW_k ?_
  refine leW_k ?_
  refine leW_k ?_
  refine leW_k ?_
  refine leW_k ?_
  refine leW_k ?_
  refine leW_k ?_
  refine leW_k ?_
  refine leW_k ?_
  refine leW_k ?_
  refine leW_k ?_
  refine leW_k ?_
  refine leW_k ?_
  refine leW_k ?_
  refine leW_k ?_
  refine leW_k ?_
  refine leW_k ?_
  refine leW_k ?_
  refine leW_k ?_
  refine leW_k ?_
  refine leW_k ?_
  refine leW_k ?_
  refine leW_k ?_
  refine leW_k ?_
  refine leW_k ?_
  refine leW_k ?_
  refine leW_k ?_
  refine leW_k ?_
  exact leW_0

theorem wx_up_11 {G : va_G} {cx a : Nat → Nat} {σ : Nat → Int → Int} {i v : Int} (h : 0 ≤ i ∧ i < 16) : leW G vwCl ((wx cx a σ).set 11 (a 11, .inl (cx 0, 16, .inl (aI (ups (σ 16) i v))))) (wx cx a (st σ 16 i v)) := by
  refine leW_k ?_
  refine leW_k ?_
  refine leW_k ?_
  refine leW_k ?_
  refine leW_k ?_
  refine leW_k ?_
  refine leW_k ?_
  refine leW_k ?_
  refine leW_k ?_
  refine leW_k ?_
  refine leW_k ?_
  refine leW_k ?_
  refine leW_k ?_
  refine leW_k ?_
  refine leW_k ?_
  refine leW_k ?_
  refine leW_k ?_
  refine leW_k ?_
  refine leW_k ?_
  refine leW_k ?_
  refine leW_k ?_
  refine leW_k ?_
  refine leW_k ?_
  refine leW_k ?_
  refine leW_k ?_
  refine leW_k ?_
  refine leW_k ?_
  refine leW_k ?_
  refine leW_k ?_
  refine leW_k ?_
  refine leW_k ?_
  refine leW_k ?_
  refine leW_k ?_
  refine leW_k ?_
  refine leW_k ?_
  refine leW_k ?_
  refine leW_k ?_
  refine leW_k ?_
  refine leW_k ?_
  refine leW_k ?_
  refine leW_k ?_
  refine leW_k ?_
  refine leW_k ?_
  refine leW_k ?_
  refine leW_k ?_
  refine leW_k ?_
  refine leW_k ?_
  refine leW_k ?_
  refine leW_k ?_
  refine leW_k ?_
  refine leW_k ?_
  refine leW_k ?_
  refine leW_k ?_
  refine leW_k ?_
  refine leW_k ?_
  refine leW_k ?_
  refine leW_k ?_
  refine leW_k ?_
  refine leW_k ?_
  refine leW_k ?_
  refine leW_k ?_
  refine leW_k ?_
  refine leW_k ?_
  refine leW_k ?_
  refine leW_k ?_
  refine leW_k ?_
  refine leW_k ?_
  refine leW_k ?_
  refine leW_k ?_
  refine leW_k ?_
  exact leW_0

theorem wx_up_12 {G : va_G} {cx a : Nat → Nat} {σ : Nat → Int → Int} {i v : Int} (h : 0 ≤ i ∧ i < 561) : leW G vwCl ((wx cx a σ).set 12 (a 12, .inl (cx 0, 561, .inl (aI (ups (σ 17) i v))))) (wx cx a (st σ 17 i v)) := by
  refine leW_k ?_
  refine leW_k ?_
  refine leW_k ?_
  refine leW_k ?_
  refine leW_k ?_
  refine leW_k ?_
  refine leW_k ?_
  refine leW_k ?_
  refine leW_k ?_
  refine leW_k ?_
  refine leW_k ?_
  refine leW_k ?_
  refine leW_k ?_
  refine leW_k ?_
  refine leW_k ?_
  refine leW_k ?_
  refine leW_k ?_
  refine leW_k ?_
  refine leW_k ?_
  refine leW_k ?_
  refine leW_k ?_
  refine leW_k ?_
  refine leW_k ?_
  refine leW_k ?_
  refine leW_k ?_
  refine leW_k ?_
  refine leW_k ?_
  refine leW_k ?_
  refine leW_k ?_
  refine leW_k ?_
  refine leW_k ?_
  refine leW_k ?_
  refine leW_k ?_
  refine leW_k ?_
  refine leW_k ?_
  refine leW_k ?_
  refine leW_k ?_
  refine leW_k ?_
  refine leW_k ?_
  refine leW_k ?_
  refine leW_k ?_
  refine leW_k ?_
  refine leW_k ?_
  refine leW_k ?_
  refine leW_k ?_
  refine leW_k ?_
  refine leW_k ?_
  refine leW_k ?_
  refine leW_k ?_
  refine leW_k ?_
  refine leW_k ?_
  refine leW_k ?_
  refine leW_k ?_
  refine leW_k ?_
  refine leW_k ?_
  refine leW_k ?_
  refine leW_k ?_
  refine leW_k ?_
  refine leW_k ?_
  refine leW_k ?_
  refine leW_k ?_
  refine leW_k ?_
  refine leW_k ?_
  refine leW_k ?_
  refine leW_k ?_
  refine leW_k ?_
  refine leW_k ?_
  refine leW_k ?_
  refine leW_k ?_
  refine leW_k ?_
  exact leW_0

theorem wx_up_13 {G : va_G} {cx a : Nat → Nat} {σ : Nat → Int → Int} {i v : Int} (h : 0 ≤ i ∧ i < 17) : leW G vwCl ((wx cx a σ).set 13 (a 13, .inl (cx 0, 17, .inl (aI (ups (σ 18) i v))))) (wx cx a (st σ 18 i v)) := by
  refine leW_k ?_
  refine leW_k ?_
  refine leW_k ?_
  refine leW_k ?_
  refine leW_k ?_
  refine leW_k ?_
  refine leW_k ?_
  refine leW_k ?_
  refine leW_k ?_
  refine leW_k ?_
  refine leW_k ?_
  refine leW_k ?_
  refine leW_k ?_
  refine leW_k ?_
  refine leW_k ?_
  refine leW_k ?_
  refine leW_k ?_
  refine leW_k ?_
  refine leW_k ?_
  refine leW_k ?_
  refine leW_k ?_
  refine leW_k ?_
  refine leW_k ?_
  refine leW_k ?_
  refine leW_k ?_
  refine leW_k ?_
  refine leW_k ?_
  refine leW_k ?_
  refine leW_k ?_
  refine leW_k ?_
  refine leW_k ?_
  refine leW_k ?_
  refine leW_k ?_
  refine leW_k ?_
  refine leW_k ?_
  refine leW_k ?_
  refine leW_k ?_
  refine leW_k ?_
  refine leW_k ?_
  refine leW_k ?_
  refine leW_k ?_
  refine leW_k ?_
  refine leW_k ?_
  refine leW_k ?_
  refine leW_k ?_
  refine leW_k ?_
  refine leW_k ?_
  refine leW_k ?_
  refine leW_k ?_
  refine leW_k ?_
  refine leW_k ?_
  refine leW_k ?_
  refine leW_k ?_
  refine leW_k ?_
  refine leW_k ?_
  refine leW_k ?_
  refine leW_k ?_
  refine leW_k ?_
  refine leW_k ?_
  refine leW_k ?_
  refine leW_k ?_
  refine leW_k ?_
  refine leW_k ?_
  refine leW_k ?_
  refine leW_k ?_
  refine leW_k ?_
  refine leW_k ?_
  refine leW_k ?_
  refine leW_k ?_
  refine leW_k ?_
  exact leW_0

theorem wx_up_15 {G : va_G} {cx a : Nat → Nat} {σ : Nat → Int → Int} {i v : Int} (h : 0 ≤ i ∧ i < 16) : leW G vwCl ((wx cx a σ).set 15 (a 15, .inl (cx 0, 16, .inl (aI (ups (σ 19) i v))))) (wx cx a (st σ 19 i v)) := by
  refine leW_k ?_
  refine leW_k ?_
  refine leW_k ?_
  refine leW_k ?_
  refine leW_k ?_
  refine leW_k ?_
  refine leW_k ?_
  refine leW_k ?_
  refine leW_k ?_
  refine leW_k ?_
  refine leW_k ?_
  refine leW_k ?_
  refine leW_k ?_
  refine leW_k ?_
  refine leW_k ?_
  refine leW_k ?_
  refine leW_k ?_
  refine leW_k ?_
  refine leW_k ?_
  refine leW_k ?_
  refine leW_k ?_
  refine leW_k ?_
  refine leW_k ?_
  refine leW_k ?_
  refine leW_k ?_
  refine leW_k ?_
  refine leW_k ?_
  refine leW_k ?_
  refine leW_k ?_
  refine leW_k ?_
  refine leW_k ?_
  refine leW_k ?_
  refine leW_k ?_
  refine leW_k ?_
  refine leW_k ?_
  refine leW_k ?_
  refine leW_k ?_
  refine leW_k ?_
  refine leW_k ?_
  refine leW_k ?_
  refine leW_k ?_
  refine leW_k ?_
  refine leW_k ?_
  refine leW_k ?_
  refine leW_k ?_
  refine leW_k ?_
  refine leW_k ?_
  refine leW_k ?_
  refine leW_k ?_
  refine leW_k ?_
  refine leW_k ?_
  refine leW_k ?_
  refine leW_k ?_
  refine leW_k ?_
  refine leW_k ?_
  refine leW_k ?_
  refine leW_k ?_
  refine leW_k ?_
  refine leW_k ?_
  refine leW_k ?_
  refine leW_k ?_
  refine leW_k ?_
  refine leW_k ?_
  refine leW_k ?_
  refine leW_k ?_
  refine leW_k ?_
  refine leW_k ?_
  refine leW_k ?_
  refine leW_k ?_
  refine leW_k ?_
  exact leW_0

theorem wx_up_16 {G : va_G} {cx a : Nat → Nat} {σ : Nat → Int → Int} {i v : Int} (h : 0 ≤ i ∧ i < 16) : leW G vwCl ((wx cx a σ).set 16 (a 16, .inl (cx 1, 16, .inr (.inl (aL (ups (σ 20) i v)))))) (wx cx a (st σ 20 i v)) := by
  refine leW_k ?_
  refine leW_k ?_
  refine leW_k ?_
  refine leW_k ?_
  refine leW_k ?_
  refine leW_k ?_
  refine leW_k ?_
  refine leW_k ?_
  refine leW_k ?_
  refine leW_k ?_
  refine leW_k ?_
  refine leW_k ?_
  refine leW_k ?_
  refine leW_k ?_
  refine leW_k ?_
  refine leW_k ?_
  refine leW_k ?_
  refine leW_k ?_
  refine leW_k ?_
  refine leW_k ?_
  refine leW_k ?_
  refine leW_k ?_
  refine leW_k ?_
  refine leW_k ?_
  refine leW_k ?_
  refine leW_k ?_
  refine leW_k ?_
  refine leW_k ?_
  refine leW_k ?_
  refine leW_k ?_
  refine leW_k ?_
  refine leW_k ?_
  refine leW_k ?_
  refine leW_k ?_
  refine leW_k ?_
  refine leW_k ?_
  refine leW_k ?_
  refine leW_k ?_
  refine leW_k ?_
  refine leW_k ?_
  refine leW_k ?_
  refine leW_k ?_
  refine leW_k ?_
  refine leW_k ?_
  refine leW_k ?_
  refine leW_k ?_
  refine leW_k ?_
  refine leW_k ?_
  refine leW_k ?_
  refine leW_k ?_
  refine leW_k ?_
  refine leW_k ?_
  refine leW_k ?_
  refine leW_k ?_
  refine leW_k ?_
  refine leW_k ?_
  refine leW_k ?_
  refine leW_k ?_
  refine leW_k ?_
  refine leW_k ?_
  refine leW_k ?_
  refine leW_k ?_
  refine leW_k ?_
  refine leW_k ?_
  refine leW_k ?_
  refine leW_k ?_
  refine leW_k ?_
  refine leW_k ?_
  refine leW_k ?_
  refine leW_k ?_
  exact leW_0

theorem wx_pf_17_1 {G : va_G} {cx a : Nat → Nat} {σ : Nat → Int → Int} {v : Int} : leW G vwCl ((wx cx a σ).set 17 (a 17, .inr (1, [.ref (a 18), .int (iI v), .int (iI (σ 12 1))]))) (wx cx a (st σ 12 0 v)) := by
  refine leW_k ?_
  refine leW_k ?_
  refine leW_k ?_
  refine leW_k ?_
  refine leW_k ?_
  refine leW_k ?_
  refine leW_k ?_
  refine leW_k ?_
  refine leW_k ?_
  refine leW_k ?_
  refine leW_k ?_
  refine leW_k ?_
  refine leW_k ?_
  refine leW_k ?_
  refine leW_k ?_
  refine leW_k ?_
  refine leW_k ?_
  refine leW_o ?_ rfl
  refine leW_k ?_
  refine leW_k ?_
  refine leW_k ?_
  refine leW_k ?_
  refine leW_k ?_
  refine leW_k ?_
  refine leW_k ?_
  refine leW_k ?_
  refine leW_k ?_
  refine leW_k ?_
  refine leW_k ?_
  refine leW_k ?_
  refine leW_k ?_
  refine leW_k ?_
  refine leW_k ?_
  refine leW_k ?_
  refine leW_k ?_
  refine leW_k ?_
  refine leW_k ?_
  refine leW_k ?_
  refine leW_k ?_
  refine leW_k ?_
  refine leW_k ?_
  refine leW_k ?_
  refine leW_k ?_
  refine leW_k ?_
  refine leW_k ?_
  refine leW_k ?_
  refine leW_k ?_
  refine leW_k ?_
  refine leW_k ?_
  refine leW_k ?_
  refine leW_k ?_
  refine leW_k ?_
  refine leW_k ?_
  refine leW_k ?_
  refine leW_k ?_
  refine leW_k ?_
  refine leW_k ?_
  refine leW_k ?_
  refine leW_k ?_
  refine leW_k ?_
  refine leW_k ?_
  refine leW_k ?_
  refine leW_k ?_
  refine leW_k ?_
  refine leW_k ?_
  refine leW_k ?_
  refine leW_k ?_
  refine leW_k ?_
  refine leW_k ?_
  refine leW_k ?_
  exact leW_0

theorem wx_pf_17_2 {G : va_G} {cx a : Nat → Nat} {σ : Nat → Int → Int} {v : Int} : leW G vwCl ((wx cx a σ).set 17 (a 17, .inr (1, [.ref (a 18), .int (iI (σ 12 0)), .int (iI v)]))) (wx cx a (st σ 12 1 v)) := by
  refine leW_k ?_
  refine leW_k ?_
  refine leW_k ?_
  refine leW_k ?_
  refine leW_k ?_
  refine leW_k ?_
  refine leW_k ?_
  refine leW_k ?_
  refine leW_k ?_
  refine leW_k ?_
  refine leW_k ?_
  refine leW_k ?_
  refine leW_k ?_
  refine leW_k ?_
  refine leW_k ?_
  refine leW_k ?_
  refine leW_k ?_
  refine leW_o ?_ rfl
  refine leW_k ?_
  refine leW_k ?_
  refine leW_k ?_
  refine leW_k ?_
  refine leW_k ?_
  refine leW_k ?_
  refine leW_k ?_
  refine leW_k ?_
  refine leW_k ?_
  refine leW_k ?_
  refine leW_k ?_
  refine leW_k ?_
  refine leW_k ?_
  refine leW_k ?_
  refine leW_k ?_
  refine leW_k ?_
  refine leW_k ?_
  refine leW_k ?_
  refine leW_k ?_
  refine leW_k ?_
  refine leW_k ?_
  refine leW_k ?_
  refine leW_k ?_
  refine leW_k ?_
  refine leW_k ?_
  refine leW_k ?_
  refine leW_k ?_
  refine leW_k ?_
  refine leW_k ?_
  refine leW_k ?_
  refine leW_k ?_
  refine leW_k ?_
  refine leW_k ?_
  refine leW_k ?_
  refine leW_k ?_
  refine leW_k ?_
  refine leW_k ?_
  refine leW_k ?_
  refine leW_k ?_
  refine leW_k ?_
  refine leW_k ?_
  refine leW_k ?_
  refine leW_k ?_
  refine leW_k ?_
  refine leW_k ?_
  refine leW_k ?_
  refine leW_k ?_
  refine leW_k ?_
  refine leW_k ?_
  refine leW_k ?_
  refine leW_k ?_
  refine leW_k ?_
  exact leW_0
