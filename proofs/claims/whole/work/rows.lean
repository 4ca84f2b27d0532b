section
-- ===== PART A: goes FIRST, ahead of the names: the tables' words, and 'selects' of the private methods out of them =====
/-- a private method of a class that the tables say can be made, by its rows of tables_1 -/
def lw_okq (q : MethodName × Nat) : Prop := (q.1.cls ≠ "java/lang/invoke/MethodHandle" ∧ q.1.cls ≠ "java/lang/invoke/VarHandle") ∧ Cond.instantiable q.1.cls q.2 ∈ tables_1 ∧ Cond.privateMethod q.1 ∈ tables_1 ∧ Cond.instanceMethod q.1 ∈ tables_1
theorem lw_p0 : lw_okq (⟨"LoopSlicer", "isMovable", "(I)Z"⟩, 7) := ⟨⟨by decide +kernel, by decide +kernel⟩, List.mem_of_getElem? (i := 10) (by decide +kernel), List.mem_of_getElem? (i := 235) (by decide +kernel), List.mem_of_getElem? (i := 236) (by decide +kernel)⟩
theorem lw_p1 : lw_okq (⟨"LoopSlicer$Result", "shareFreely", "()V"⟩, 4) := ⟨⟨by decide +kernel, by decide +kernel⟩, List.mem_of_getElem? (i := 100) (by decide +kernel), List.mem_of_getElem? (i := 283) (by decide +kernel), List.mem_of_getElem? (i := 284) (by decide +kernel)⟩
theorem lw_p2 : lw_okq (⟨"LoopSlicer$Result", "giveOne", "()V"⟩, 4) := ⟨⟨by decide +kernel, by decide +kernel⟩, List.mem_of_getElem? (i := 100) (by decide +kernel), List.mem_of_getElem? (i := 292) (by decide +kernel), List.mem_of_getElem? (i := 293) (by decide +kernel)⟩
theorem lw_p3 : lw_okq (⟨"LoopSlicer$Grid", "measure", "()V"⟩, 8) := ⟨⟨by decide +kernel, by decide +kernel⟩, List.mem_of_getElem? (i := 68) (by decide +kernel), List.mem_of_getElem? (i := 305) (by decide +kernel), List.mem_of_getElem? (i := 306) (by decide +kernel)⟩
theorem lw_p4 : lw_okq (⟨"LoopSlicer$Grid", "fillSums", "(I)Z"⟩, 8) := ⟨⟨by decide +kernel, by decide +kernel⟩, List.mem_of_getElem? (i := 68) (by decide +kernel), List.mem_of_getElem? (i := 318) (by decide +kernel), List.mem_of_getElem? (i := 319) (by decide +kernel)⟩
theorem lw_p5 : lw_okq (⟨"LoopSlicer$Grid", "lastStepOf", "(I)I"⟩, 8) := ⟨⟨by decide +kernel, by decide +kernel⟩, List.mem_of_getElem? (i := 68) (by decide +kernel), List.mem_of_getElem? (i := 322) (by decide +kernel), List.mem_of_getElem? (i := 323) (by decide +kernel)⟩
theorem lw_p6 : lw_okq (⟨"LoopSlicer$Grid", "firstStepOf", "(I)I"⟩, 8) := ⟨⟨by decide +kernel, by decide +kernel⟩, List.mem_of_getElem? (i := 68) (by decide +kernel), List.mem_of_getElem? (i := 326) (by decide +kernel), List.mem_of_getElem? (i := 327) (by decide +kernel)⟩
theorem lw_p7 : lw_okq (⟨"LoopSlicer$Grid", "bestNext", "(II)I"⟩, 8) := ⟨⟨by decide +kernel, by decide +kernel⟩, List.mem_of_getElem? (i := 68) (by decide +kernel), List.mem_of_getElem? (i := 330) (by decide +kernel), List.mem_of_getElem? (i := 331) (by decide +kernel)⟩
theorem lw_p8 : lw_okq (⟨"LoopSlicer$Grid", "distance", "(II)I"⟩, 8) := ⟨⟨by decide +kernel, by decide +kernel⟩, List.mem_of_getElem? (i := 68) (by decide +kernel), List.mem_of_getElem? (i := 337) (by decide +kernel), List.mem_of_getElem? (i := 338) (by decide +kernel)⟩
theorem lw_p9 : lw_okq (⟨"LoopSlicer$Result", "loopSample", "(II)I"⟩, 4) := ⟨⟨by decide +kernel, by decide +kernel⟩, List.mem_of_getElem? (i := 100) (by decide +kernel), List.mem_of_getElem? (i := 405) (by decide +kernel), List.mem_of_getElem? (i := 406) (by decide +kernel)⟩
theorem lw_p10 : lw_okq (⟨"LoopSlicerModel", "layLoop", "(I)V"⟩, 11) := ⟨⟨by decide +kernel, by decide +kernel⟩, List.mem_of_getElem? (i := 453) (by decide +kernel), List.mem_of_getElem? (i := 459) (by decide +kernel), List.mem_of_getElem? (i := 460) (by decide +kernel)⟩
theorem lw_p11 : lw_okq (⟨"LoopSlicerModel", "layOrder", "()V"⟩, 11) := ⟨⟨by decide +kernel, by decide +kernel⟩, List.mem_of_getElem? (i := 453) (by decide +kernel), List.mem_of_getElem? (i := 463) (by decide +kernel), List.mem_of_getElem? (i := 464) (by decide +kernel)⟩
theorem lw_p12 : lw_okq (⟨"LoopSlicerModel", "remember", "()V"⟩, 11) := ⟨⟨by decide +kernel, by decide +kernel⟩, List.mem_of_getElem? (i := 453) (by decide +kernel), List.mem_of_getElem? (i := 508) (by decide +kernel), List.mem_of_getElem? (i := 509) (by decide +kernel)⟩
theorem lw_p13 : lw_okq (⟨"LoopSlicerModel", "isFrame", "(I)Z"⟩, 11) := ⟨⟨by decide +kernel, by decide +kernel⟩, List.mem_of_getElem? (i := 453) (by decide +kernel), List.mem_of_getElem? (i := 516) (by decide +kernel), List.mem_of_getElem? (i := 517) (by decide +kernel)⟩
theorem lw_p14 : lw_okq (⟨"LoopSlicerModel", "findBy", "(I)I"⟩, 11) := ⟨⟨by decide +kernel, by decide +kernel⟩, List.mem_of_getElem? (i := 453) (by decide +kernel), List.mem_of_getElem? (i := 532) (by decide +kernel), List.mem_of_getElem? (i := 533) (by decide +kernel)⟩
theorem lw_p15 : lw_okq (⟨"LoopSlicerModel", "isFurther", "(I)Z"⟩, 11) := ⟨⟨by decide +kernel, by decide +kernel⟩, List.mem_of_getElem? (i := 453) (by decide +kernel), List.mem_of_getElem? (i := 544) (by decide +kernel), List.mem_of_getElem? (i := 545) (by decide +kernel)⟩
def lw_privs_1 : List (MethodName × Nat) := [(⟨"LoopSlicer", "isMovable", "(I)Z"⟩, 7), (⟨"LoopSlicer$Result", "shareFreely", "()V"⟩, 4), (⟨"LoopSlicer$Result", "giveOne", "()V"⟩, 4), (⟨"LoopSlicer$Grid", "measure", "()V"⟩, 8), (⟨"LoopSlicer$Grid", "fillSums", "(I)Z"⟩, 8), (⟨"LoopSlicer$Grid", "lastStepOf", "(I)I"⟩, 8), (⟨"LoopSlicer$Grid", "firstStepOf", "(I)I"⟩, 8), (⟨"LoopSlicer$Grid", "bestNext", "(II)I"⟩, 8), (⟨"LoopSlicer$Grid", "distance", "(II)I"⟩, 8), (⟨"LoopSlicer$Result", "loopSample", "(II)I"⟩, 4), (⟨"LoopSlicerModel", "layLoop", "(I)V"⟩, 11), (⟨"LoopSlicerModel", "layOrder", "()V"⟩, 11), (⟨"LoopSlicerModel", "remember", "()V"⟩, 11), (⟨"LoopSlicerModel", "isFrame", "(I)Z"⟩, 11), (⟨"LoopSlicerModel", "findBy", "(I)I"⟩, 11), (⟨"LoopSlicerModel", "isFurther", "(I)Z"⟩, 11)]
theorem lw_r1 : ∀ q ∈ lw_privs_1, lw_okq q := List.forall_mem_cons.mpr ⟨lw_p0, List.forall_mem_cons.mpr ⟨lw_p1, List.forall_mem_cons.mpr ⟨lw_p2, List.forall_mem_cons.mpr ⟨lw_p3, List.forall_mem_cons.mpr ⟨lw_p4, List.forall_mem_cons.mpr ⟨lw_p5, List.forall_mem_cons.mpr ⟨lw_p6, List.forall_mem_cons.mpr ⟨lw_p7, List.forall_mem_cons.mpr ⟨lw_p8, List.forall_mem_cons.mpr ⟨lw_p9, List.forall_mem_cons.mpr ⟨lw_p10, List.forall_mem_cons.mpr ⟨lw_p11, List.forall_mem_cons.mpr ⟨lw_p12, List.forall_mem_cons.mpr ⟨lw_p13, List.forall_mem_cons.mpr ⟨lw_p14, List.forall_mem_cons.mpr ⟨lw_p15, fun _ h => absurd h List.not_mem_nil⟩⟩⟩⟩⟩⟩⟩⟩⟩⟩⟩⟩⟩⟩⟩⟩
theorem lw_p16 : lw_okq (⟨"LoopSlicerModel", "frameOf", "(I)I"⟩, 11) := ⟨⟨by decide +kernel, by decide +kernel⟩, List.mem_of_getElem? (i := 453) (by decide +kernel), List.mem_of_getElem? (i := 552) (by decide +kernel), List.mem_of_getElem? (i := 553) (by decide +kernel)⟩
theorem lw_p17 : lw_okq (⟨"LoopSlicerModel", "isSlice", "(I)Z"⟩, 11) := ⟨⟨by decide +kernel, by decide +kernel⟩, List.mem_of_getElem? (i := 453) (by decide +kernel), List.mem_of_getElem? (i := 560) (by decide +kernel), List.mem_of_getElem? (i := 561) (by decide +kernel)⟩
theorem lw_p18 : lw_okq (⟨"LoopSlicerModel", "whole", "()I"⟩, 11) := ⟨⟨by decide +kernel, by decide +kernel⟩, List.mem_of_getElem? (i := 453) (by decide +kernel), List.mem_of_getElem? (i := 576) (by decide +kernel), List.mem_of_getElem? (i := 577) (by decide +kernel)⟩
theorem lw_p19 : lw_okq (⟨"LoopSlicerModel", "isLaid", "()Z"⟩, 11) := ⟨⟨by decide +kernel, by decide +kernel⟩, List.mem_of_getElem? (i := 453) (by decide +kernel), List.mem_of_getElem? (i := 580) (by decide +kernel), List.mem_of_getElem? (i := 581) (by decide +kernel)⟩
theorem lw_p20 : lw_okq (⟨"LoopSlicerModel", "layGrid", "(II)Z"⟩, 11) := ⟨⟨by decide +kernel, by decide +kernel⟩, List.mem_of_getElem? (i := 453) (by decide +kernel), List.mem_of_getElem? (i := 584) (by decide +kernel), List.mem_of_getElem? (i := 585) (by decide +kernel)⟩
theorem lw_p21 : lw_okq (⟨"LoopSlicerModel", "bestFrom", "(IIII)J"⟩, 11) := ⟨⟨by decide +kernel, by decide +kernel⟩, List.mem_of_getElem? (i := 453) (by decide +kernel), List.mem_of_getElem? (i := 589) (by decide +kernel), List.mem_of_getElem? (i := 590) (by decide +kernel)⟩
theorem lw_p22 : lw_okq (⟨"LoopSlicerModel", "fits", "(II)Z"⟩, 11) := ⟨⟨by decide +kernel, by decide +kernel⟩, List.mem_of_getElem? (i := 453) (by decide +kernel), List.mem_of_getElem? (i := 596) (by decide +kernel), List.mem_of_getElem? (i := 597) (by decide +kernel)⟩
theorem lw_p23 : lw_okq (⟨"LoopSlicerModel", "lengthOf", "(I)I"⟩, 11) := ⟨⟨by decide +kernel, by decide +kernel⟩, List.mem_of_getElem? (i := 453) (by decide +kernel), List.mem_of_getElem? (i := 600) (by decide +kernel), List.mem_of_getElem? (i := 601) (by decide +kernel)⟩
theorem lw_p24 : lw_okq (⟨"LoopSlicerModel", "off", "(IIII)J"⟩, 11) := ⟨⟨by decide +kernel, by decide +kernel⟩, List.mem_of_getElem? (i := 453) (by decide +kernel), List.mem_of_getElem? (i := 605) (by decide +kernel), List.mem_of_getElem? (i := 606) (by decide +kernel)⟩
theorem lw_p25 : lw_okq (⟨"LoopSlicerModel", "layFree", "()V"⟩, 11) := ⟨⟨by decide +kernel, by decide +kernel⟩, List.mem_of_getElem? (i := 453) (by decide +kernel), List.mem_of_getElem? (i := 609) (by decide +kernel), List.mem_of_getElem? (i := 610) (by decide +kernel)⟩
theorem lw_p26 : lw_okq (⟨"LoopSlicerModel", "remainder", "(I)J"⟩, 11) := ⟨⟨by decide +kernel, by decide +kernel⟩, List.mem_of_getElem? (i := 453) (by decide +kernel), List.mem_of_getElem? (i := 613) (by decide +kernel), List.mem_of_getElem? (i := 614) (by decide +kernel)⟩
theorem lw_p27 : lw_okq (⟨"LoopSlicerModel", "beyond", "()I"⟩, 11) := ⟨⟨by decide +kernel, by decide +kernel⟩, List.mem_of_getElem? (i := 453) (by decide +kernel), List.mem_of_getElem? (i := 617) (by decide +kernel), List.mem_of_getElem? (i := 618) (by decide +kernel)⟩
theorem lw_p28 : lw_okq (⟨"LoopSlicerModel", "fades", "()I"⟩, 11) := ⟨⟨by decide +kernel, by decide +kernel⟩, List.mem_of_getElem? (i := 453) (by decide +kernel), List.mem_of_getElem? (i := 621) (by decide +kernel), List.mem_of_getElem? (i := 622) (by decide +kernel)⟩
theorem lw_p29 : lw_okq (⟨"LoopSlicerModel", "fadeOf", "(I)I"⟩, 11) := ⟨⟨by decide +kernel, by decide +kernel⟩, List.mem_of_getElem? (i := 453) (by decide +kernel), List.mem_of_getElem? (i := 625) (by decide +kernel), List.mem_of_getElem? (i := 626) (by decide +kernel)⟩
theorem lw_p30 : lw_okq (⟨"LoopSlicerModel", "placeOf", "(I)I"⟩, 11) := ⟨⟨by decide +kernel, by decide +kernel⟩, List.mem_of_getElem? (i := 453) (by decide +kernel), List.mem_of_getElem? (i := 629) (by decide +kernel), List.mem_of_getElem? (i := 630) (by decide +kernel)⟩
theorem lw_p31 : lw_okq (⟨"LoopSlicerModel", "loudest", "(I)I"⟩, 11) := ⟨⟨by decide +kernel, by decide +kernel⟩, List.mem_of_getElem? (i := 453) (by decide +kernel), List.mem_of_getElem? (i := 645) (by decide +kernel), List.mem_of_getElem? (i := 646) (by decide +kernel)⟩
def lw_privs_2 : List (MethodName × Nat) := [(⟨"LoopSlicerModel", "frameOf", "(I)I"⟩, 11), (⟨"LoopSlicerModel", "isSlice", "(I)Z"⟩, 11), (⟨"LoopSlicerModel", "whole", "()I"⟩, 11), (⟨"LoopSlicerModel", "isLaid", "()Z"⟩, 11), (⟨"LoopSlicerModel", "layGrid", "(II)Z"⟩, 11), (⟨"LoopSlicerModel", "bestFrom", "(IIII)J"⟩, 11), (⟨"LoopSlicerModel", "fits", "(II)Z"⟩, 11), (⟨"LoopSlicerModel", "lengthOf", "(I)I"⟩, 11), (⟨"LoopSlicerModel", "off", "(IIII)J"⟩, 11), (⟨"LoopSlicerModel", "layFree", "()V"⟩, 11), (⟨"LoopSlicerModel", "remainder", "(I)J"⟩, 11), (⟨"LoopSlicerModel", "beyond", "()I"⟩, 11), (⟨"LoopSlicerModel", "fades", "()I"⟩, 11), (⟨"LoopSlicerModel", "fadeOf", "(I)I"⟩, 11), (⟨"LoopSlicerModel", "placeOf", "(I)I"⟩, 11), (⟨"LoopSlicerModel", "loudest", "(I)I"⟩, 11)]
theorem lw_r2 : ∀ q ∈ lw_privs_2, lw_okq q := List.forall_mem_cons.mpr ⟨lw_p16, List.forall_mem_cons.mpr ⟨lw_p17, List.forall_mem_cons.mpr ⟨lw_p18, List.forall_mem_cons.mpr ⟨lw_p19, List.forall_mem_cons.mpr ⟨lw_p20, List.forall_mem_cons.mpr ⟨lw_p21, List.forall_mem_cons.mpr ⟨lw_p22, List.forall_mem_cons.mpr ⟨lw_p23, List.forall_mem_cons.mpr ⟨lw_p24, List.forall_mem_cons.mpr ⟨lw_p25, List.forall_mem_cons.mpr ⟨lw_p26, List.forall_mem_cons.mpr ⟨lw_p27, List.forall_mem_cons.mpr ⟨lw_p28, List.forall_mem_cons.mpr ⟨lw_p29, List.forall_mem_cons.mpr ⟨lw_p30, List.forall_mem_cons.mpr ⟨lw_p31, fun _ h => absurd h List.not_mem_nil⟩⟩⟩⟩⟩⟩⟩⟩⟩⟩⟩⟩⟩⟩⟩⟩
theorem lw_p32 : lw_okq (⟨"LoopSlicerModel", "beginOf", "(I)I"⟩, 11) := ⟨⟨by decide +kernel, by decide +kernel⟩, List.mem_of_getElem? (i := 453) (by decide +kernel), List.mem_of_getElem? (i := 649) (by decide +kernel), List.mem_of_getElem? (i := 650) (by decide +kernel)⟩
theorem lw_p33 : lw_okq (⟨"LoopSlicerModel", "canBe", "(I)Z"⟩, 11) := ⟨⟨by decide +kernel, by decide +kernel⟩, List.mem_of_getElem? (i := 453) (by decide +kernel), List.mem_of_getElem? (i := 679) (by decide +kernel), List.mem_of_getElem? (i := 680) (by decide +kernel)⟩
def lw_privs_3 : List (MethodName × Nat) := [(⟨"LoopSlicerModel", "beginOf", "(I)I"⟩, 11), (⟨"LoopSlicerModel", "canBe", "(I)Z"⟩, 11)]
theorem lw_r3 : ∀ q ∈ lw_privs_3, lw_okq q := List.forall_mem_cons.mpr ⟨lw_p32, List.forall_mem_cons.mpr ⟨lw_p33, fun _ h => absurd h List.not_mem_nil⟩⟩
def lw_privs : List (MethodName × Nat) := lw_privs_1 ++ (lw_privs_2 ++ (lw_privs_3))
def lw_tbl : List Cond := k2_sels lw_privs ++ tables_1
theorem lw_privs_ok : ∀ q ∈ lw_privs, lw_okq q := by
  show ∀ q ∈ lw_privs_1 ++ (lw_privs_2 ++ (lw_privs_3)), lw_okq q
  exact List.forall_mem_append.mpr ⟨lw_r1, List.forall_mem_append.mpr ⟨lw_r2, lw_r3⟩⟩
/-- the streams that the claim lets the run draw from -/
abbrev lw_cs : List Choice := [Jvm.Choice.named "NaN.bits"]
theorem lw_bits : nanBits ∈ lw_cs := by first | decide | exact List.mem_cons_self | simp [lw_cs, nanBits]
-- ===== end of PART A; then your names; then what follows =====
end
section
/-! ===== BEGIN words of one list among another's, by their places ===== -/
theorem goodIn_r {big : List Cond} (ws : List Cond) (ps : List Nat) (hp : ws = ps.filterMap (fun i => big[i]?)) (h : ws.all goodWord = true) : GoodIn big ws := by
  intro w hw
  have h1 := List.all_eq_true.mp h w hw
  rw [hp] at hw
  obtain ⟨i, -, hi⟩ := List.mem_filterMap.mp hw
  have hm : w ∈ big := by first | exact List.mem_of_getElem? hi | exact List.getElem?_mem hi
  exact ⟨hm, good_of_word h1⟩
theorem goodIn_app {big a b : List Cond} (ha : GoodIn big a) (hb : GoodIn big b) : GoodIn big (a ++ b) := fun w h => (List.mem_append.mp h).elim (ha w) (hb w)
theorem goodIn_ca {big a b : List Cond} {c : Cond} (ha : GoodIn big (c :: a)) (hb : GoodIn big b) : GoodIn big (c :: (a ++ b)) := fun w h => (List.mem_cons.mp h).elim (fun e => ha w (List.mem_cons.mpr (Or.inl e))) (fun h => (List.mem_append.mp h).elim (fun h => ha w (List.mem_cons.mpr (Or.inr h))) (hb w))
theorem goodIn_sub {big ws : List Cond} (hm : ∀ w ∈ ws, w ∈ big) (h : ws.all goodWord = true) : GoodIn big ws := fun w hw => ⟨hm w hw, good_of_word (List.all_eq_true.mp h w hw)⟩
/-! ===== END ===== -/

/-! ===== BEGIN printed: names, fields, word lists, decode rows ===== -/
def RX0 : String := "LoopSlicer$Grid"
def TX0 : u_T := fun k => match k with
  | 0 => ("LoopSlicer$Grid", "loop", "LLoopSlicer$Loop;", true)
  | 1 => ("LoopSlicer$Grid", "target", "I", false)
  | 2 => ("LoopSlicer$Grid", "lastStep", "I", false)
  | 3 => ("LoopSlicer$Grid", "positions", "[I", true)
  | 4 => ("LoopSlicer$Grid", "least", "[I", true)
  | 5 => ("LoopSlicer$Grid", "most", "[I", true)
  | 6 => ("LoopSlicer$Grid", "sums", "[I", true)
  | _ => ("LoopSlicer$Grid", "steps", "[I", true)
def tyX0 : Nat → FieldType := fun k => match k with
  | 0 => .object "LoopSlicer$Loop"
  | 1 => .int
  | 2 => .int
  | 3 => .array .int
  | 4 => .array .int
  | 5 => .array .int
  | 6 => .array .int
  | _ => .array .int
abbrev wsX00 : List Cond := u_ws RX0 TX0 8
theorem nmX0 : ∀ a, a < 8 → ∀ b, b < 8 → a ≠ b → (TX0 a).2.1 ≠ (TX0 b).2.1 := by decide +kernel
theorem tyX0_ok : ∀ k, k < 8 → parseFieldDescriptor (TX0 k).2.2.1 = some (tyX0 k) := by decide +kernel
abbrev cX0_init : ByteArray := prog_2_method_1_code
def yX0_init : MethodName := ⟨RX0, "<init>", "(LLoopSlicer$Loop;)V"⟩
abbrev cX0_canLay : ByteArray := prog_2_method_2_code
def yX0_canLay : MethodName := ⟨RX0, "canLay", "(II)Z"⟩
abbrev cX0_leastSum : ByteArray := prog_2_method_3_code
def yX0_leastSum : MethodName := ⟨RX0, "leastSum", "(II)I"⟩
abbrev cX0_draw : ByteArray := prog_2_method_4_code
def yX0_draw : MethodName := ⟨RX0, "draw", "()Z"⟩
abbrev cX0_budgetOf : ByteArray := prog_2_method_5_code
def yX0_budgetOf : MethodName := ⟨RX0, "budgetOf", "(I)I"⟩
abbrev cX0_measure : ByteArray := prog_2_method_6_code
def yX0_measure : MethodName := ⟨RX0, "measure", "()V"⟩
abbrev cX0_fillSums : ByteArray := prog_2_method_7_code
def yX0_fillSums : MethodName := ⟨RX0, "fillSums", "(I)Z"⟩
abbrev cX0_bestNext : ByteArray := prog_2_method_8_code
def yX0_bestNext : MethodName := ⟨RX0, "bestNext", "(II)I"⟩
abbrev cX0_firstStepOf : ByteArray := prog_2_method_9_code
def yX0_firstStepOf : MethodName := ⟨RX0, "firstStepOf", "(I)I"⟩
abbrev cX0_lastStepOf : ByteArray := prog_2_method_10_code
def yX0_lastStepOf : MethodName := ⟨RX0, "lastStepOf", "(I)I"⟩
abbrev cX0_distance : ByteArray := prog_2_method_11_code
def yX0_distance : MethodName := ⟨RX0, "distance", "(II)I"⟩
def RX1 : String := "LoopSlicer$History"
def TX1 : u_T := fun k => match k with
  | 0 => ("LoopSlicer$History", "states", "[LLoopSlicer$Loop;", true)
  | 1 => ("LoopSlicer$History", "newest", "I", false)
  | _ => ("LoopSlicer$History", "size", "I", false)
def tyX1 : Nat → FieldType := fun k => match k with
  | 0 => .array (.object "LoopSlicer$Loop")
  | 1 => .int
  | _ => .int
abbrev wsX10 : List Cond := u_ws RX1 TX1 3
theorem nmX1 : ∀ a, a < 3 → ∀ b, b < 3 → a ≠ b → (TX1 a).2.1 ≠ (TX1 b).2.1 := by decide +kernel
theorem tyX1_ok : ∀ k, k < 3 → parseFieldDescriptor (TX1 k).2.2.1 = some (tyX1 k) := by decide +kernel
abbrev cX1_init : ByteArray := prog_3_method_1_code
def yX1_init : MethodName := ⟨RX1, "<init>", "()V"⟩
abbrev cX1_push : ByteArray := prog_3_method_2_code
def yX1_push : MethodName := ⟨RX1, "push", "(LLoopSlicer$Loop;)V"⟩
abbrev cX1_pop : ByteArray := prog_3_method_3_code
def yX1_pop : MethodName := ⟨RX1, "pop", "(LLoopSlicer$Loop;)V"⟩
def RX2 : String := "LoopSlicer$Loop"
def TX2 : u_T := fun k => match k with
  | 0 => ("LoopSlicer$Loop", "frames", "I", false)
  | 1 => ("LoopSlicer$Loop", "markCount", "I", false)
  | 2 => ("LoopSlicer$Loop", "energies", "[I", true)
  | 3 => ("LoopSlicer$Loop", "settings", "[I", true)
  | 4 => ("LoopSlicer$Loop", "marks", "[I", true)
  | _ => ("LoopSlicer$Loop", "sequence", "[I", true)
def tyX2 : Nat → FieldType := fun k => match k with
  | 0 => .int
  | 1 => .int
  | 2 => .array .int
  | 3 => .array .int
  | 4 => .array .int
  | _ => .array .int
abbrev wsX20 : List Cond := u_ws RX2 TX2 6
theorem nmX2 : ∀ a, a < 6 → ∀ b, b < 6 → a ≠ b → (TX2 a).2.1 ≠ (TX2 b).2.1 := by decide +kernel
theorem tyX2_ok : ∀ k, k < 6 → parseFieldDescriptor (TX2 k).2.2.1 = some (tyX2 k) := by decide +kernel
abbrev cX2_init : ByteArray := prog_4_method_1_code
def yX2_init : MethodName := ⟨RX2, "<init>", "()V"⟩
abbrev cX2_copy : ByteArray := prog_4_method_2_code
def yX2_copy : MethodName := ⟨RX2, "copy", "(LLoopSlicer$Loop;)V"⟩
abbrev cX2_clear : ByteArray := prog_4_method_3_code
def yX2_clear : MethodName := ⟨RX2, "clear", "(I)V"⟩
abbrev cX2_resetSequence : ByteArray := prog_4_method_4_code
def yX2_resetSequence : MethodName := ⟨RX2, "resetSequence", "()V"⟩
abbrev cX2_isFrame : ByteArray := prog_4_method_5_code
def yX2_isFrame : MethodName := ⟨RX2, "isFrame", "(I)Z"⟩
abbrev cX2_isSlice : ByteArray := prog_4_method_6_code
def yX2_isSlice : MethodName := ⟨RX2, "isSlice", "(I)Z"⟩
abbrev cX2_isFree : ByteArray := prog_4_method_7_code
def yX2_isFree : MethodName := ⟨RX2, "isFree", "()Z"⟩
abbrev cX2_endFrame : ByteArray := prog_4_method_8_code
def yX2_endFrame : MethodName := ⟨RX2, "endFrame", "(I)I"⟩
abbrev cX2_lengthOf : ByteArray := prog_4_method_9_code
def yX2_lengthOf : MethodName := ⟨RX2, "lengthOf", "(I)I"⟩
abbrev cX2_leastBudget : ByteArray := prog_4_method_10_code
def yX2_leastBudget : MethodName := ⟨RX2, "leastBudget", "(I)I"⟩
abbrev cX2_mostBudget : ByteArray := prog_4_method_11_code
def yX2_mostBudget : MethodName := ⟨RX2, "mostBudget", "(I)I"⟩
abbrev cX2_loudestFrame : ByteArray := prog_4_method_12_code
def yX2_loudestFrame : MethodName := ⟨RX2, "loudestFrame", "(I)I"⟩
abbrev cX2_placeOf : ByteArray := prog_4_method_13_code
def yX2_placeOf : MethodName := ⟨RX2, "placeOf", "(I)I"⟩
abbrev cX2_exchange : ByteArray := prog_4_method_14_code
def yX2_exchange : MethodName := ⟨RX2, "exchange", "(II)V"⟩
abbrev cX2_marksBefore : ByteArray := prog_4_method_15_code
def yX2_marksBefore : MethodName := ⟨RX2, "marksBefore", "(I)I"⟩
abbrev cX2_insertMark : ByteArray := prog_4_method_16_code
def yX2_insertMark : MethodName := ⟨RX2, "insertMark", "(II)V"⟩
abbrev cX2_removeMark : ByteArray := prog_4_method_17_code
def yX2_removeMark : MethodName := ⟨RX2, "removeMark", "(I)V"⟩
abbrev cX2_findRises : ByteArray := prog_4_method_18_code
def yX2_findRises : MethodName := ⟨RX2, "findRises", "(I[I)I"⟩
def RX3 : String := "LoopSlicer$Result"
def TX3 : u_T := fun k => match k with
  | 0 => ("LoopSlicer$Result", "loop", "LLoopSlicer$Loop;", true)
  | 1 => ("LoopSlicer$Result", "grid", "LLoopSlicer$Grid;", true)
  | 2 => ("LoopSlicer$Result", "budgets", "[I", true)
  | _ => ("LoopSlicer$Result", "remainders", "[J", true)
def tyX3 : Nat → FieldType := fun k => match k with
  | 0 => .object "LoopSlicer$Loop"
  | 1 => .object "LoopSlicer$Grid"
  | 2 => .array .int
  | _ => .array .long
abbrev wsX30 : List Cond := u_ws RX3 TX3 4
theorem nmX3 : ∀ a, a < 4 → ∀ b, b < 4 → a ≠ b → (TX3 a).2.1 ≠ (TX3 b).2.1 := by decide +kernel
theorem tyX3_ok : ∀ k, k < 4 → parseFieldDescriptor (TX3 k).2.2.1 = some (tyX3 k) := by decide +kernel
abbrev cX3_init : ByteArray := prog_5_method_1_code
def yX3_init : MethodName := ⟨RX3, "<init>", "(LLoopSlicer$Loop;LLoopSlicer$Grid;)V"⟩
abbrev cX3_lay : ByteArray := prog_5_method_2_code
def yX3_lay : MethodName := ⟨RX3, "lay", "()Z"⟩
abbrev cX3_shareFreely : ByteArray := prog_5_method_3_code
def yX3_shareFreely : MethodName := ⟨RX3, "shareFreely", "()V"⟩
abbrev cX3_giveOne : ByteArray := prog_5_method_4_code
def yX3_giveOne : MethodName := ⟨RX3, "giveOne", "()V"⟩
abbrev cX3_countBeyondLimits : ByteArray := prog_5_method_5_code
def yX3_countBeyondLimits : MethodName := ⟨RX3, "countBeyondLimits", "()I"⟩
abbrev cX3_sumFades : ByteArray := prog_5_method_6_code
def yX3_sumFades : MethodName := ⟨RX3, "sumFades", "()I"⟩
abbrev cX3_fadeAt : ByteArray := prog_5_method_7_code
def yX3_fadeAt : MethodName := ⟨RX3, "fadeAt", "(I)I"⟩
abbrev cX3_beginOf : ByteArray := prog_5_method_8_code
def yX3_beginOf : MethodName := ⟨RX3, "beginOf", "(I)I"⟩
abbrev cX3_originOf : ByteArray := prog_5_method_9_code
def yX3_originOf : MethodName := ⟨RX3, "originOf", "(III)I"⟩
abbrev cX3_loopSample : ByteArray := prog_5_method_10_code
def yX3_loopSample : MethodName := ⟨RX3, "loopSample", "(II)I"⟩
def RX4 : String := "LoopSlicer"
def TX4 : u_T := fun k => match k with
  | 0 => ("LoopSlicer", "loop", "LLoopSlicer$Loop;", true)
  | 1 => ("LoopSlicer", "grid", "LLoopSlicer$Grid;", true)
  | 2 => ("LoopSlicer", "result", "LLoopSlicer$Result;", true)
  | 3 => ("LoopSlicer", "history", "LLoopSlicer$History;", true)
  | 4 => ("LoopSlicer", "images", "[LLoopSlicer$Loop;", true)
  | 5 => ("LoopSlicer", "kept", "[Z", true)
  | _ => ("LoopSlicer", "wouldBeMarks", "[I", true)
def tyX4 : Nat → FieldType := fun k => match k with
  | 0 => .object "LoopSlicer$Loop"
  | 1 => .object "LoopSlicer$Grid"
  | 2 => .object "LoopSlicer$Result"
  | 3 => .object "LoopSlicer$History"
  | 4 => .array (.object "LoopSlicer$Loop")
  | 5 => .array .boolean
  | _ => .array .int
abbrev wsX40 : List Cond := u_ws RX4 TX4 7
theorem nmX4 : ∀ a, a < 7 → ∀ b, b < 7 → a ≠ b → (TX4 a).2.1 ≠ (TX4 b).2.1 := by decide +kernel
theorem tyX4_ok : ∀ k, k < 7 → parseFieldDescriptor (TX4 k).2.2.1 = some (tyX4 k) := by decide +kernel
abbrev cX4_init : ByteArray := prog_1_method_1_code
def yX4_init : MethodName := ⟨RX4, "<init>", "()V"⟩
abbrev cX4_begin : ByteArray := prog_1_method_2_code
def yX4_begin : MethodName := ⟨RX4, "begin", "(I)I"⟩
abbrev cX4_sound : ByteArray := prog_1_method_3_code
def yX4_sound : MethodName := ⟨RX4, "sound", "(III)I"⟩
abbrev cX4_set : ByteArray := prog_1_method_4_code
def yX4_set : MethodName := ⟨RX4, "set", "(II)I"⟩
abbrev cX4_find : ByteArray := prog_1_method_5_code
def yX4_find : MethodName := ⟨RX4, "find", "()I"⟩
abbrev cX4_mark : ByteArray := prog_1_method_6_code
def yX4_mark : MethodName := ⟨RX4, "mark", "(I)I"⟩
abbrev cX4_unmark : ByteArray := prog_1_method_7_code
def yX4_unmark : MethodName := ⟨RX4, "unmark", "(I)I"⟩
abbrev cX4_moveMark : ByteArray := prog_1_method_8_code
def yX4_moveMark : MethodName := ⟨RX4, "moveMark", "(II)I"⟩
abbrev cX4_swap : ByteArray := prog_1_method_9_code
def yX4_swap : MethodName := ⟨RX4, "swap", "(II)I"⟩
abbrev cX4_reverse : ByteArray := prog_1_method_10_code
def yX4_reverse : MethodName := ⟨RX4, "reverse", "()I"⟩
abbrev cX4_undo : ByteArray := prog_1_method_11_code
def yX4_undo : MethodName := ⟨RX4, "undo", "()I"⟩
abbrev cX4_told : ByteArray := prog_1_method_12_code
def yX4_told : MethodName := ⟨RX4, "told", "(I)I"⟩
abbrev cX4_setting : ByteArray := prog_1_method_13_code
def yX4_setting : MethodName := ⟨RX4, "setting", "(I)I"⟩
abbrev cX4_energy : ByteArray := prog_1_method_14_code
def yX4_energy : MethodName := ⟨RX4, "energy", "(I)I"⟩
abbrev cX4_slice : ByteArray := prog_1_method_15_code
def yX4_slice : MethodName := ⟨RX4, "slice", "(II)I"⟩
abbrev cX4_order : ByteArray := prog_1_method_16_code
def yX4_order : MethodName := ⟨RX4, "order", "(I)I"⟩
abbrev cX4_source : ByteArray := prog_1_method_17_code
def yX4_source : MethodName := ⟨RX4, "source", "(II)I"⟩
abbrev cX4_warp : ByteArray := prog_1_method_18_code
def yX4_warp : MethodName := ⟨RX4, "warp", "(I)F"⟩
abbrev cX4_shift : ByteArray := prog_1_method_19_code
def yX4_shift : MethodName := ⟨RX4, "shift", "()I"⟩
abbrev cX4_leastGrid : ByteArray := prog_1_method_20_code
def yX4_leastGrid : MethodName := ⟨RX4, "leastGrid", "()I"⟩
abbrev cX4_nearTarget : ByteArray := prog_1_method_21_code
def yX4_nearTarget : MethodName := ⟨RX4, "nearTarget", "(I)I"⟩
abbrev cX4_marksWith : ByteArray := prog_1_method_22_code
def yX4_marksWith : MethodName := ⟨RX4, "marksWith", "(I)I"⟩
abbrev cX4_thresholdFor : ByteArray := prog_1_method_23_code
def yX4_thresholdFor : MethodName := ⟨RX4, "thresholdFor", "(I)I"⟩
abbrev cX4_keep : ByteArray := prog_1_method_24_code
def yX4_keep : MethodName := ⟨RX4, "keep", "(I)I"⟩
abbrev cX4_back : ByteArray := prog_1_method_25_code
def yX4_back : MethodName := ⟨RX4, "back", "(I)I"⟩
abbrev cX4_isSetting : ByteArray := prog_1_method_26_code
def yX4_isSetting : MethodName := ⟨RX4, "isSetting", "(I)Z"⟩
abbrev cX4_isImage : ByteArray := prog_1_method_27_code
def yX4_isImage : MethodName := ⟨RX4, "isImage", "(I)Z"⟩
abbrev cX4_isMovable : ByteArray := prog_1_method_28_code
def yX4_isMovable : MethodName := ⟨RX4, "isMovable", "(I)Z"⟩
def RX5 : String := "LoopSlicerModel"
def TX5 : u_T := fun k => match k with
  | 0 => ("LoopSlicerModel", "w", "[I", true)
  | 1 => ("LoopSlicerModel", "past", "[I", true)
  | 2 => ("LoopSlicerModel", "pastMany", "I", false)
  | 3 => ("LoopSlicerModel", "images", "[I", true)
  | 4 => ("LoopSlicerModel", "filled", "I", false)
  | 5 => ("LoopSlicerModel", "found", "[I", true)
  | 6 => ("LoopSlicerModel", "budget", "[I", true)
  | 7 => ("LoopSlicerModel", "steps", "[I", true)
  | 8 => ("LoopSlicerModel", "best", "[J", true)
  | 9 => ("LoopSlicerModel", "least", "J", false)
  | _ => ("LoopSlicerModel", "isServed", "[Z", true)
def tyX5 : Nat → FieldType := fun k => match k with
  | 0 => .array .int
  | 1 => .array .int
  | 2 => .int
  | 3 => .array .int
  | 4 => .int
  | 5 => .array .int
  | 6 => .array .int
  | 7 => .array .int
  | 8 => .array .long
  | 9 => .long
  | _ => .array .boolean
abbrev wsX50 : List Cond := u_ws RX5 TX5 11
theorem nmX5 : ∀ a, a < 11 → ∀ b, b < 11 → a ≠ b → (TX5 a).2.1 ≠ (TX5 b).2.1 := by decide +kernel
theorem tyX5_ok : ∀ k, k < 11 → parseFieldDescriptor (TX5 k).2.2.1 = some (tyX5 k) := by decide +kernel
abbrev cX5_init : ByteArray := prog_7_method_1_code
def yX5_init : MethodName := ⟨RX5, "<init>", "()V"⟩
abbrev cX5_isIn : ByteArray := prog_7_method_3_code
def yX5_isIn : MethodName := ⟨RX5, "isIn", "(III)Z"⟩
abbrev cX5_layLoop : ByteArray := prog_7_method_4_code
def yX5_layLoop : MethodName := ⟨RX5, "layLoop", "(I)V"⟩
abbrev cX5_layOrder : ByteArray := prog_7_method_5_code
def yX5_layOrder : MethodName := ⟨RX5, "layOrder", "()V"⟩
abbrev cX5_remember : ByteArray := prog_7_method_6_code
def yX5_remember : MethodName := ⟨RX5, "remember", "()V"⟩
abbrev cX5_isFrame : ByteArray := prog_7_method_7_code
def yX5_isFrame : MethodName := ⟨RX5, "isFrame", "(I)Z"⟩
abbrev cX5_isSlice : ByteArray := prog_7_method_8_code
def yX5_isSlice : MethodName := ⟨RX5, "isSlice", "(I)Z"⟩
abbrev cX5_frameOf : ByteArray := prog_7_method_9_code
def yX5_frameOf : MethodName := ⟨RX5, "frameOf", "(I)I"⟩
abbrev cX5_lengthOf : ByteArray := prog_7_method_10_code
def yX5_lengthOf : MethodName := ⟨RX5, "lengthOf", "(I)I"⟩
abbrev cX5_whole : ByteArray := prog_7_method_11_code
def yX5_whole : MethodName := ⟨RX5, "whole", "()I"⟩
abbrev cX5_findBy : ByteArray := prog_7_method_12_code
def yX5_findBy : MethodName := ⟨RX5, "findBy", "(I)I"⟩
abbrev cX5_layFree : ByteArray := prog_7_method_13_code
def yX5_layFree : MethodName := ⟨RX5, "layFree", "()V"⟩
abbrev cX5_remainder : ByteArray := prog_7_method_14_code
def yX5_remainder : MethodName := ⟨RX5, "remainder", "(I)J"⟩
abbrev cX5_sampleAt : ByteArray := prog_7_method_15_code
def yX5_sampleAt : MethodName := ⟨RX5, "sampleAt", "(III)I"⟩
abbrev cX5_fits : ByteArray := prog_7_method_16_code
def yX5_fits : MethodName := ⟨RX5, "fits", "(II)Z"⟩
abbrev cX5_off : ByteArray := prog_7_method_17_code
def yX5_off : MethodName := ⟨RX5, "off", "(IIII)J"⟩
abbrev cX5_bestFrom : ByteArray := prog_7_method_18_code
def yX5_bestFrom : MethodName := ⟨RX5, "bestFrom", "(IIII)J"⟩
abbrev cX5_layGrid : ByteArray := prog_7_method_19_code
def yX5_layGrid : MethodName := ⟨RX5, "layGrid", "(II)Z"⟩
abbrev cX5_isLaid : ByteArray := prog_7_method_20_code
def yX5_isLaid : MethodName := ⟨RX5, "isLaid", "()Z"⟩
abbrev cX5_placeOf : ByteArray := prog_7_method_21_code
def yX5_placeOf : MethodName := ⟨RX5, "placeOf", "(I)I"⟩
abbrev cX5_fadeOf : ByteArray := prog_7_method_22_code
def yX5_fadeOf : MethodName := ⟨RX5, "fadeOf", "(I)I"⟩
abbrev cX5_begin : ByteArray := prog_7_method_23_code
def yX5_begin : MethodName := ⟨RX5, "begin", "(I)I"⟩
abbrev cX5_sound : ByteArray := prog_7_method_24_code
def yX5_sound : MethodName := ⟨RX5, "sound", "(III)I"⟩
abbrev cX5_isOf : ByteArray := prog_7_method_25_code
def yX5_isOf : MethodName := ⟨RX5, "isOf", "(II)Z"⟩
abbrev cX5_set : ByteArray := prog_7_method_26_code
def yX5_set : MethodName := ⟨RX5, "set", "(II)I"⟩
abbrev cX5_find : ByteArray := prog_7_method_27_code
def yX5_find : MethodName := ⟨RX5, "find", "()I"⟩
abbrev cX5_mark : ByteArray := prog_7_method_28_code
def yX5_mark : MethodName := ⟨RX5, "mark", "(I)I"⟩
abbrev cX5_isFurther : ByteArray := prog_7_method_29_code
def yX5_isFurther : MethodName := ⟨RX5, "isFurther", "(I)Z"⟩
abbrev cX5_unmark : ByteArray := prog_7_method_30_code
def yX5_unmark : MethodName := ⟨RX5, "unmark", "(I)I"⟩
abbrev cX5_moveMark : ByteArray := prog_7_method_31_code
def yX5_moveMark : MethodName := ⟨RX5, "moveMark", "(II)I"⟩
abbrev cX5_swap : ByteArray := prog_7_method_32_code
def yX5_swap : MethodName := ⟨RX5, "swap", "(II)I"⟩
abbrev cX5_reverse : ByteArray := prog_7_method_33_code
def yX5_reverse : MethodName := ⟨RX5, "reverse", "()I"⟩
abbrev cX5_undo : ByteArray := prog_7_method_34_code
def yX5_undo : MethodName := ⟨RX5, "undo", "()I"⟩
abbrev cX5_beyond : ByteArray := prog_7_method_35_code
def yX5_beyond : MethodName := ⟨RX5, "beyond", "()I"⟩
abbrev cX5_fades : ByteArray := prog_7_method_36_code
def yX5_fades : MethodName := ⟨RX5, "fades", "()I"⟩
abbrev cX5_told : ByteArray := prog_7_method_37_code
def yX5_told : MethodName := ⟨RX5, "told", "(I)I"⟩
abbrev cX5_setting : ByteArray := prog_7_method_38_code
def yX5_setting : MethodName := ⟨RX5, "setting", "(I)I"⟩
abbrev cX5_energy : ByteArray := prog_7_method_39_code
def yX5_energy : MethodName := ⟨RX5, "energy", "(I)I"⟩
abbrev cX5_loudest : ByteArray := prog_7_method_40_code
def yX5_loudest : MethodName := ⟨RX5, "loudest", "(I)I"⟩
abbrev cX5_beginOf : ByteArray := prog_7_method_41_code
def yX5_beginOf : MethodName := ⟨RX5, "beginOf", "(I)I"⟩
abbrev cX5_slice : ByteArray := prog_7_method_42_code
def yX5_slice : MethodName := ⟨RX5, "slice", "(II)I"⟩
abbrev cX5_order : ByteArray := prog_7_method_43_code
def yX5_order : MethodName := ⟨RX5, "order", "(I)I"⟩
abbrev cX5_source : ByteArray := prog_7_method_44_code
def yX5_source : MethodName := ⟨RX5, "source", "(II)I"⟩
abbrev cX5_warp : ByteArray := prog_7_method_45_code
def yX5_warp : MethodName := ⟨RX5, "warp", "(I)F"⟩
abbrev cX5_shift : ByteArray := prog_7_method_46_code
def yX5_shift : MethodName := ⟨RX5, "shift", "()I"⟩
abbrev cX5_leastGrid : ByteArray := prog_7_method_47_code
def yX5_leastGrid : MethodName := ⟨RX5, "leastGrid", "()I"⟩
abbrev cX5_canBe : ByteArray := prog_7_method_48_code
def yX5_canBe : MethodName := ⟨RX5, "canBe", "(I)Z"⟩
abbrev cX5_nearTarget : ByteArray := prog_7_method_49_code
def yX5_nearTarget : MethodName := ⟨RX5, "nearTarget", "(I)I"⟩
abbrev cX5_marksWith : ByteArray := prog_7_method_50_code
def yX5_marksWith : MethodName := ⟨RX5, "marksWith", "(I)I"⟩
abbrev cX5_thresholdFor : ByteArray := prog_7_method_51_code
def yX5_thresholdFor : MethodName := ⟨RX5, "thresholdFor", "(I)I"⟩
abbrev cX5_isImage : ByteArray := prog_7_method_52_code
def yX5_isImage : MethodName := ⟨RX5, "isImage", "(I)Z"⟩
abbrev cX5_keep : ByteArray := prog_7_method_53_code
def yX5_keep : MethodName := ⟨RX5, "keep", "(I)I"⟩
abbrev cX5_back : ByteArray := prog_7_method_54_code
def yX5_back : MethodName := ⟨RX5, "back", "(I)I"⟩
def RJx8e188 : String := "java/lang/Cloneable"
def TJx8e188 : u_T := fun k => match k with
  | _ => ("", "", "", false)
def tyJx8e188 : Nat → FieldType := fun k => match k with
  | _ => .int
abbrev wsJx8e1880 : List Cond := u_ws RJx8e188 TJx8e188 0
theorem nmJx8e188 : ∀ a, a < 0 → ∀ b, b < 0 → a ≠ b → (TJx8e188 a).2.1 ≠ (TJx8e188 b).2.1 := by decide +kernel
theorem tyJx8e188_ok : ∀ k, k < 0 → parseFieldDescriptor (TJx8e188 k).2.2.1 = some (tyJx8e188 k) := by decide +kernel
def RJ9 : String := "java/lang/Math"
def TJ9 : u_T := fun k => match k with
  | _ => ("", "", "", false)
def tyJ9 : Nat → FieldType := fun k => match k with
  | _ => .int
abbrev wsJ90 : List Cond := u_ws RJ9 TJ9 0
theorem nmJ9 : ∀ a, a < 0 → ∀ b, b < 0 → a ≠ b → (TJ9 a).2.1 ≠ (TJ9 b).2.1 := by decide +kernel
theorem tyJ9_ok : ∀ k, k < 0 → parseFieldDescriptor (TJ9 k).2.2.1 = some (tyJ9 k) := by decide +kernel
abbrev cJ9_abs_0f7a4 : ByteArray := prog_9_method_59_code
def yJ9_abs_0f7a4 : MethodName := ⟨RJ9, "abs", "(I)I"⟩
abbrev cJ9_max_7cf53 : ByteArray := prog_9_method_65_code
def yJ9_max_7cf53 : MethodName := ⟨RJ9, "max", "(II)I"⟩
abbrev cJ9_min_7cf53 : ByteArray := prog_9_method_69_code
def yJ9_min_7cf53 : MethodName := ⟨RJ9, "min", "(II)I"⟩
def RJ10 : String := "java/lang/System"
def TJ10 : u_T := fun k => match k with
  | _ => ("", "", "", false)
def tyJ10 : Nat → FieldType := fun k => match k with
  | _ => .int
abbrev wsJ100 : List Cond := u_ws RJ10 TJ10 0
theorem nmJ10 : ∀ a, a < 0 → ∀ b, b < 0 → a ≠ b → (TJ10 a).2.1 ≠ (TJ10 b).2.1 := by decide +kernel
theorem tyJ10_ok : ∀ k, k < 0 → parseFieldDescriptor (TJ10 k).2.2.1 = some (tyJ10 k) := by decide +kernel
def RL : String := "LoopSlicerLaw"
abbrev cL_law : ByteArray := code
def yL_law : MethodName := ⟨RL, "law", "([I)Z"⟩
def wsX0_init : List Cond := .code yX0_init cX0_init 2 none :: ([.methodLink RX0 3 objectInit, .instanceMethod objectInit, .code objectInit ⟨#[0xb1]⟩ 1 none, .arrayClass .int, .fieldLink RX0 11 "LoopSlicer$Grid" "positions" "[I", .fieldLink RX0 15 "LoopSlicer$Grid" "least" "[I", .fieldLink RX0 18 "LoopSlicer$Grid" "most" "[I", .fieldLink RX0 21 "LoopSlicer$Grid" "sums" "[I", .fieldLink RX0 24 "LoopSlicer$Grid" "steps" "[I", .fieldLink RX0 27 "LoopSlicer$Grid" "loop" "LLoopSlicer$Loop;"] ++ wsX00)
def wsX2_endFrame : List Cond := .code yX2_endFrame cX2_endFrame 2 (some .int) :: ([.fieldLink RX2 15 "LoopSlicer$Loop" "markCount" "I", .fieldLink RX2 33 "LoopSlicer$Loop" "marks" "[I", .fieldLink RX2 9 "LoopSlicer$Loop" "frames" "I"] ++ wsX20)
def wsX2_lengthOf : List Cond := .code yX2_lengthOf cX2_lengthOf 2 (some .int) :: ([.fieldLink RX2 33 "LoopSlicer$Loop" "marks" "[I", .fieldLink RX2 30 "LoopSlicer$Loop" "settings" "[I", .methodLink RX2 48 yX2_endFrame, .instanceMethod yX2_endFrame, .selects RX2 yX2_endFrame yX2_endFrame, .initialized RX2, .code yX2_endFrame cX2_endFrame 2 (some .int), .fieldLink RX2 15 "LoopSlicer$Loop" "markCount" "I", .fieldLink RX2 9 "LoopSlicer$Loop" "frames" "I"] ++ wsX20)
def wsX2_leastBudget : List Cond := .code yX2_leastBudget cX2_leastBudget 2 (some .int) :: ([.fieldLink RX2 30 "LoopSlicer$Loop" "settings" "[I"] ++ wsX20)
def wsX2_mostBudget : List Cond := .code yX2_mostBudget cX2_mostBudget 2 (some .int) :: ([.fieldLink RX2 30 "LoopSlicer$Loop" "settings" "[I"] ++ wsX20)
def wsX0_measure_r1 : List Cond := [Cond.fieldLink RX0 44 "LoopSlicer$Grid" "lastStep" "I", Cond.fieldLink RX0 11 "LoopSlicer$Grid" "positions" "[I", Cond.fieldLink RX0 41 "LoopSlicer$Grid" "target" "I", Cond.fieldLink RX0 27 "LoopSlicer$Grid" "loop" "LLoopSlicer$Loop;", Cond.fieldLink RX0 35 "LoopSlicer$Loop" "markCount" "I", Cond.fieldLink RX0 15 "LoopSlicer$Grid" "least" "[I", Cond.fieldLink RX0 18 "LoopSlicer$Grid" "most" "[I", Cond.methodLink RX0 60 yX2_lengthOf, Cond.instanceMethod yX2_lengthOf, Cond.selects RX2 yX2_lengthOf yX2_lengthOf, Cond.initialized RX2, Cond.code yX2_lengthOf cX2_lengthOf 2 (some .int), Cond.fieldLink RX2 33 "LoopSlicer$Loop" "marks" "[I", Cond.fieldLink RX2 30 "LoopSlicer$Loop" "settings" "[I", Cond.methodLink RX2 48 yX2_endFrame, Cond.instanceMethod yX2_endFrame, Cond.selects RX2 yX2_endFrame yX2_endFrame, Cond.code yX2_endFrame cX2_endFrame 2 (some .int), Cond.fieldLink RX2 15 "LoopSlicer$Loop" "markCount" "I", Cond.fieldLink RX2 9 "LoopSlicer$Loop" "frames" "I", Cond.methodLink RX0 64 yX2_leastBudget, Cond.instanceMethod yX2_leastBudget, Cond.selects RX2 yX2_leastBudget yX2_leastBudget, Cond.code yX2_leastBudget cX2_leastBudget 2 (some .int)]
def wsX0_measure_r2 : List Cond := [Cond.methodLink RX0 67 yX2_mostBudget, Cond.instanceMethod yX2_mostBudget, Cond.selects RX2 yX2_mostBudget yX2_mostBudget, Cond.code yX2_mostBudget cX2_mostBudget 2 (some .int)]
def wsX0_measure : List Cond := .code yX0_measure cX0_measure 3 none :: ((wsX0_measure_r1 ++ wsX0_measure_r2) ++ wsX00 ++ wsX20)
def wsX0_lastStepOf : List Cond := .code yX0_lastStepOf cX0_lastStepOf 2 (some .int) :: ([.fieldLink RX0 44 "LoopSlicer$Grid" "lastStep" "I", .fieldLink RX0 27 "LoopSlicer$Grid" "loop" "LLoopSlicer$Loop;", .fieldLink RX0 35 "LoopSlicer$Loop" "markCount" "I"] ++ wsX00 ++ wsX20)
def wsX0_firstStepOf : List Cond := .code yX0_firstStepOf cX0_firstStepOf 2 (some .int) :: ([.fieldLink RX0 27 "LoopSlicer$Grid" "loop" "LLoopSlicer$Loop;", .fieldLink RX0 35 "LoopSlicer$Loop" "markCount" "I", .fieldLink RX0 44 "LoopSlicer$Grid" "lastStep" "I"] ++ wsX00 ++ wsX20)
def wsX0_bestNext : List Cond := .code yX0_bestNext cX0_bestNext 9 (some .int) :: ([.methodLink RX0 79 Lib.Math.max.name, .static Lib.Math.max.name, .initialized "java/lang/Math", .code Lib.Math.max.name Lib.Math.max.code 2 (some .int), .fieldLink RX0 11 "LoopSlicer$Grid" "positions" "[I", .fieldLink RX0 18 "LoopSlicer$Grid" "most" "[I", .fieldLink RX0 15 "LoopSlicer$Grid" "least" "[I", .fieldLink RX0 21 "LoopSlicer$Grid" "sums" "[I", .methodLink RX0 70 yX0_lastStepOf, .instanceMethod yX0_lastStepOf, .selects RX0 yX0_lastStepOf yX0_lastStepOf, .initialized RX0, .code yX0_lastStepOf cX0_lastStepOf 2 (some .int), .fieldLink RX0 44 "LoopSlicer$Grid" "lastStep" "I", .fieldLink RX0 27 "LoopSlicer$Grid" "loop" "LLoopSlicer$Loop;", .fieldLink RX0 35 "LoopSlicer$Loop" "markCount" "I", .methodLink RX0 73 yX0_firstStepOf, .instanceMethod yX0_firstStepOf, .selects RX0 yX0_firstStepOf yX0_firstStepOf, .code yX0_firstStepOf cX0_firstStepOf 2 (some .int)] ++ wsX00 ++ wsX20)
def wsX0_distance : List Cond := .code yX0_distance cX0_distance 3 (some .int) :: ([.fieldLink RX0 11 "LoopSlicer$Grid" "positions" "[I", .fieldLink RX0 27 "LoopSlicer$Grid" "loop" "LLoopSlicer$Loop;", .fieldLink RX0 84 "LoopSlicer$Loop" "frames" "I", .fieldLink RX0 87 "LoopSlicer$Loop" "marks" "[I", .fieldLink RX0 41 "LoopSlicer$Grid" "target" "I", .methodLink RX0 90 Lib.Math.abs.name, .static Lib.Math.abs.name, .initialized "java/lang/Math", .code Lib.Math.abs.name Lib.Math.abs.code 1 (some .int)] ++ wsX00 ++ wsX20)
def wsX0_fillSums_r1 : List Cond := [Cond.fieldLink RX0 21 "LoopSlicer$Grid" "sums" "[I", Cond.methodLink RX0 70 yX0_lastStepOf, Cond.instanceMethod yX0_lastStepOf, Cond.selects RX0 yX0_lastStepOf yX0_lastStepOf, Cond.initialized RX0, Cond.code yX0_lastStepOf cX0_lastStepOf 2 (some .int), Cond.fieldLink RX0 44 "LoopSlicer$Grid" "lastStep" "I", Cond.fieldLink RX0 27 "LoopSlicer$Grid" "loop" "LLoopSlicer$Loop;", Cond.fieldLink RX0 35 "LoopSlicer$Loop" "markCount" "I", Cond.methodLink RX0 73 yX0_firstStepOf, Cond.instanceMethod yX0_firstStepOf, Cond.selects RX0 yX0_firstStepOf yX0_firstStepOf, Cond.code yX0_firstStepOf cX0_firstStepOf 2 (some .int), Cond.methodLink RX0 57 yX0_bestNext, Cond.instanceMethod yX0_bestNext, Cond.selects RX0 yX0_bestNext yX0_bestNext, Cond.code yX0_bestNext cX0_bestNext 9 (some .int), Cond.methodLink RX0 79 Lib.Math.max.name, Cond.static Lib.Math.max.name, Cond.initialized "java/lang/Math", Cond.code Lib.Math.max.name Lib.Math.max.code 2 (some .int), Cond.fieldLink RX0 11 "LoopSlicer$Grid" "positions" "[I", Cond.fieldLink RX0 18 "LoopSlicer$Grid" "most" "[I", Cond.fieldLink RX0 15 "LoopSlicer$Grid" "least" "[I"]
def wsX0_fillSums_r2 : List Cond := [Cond.methodLink RX0 76 yX0_distance, Cond.instanceMethod yX0_distance, Cond.selects RX0 yX0_distance yX0_distance, Cond.code yX0_distance cX0_distance 3 (some .int), Cond.fieldLink RX0 84 "LoopSlicer$Loop" "frames" "I", Cond.fieldLink RX0 87 "LoopSlicer$Loop" "marks" "[I", Cond.fieldLink RX0 41 "LoopSlicer$Grid" "target" "I", Cond.methodLink RX0 90 Lib.Math.abs.name, Cond.static Lib.Math.abs.name, Cond.code Lib.Math.abs.name Lib.Math.abs.code 1 (some .int)]
def wsX0_fillSums : List Cond := .code yX0_fillSums cX0_fillSums 7 (some .boolean) :: ((wsX0_fillSums_r1 ++ wsX0_fillSums_r2) ++ wsX00 ++ wsX20)
def wsX0_leastSum_r1 : List Cond := [Cond.fieldLink RX0 27 "LoopSlicer$Grid" "loop" "LLoopSlicer$Loop;", Cond.fieldLink RX0 35 "LoopSlicer$Loop" "markCount" "I", Cond.fieldLink RX0 41 "LoopSlicer$Grid" "target" "I", Cond.fieldLink RX0 44 "LoopSlicer$Grid" "lastStep" "I", Cond.fieldLink RX0 21 "LoopSlicer$Grid" "sums" "[I", Cond.methodLink RX0 47 yX0_measure, Cond.instanceMethod yX0_measure, Cond.selects RX0 yX0_measure yX0_measure, Cond.initialized RX0, Cond.code yX0_measure cX0_measure 3 none, Cond.fieldLink RX0 11 "LoopSlicer$Grid" "positions" "[I", Cond.fieldLink RX0 15 "LoopSlicer$Grid" "least" "[I", Cond.fieldLink RX0 18 "LoopSlicer$Grid" "most" "[I", Cond.methodLink RX0 60 yX2_lengthOf, Cond.instanceMethod yX2_lengthOf, Cond.selects RX2 yX2_lengthOf yX2_lengthOf, Cond.initialized RX2, Cond.code yX2_lengthOf cX2_lengthOf 2 (some .int), Cond.fieldLink RX2 33 "LoopSlicer$Loop" "marks" "[I", Cond.fieldLink RX2 30 "LoopSlicer$Loop" "settings" "[I", Cond.methodLink RX2 48 yX2_endFrame, Cond.instanceMethod yX2_endFrame, Cond.selects RX2 yX2_endFrame yX2_endFrame, Cond.code yX2_endFrame cX2_endFrame 2 (some .int)]
def wsX0_leastSum_r2 : List Cond := [Cond.fieldLink RX2 15 "LoopSlicer$Loop" "markCount" "I", Cond.fieldLink RX2 9 "LoopSlicer$Loop" "frames" "I", Cond.methodLink RX0 64 yX2_leastBudget, Cond.instanceMethod yX2_leastBudget, Cond.selects RX2 yX2_leastBudget yX2_leastBudget, Cond.code yX2_leastBudget cX2_leastBudget 2 (some .int), Cond.methodLink RX0 67 yX2_mostBudget, Cond.instanceMethod yX2_mostBudget, Cond.selects RX2 yX2_mostBudget yX2_mostBudget, Cond.code yX2_mostBudget cX2_mostBudget 2 (some .int), Cond.methodLink RX0 50 yX0_fillSums, Cond.instanceMethod yX0_fillSums, Cond.selects RX0 yX0_fillSums yX0_fillSums, Cond.code yX0_fillSums cX0_fillSums 7 (some .boolean), Cond.methodLink RX0 70 yX0_lastStepOf, Cond.instanceMethod yX0_lastStepOf, Cond.selects RX0 yX0_lastStepOf yX0_lastStepOf, Cond.code yX0_lastStepOf cX0_lastStepOf 2 (some .int), Cond.methodLink RX0 73 yX0_firstStepOf, Cond.instanceMethod yX0_firstStepOf, Cond.selects RX0 yX0_firstStepOf yX0_firstStepOf, Cond.code yX0_firstStepOf cX0_firstStepOf 2 (some .int), Cond.methodLink RX0 57 yX0_bestNext, Cond.instanceMethod yX0_bestNext]
def wsX0_leastSum_r3 : List Cond := [Cond.selects RX0 yX0_bestNext yX0_bestNext, Cond.code yX0_bestNext cX0_bestNext 9 (some .int), Cond.methodLink RX0 79 Lib.Math.max.name, Cond.static Lib.Math.max.name, Cond.initialized "java/lang/Math", Cond.code Lib.Math.max.name Lib.Math.max.code 2 (some .int), Cond.methodLink RX0 76 yX0_distance, Cond.instanceMethod yX0_distance, Cond.selects RX0 yX0_distance yX0_distance, Cond.code yX0_distance cX0_distance 3 (some .int), Cond.fieldLink RX0 84 "LoopSlicer$Loop" "frames" "I", Cond.fieldLink RX0 87 "LoopSlicer$Loop" "marks" "[I", Cond.methodLink RX0 90 Lib.Math.abs.name, Cond.static Lib.Math.abs.name, Cond.code Lib.Math.abs.name Lib.Math.abs.code 1 (some .int)]
def wsX0_leastSum : List Cond := .code yX0_leastSum cX0_leastSum 4 (some .int) :: ((wsX0_leastSum_r1 ++ (wsX0_leastSum_r2 ++ wsX0_leastSum_r3)) ++ wsX00 ++ wsX20)
def wsX0_canLay_r1 : List Cond := [Cond.methodLink RX0 31 yX0_leastSum, Cond.instanceMethod yX0_leastSum, Cond.selects RX0 yX0_leastSum yX0_leastSum, Cond.initialized RX0, Cond.code yX0_leastSum cX0_leastSum 4 (some .int), Cond.fieldLink RX0 27 "LoopSlicer$Grid" "loop" "LLoopSlicer$Loop;", Cond.fieldLink RX0 35 "LoopSlicer$Loop" "markCount" "I", Cond.fieldLink RX0 41 "LoopSlicer$Grid" "target" "I", Cond.fieldLink RX0 44 "LoopSlicer$Grid" "lastStep" "I", Cond.fieldLink RX0 21 "LoopSlicer$Grid" "sums" "[I", Cond.methodLink RX0 47 yX0_measure, Cond.instanceMethod yX0_measure, Cond.selects RX0 yX0_measure yX0_measure, Cond.code yX0_measure cX0_measure 3 none, Cond.fieldLink RX0 11 "LoopSlicer$Grid" "positions" "[I", Cond.fieldLink RX0 15 "LoopSlicer$Grid" "least" "[I", Cond.fieldLink RX0 18 "LoopSlicer$Grid" "most" "[I", Cond.methodLink RX0 60 yX2_lengthOf, Cond.instanceMethod yX2_lengthOf, Cond.selects RX2 yX2_lengthOf yX2_lengthOf, Cond.initialized RX2, Cond.code yX2_lengthOf cX2_lengthOf 2 (some .int), Cond.fieldLink RX2 33 "LoopSlicer$Loop" "marks" "[I", Cond.fieldLink RX2 30 "LoopSlicer$Loop" "settings" "[I"]
def wsX0_canLay_r2 : List Cond := [Cond.methodLink RX2 48 yX2_endFrame, Cond.instanceMethod yX2_endFrame, Cond.selects RX2 yX2_endFrame yX2_endFrame, Cond.code yX2_endFrame cX2_endFrame 2 (some .int), Cond.fieldLink RX2 15 "LoopSlicer$Loop" "markCount" "I", Cond.fieldLink RX2 9 "LoopSlicer$Loop" "frames" "I", Cond.methodLink RX0 64 yX2_leastBudget, Cond.instanceMethod yX2_leastBudget, Cond.selects RX2 yX2_leastBudget yX2_leastBudget, Cond.code yX2_leastBudget cX2_leastBudget 2 (some .int), Cond.methodLink RX0 67 yX2_mostBudget, Cond.instanceMethod yX2_mostBudget, Cond.selects RX2 yX2_mostBudget yX2_mostBudget, Cond.code yX2_mostBudget cX2_mostBudget 2 (some .int), Cond.methodLink RX0 50 yX0_fillSums, Cond.instanceMethod yX0_fillSums, Cond.selects RX0 yX0_fillSums yX0_fillSums, Cond.code yX0_fillSums cX0_fillSums 7 (some .boolean), Cond.methodLink RX0 70 yX0_lastStepOf, Cond.instanceMethod yX0_lastStepOf, Cond.selects RX0 yX0_lastStepOf yX0_lastStepOf, Cond.code yX0_lastStepOf cX0_lastStepOf 2 (some .int), Cond.methodLink RX0 73 yX0_firstStepOf, Cond.instanceMethod yX0_firstStepOf]
def wsX0_canLay_r3 : List Cond := [Cond.selects RX0 yX0_firstStepOf yX0_firstStepOf, Cond.code yX0_firstStepOf cX0_firstStepOf 2 (some .int), Cond.methodLink RX0 57 yX0_bestNext, Cond.instanceMethod yX0_bestNext, Cond.selects RX0 yX0_bestNext yX0_bestNext, Cond.code yX0_bestNext cX0_bestNext 9 (some .int), Cond.methodLink RX0 79 Lib.Math.max.name, Cond.static Lib.Math.max.name, Cond.initialized "java/lang/Math", Cond.code Lib.Math.max.name Lib.Math.max.code 2 (some .int), Cond.methodLink RX0 76 yX0_distance, Cond.instanceMethod yX0_distance, Cond.selects RX0 yX0_distance yX0_distance, Cond.code yX0_distance cX0_distance 3 (some .int), Cond.fieldLink RX0 84 "LoopSlicer$Loop" "frames" "I", Cond.fieldLink RX0 87 "LoopSlicer$Loop" "marks" "[I", Cond.methodLink RX0 90 Lib.Math.abs.name, Cond.static Lib.Math.abs.name, Cond.code Lib.Math.abs.name Lib.Math.abs.code 1 (some .int)]
def wsX0_canLay : List Cond := .code yX0_canLay cX0_canLay 3 (some .boolean) :: ((wsX0_canLay_r1 ++ (wsX0_canLay_r2 ++ wsX0_canLay_r3)) ++ wsX00 ++ wsX20)
def wsX0_draw_r1 : List Cond := [Cond.fieldLink RX0 27 "LoopSlicer$Grid" "loop" "LLoopSlicer$Loop;", Cond.fieldLink RX0 54 "LoopSlicer$Loop" "settings" "[I", Cond.fieldLink RX0 24 "LoopSlicer$Grid" "steps" "[I", Cond.fieldLink RX0 35 "LoopSlicer$Loop" "markCount" "I", Cond.methodLink RX0 31 yX0_leastSum, Cond.instanceMethod yX0_leastSum, Cond.selects RX0 yX0_leastSum yX0_leastSum, Cond.initialized RX0, Cond.code yX0_leastSum cX0_leastSum 4 (some .int), Cond.fieldLink RX0 41 "LoopSlicer$Grid" "target" "I", Cond.fieldLink RX0 44 "LoopSlicer$Grid" "lastStep" "I", Cond.fieldLink RX0 21 "LoopSlicer$Grid" "sums" "[I", Cond.methodLink RX0 47 yX0_measure, Cond.instanceMethod yX0_measure, Cond.selects RX0 yX0_measure yX0_measure, Cond.code yX0_measure cX0_measure 3 none, Cond.fieldLink RX0 11 "LoopSlicer$Grid" "positions" "[I", Cond.fieldLink RX0 15 "LoopSlicer$Grid" "least" "[I", Cond.fieldLink RX0 18 "LoopSlicer$Grid" "most" "[I", Cond.methodLink RX0 60 yX2_lengthOf, Cond.instanceMethod yX2_lengthOf, Cond.selects RX2 yX2_lengthOf yX2_lengthOf, Cond.initialized RX2, Cond.code yX2_lengthOf cX2_lengthOf 2 (some .int)]
def wsX0_draw_r2 : List Cond := [Cond.fieldLink RX2 33 "LoopSlicer$Loop" "marks" "[I", Cond.fieldLink RX2 30 "LoopSlicer$Loop" "settings" "[I", Cond.methodLink RX2 48 yX2_endFrame, Cond.instanceMethod yX2_endFrame, Cond.selects RX2 yX2_endFrame yX2_endFrame, Cond.code yX2_endFrame cX2_endFrame 2 (some .int), Cond.fieldLink RX2 15 "LoopSlicer$Loop" "markCount" "I", Cond.fieldLink RX2 9 "LoopSlicer$Loop" "frames" "I", Cond.methodLink RX0 64 yX2_leastBudget, Cond.instanceMethod yX2_leastBudget, Cond.selects RX2 yX2_leastBudget yX2_leastBudget, Cond.code yX2_leastBudget cX2_leastBudget 2 (some .int), Cond.methodLink RX0 67 yX2_mostBudget, Cond.instanceMethod yX2_mostBudget, Cond.selects RX2 yX2_mostBudget yX2_mostBudget, Cond.code yX2_mostBudget cX2_mostBudget 2 (some .int), Cond.methodLink RX0 50 yX0_fillSums, Cond.instanceMethod yX0_fillSums, Cond.selects RX0 yX0_fillSums yX0_fillSums, Cond.code yX0_fillSums cX0_fillSums 7 (some .boolean), Cond.methodLink RX0 70 yX0_lastStepOf, Cond.instanceMethod yX0_lastStepOf, Cond.selects RX0 yX0_lastStepOf yX0_lastStepOf, Cond.code yX0_lastStepOf cX0_lastStepOf 2 (some .int)]
def wsX0_draw_r3 : List Cond := [Cond.methodLink RX0 73 yX0_firstStepOf, Cond.instanceMethod yX0_firstStepOf, Cond.selects RX0 yX0_firstStepOf yX0_firstStepOf, Cond.code yX0_firstStepOf cX0_firstStepOf 2 (some .int), Cond.methodLink RX0 57 yX0_bestNext, Cond.instanceMethod yX0_bestNext, Cond.selects RX0 yX0_bestNext yX0_bestNext, Cond.code yX0_bestNext cX0_bestNext 9 (some .int), Cond.methodLink RX0 79 Lib.Math.max.name, Cond.static Lib.Math.max.name, Cond.initialized "java/lang/Math", Cond.code Lib.Math.max.name Lib.Math.max.code 2 (some .int), Cond.methodLink RX0 76 yX0_distance, Cond.instanceMethod yX0_distance, Cond.selects RX0 yX0_distance yX0_distance, Cond.code yX0_distance cX0_distance 3 (some .int), Cond.fieldLink RX0 84 "LoopSlicer$Loop" "frames" "I", Cond.fieldLink RX0 87 "LoopSlicer$Loop" "marks" "[I", Cond.methodLink RX0 90 Lib.Math.abs.name, Cond.static Lib.Math.abs.name, Cond.code Lib.Math.abs.name Lib.Math.abs.code 1 (some .int)]
def wsX0_draw : List Cond := .code yX0_draw cX0_draw 3 (some .boolean) :: ((wsX0_draw_r1 ++ (wsX0_draw_r2 ++ wsX0_draw_r3)) ++ wsX00 ++ wsX20)
def wsX0_budgetOf : List Cond := .code yX0_budgetOf cX0_budgetOf 2 (some .int) :: ([.fieldLink RX0 11 "LoopSlicer$Grid" "positions" "[I", .fieldLink RX0 24 "LoopSlicer$Grid" "steps" "[I"] ++ wsX00)
def wsX2_init : List Cond := .code yX2_init cX2_init 1 none :: ([.methodLink RX2 3 objectInit, .instanceMethod objectInit, .code objectInit ⟨#[0xb1]⟩ 1 none, .fieldLink RX2 9 "LoopSlicer$Loop" "frames" "I", .fieldLink RX2 15 "LoopSlicer$Loop" "markCount" "I", .arrayClass .int, .fieldLink RX2 18 "LoopSlicer$Loop" "energies" "[I", .methodLink RX2 25 ⟨"[I", "clone", "()Ljava/lang/Object;"⟩, .sameMethod "[I" "java/lang/Object" "clone" "()Ljava/lang/Object;", .native ⟨"java/lang/Object", "clone", "()Ljava/lang/Object;"⟩, .instanceMethod ⟨"java/lang/Object", "clone", "()Ljava/lang/Object;"⟩, .selects "[I" ⟨"[I", "clone", "()Ljava/lang/Object;"⟩ ⟨"java/lang/Object", "clone", "()Ljava/lang/Object;"⟩, .classLink RX2 26 "[I", .fieldLink RX2 30 "LoopSlicer$Loop" "settings" "[I", .fieldLink RX2 33 "LoopSlicer$Loop" "marks" "[I", .fieldLink RX2 36 "LoopSlicer$Loop" "sequence" "[I"] ++ wsX20)
def wsX1_init : List Cond := .code yX1_init cX1_init 2 none :: ([.methodLink RX1 3 objectInit, .instanceMethod objectInit, .code objectInit ⟨#[0xb1]⟩ 1 none, .classLink RX1 9 RX2, .fieldLink RX1 11 "LoopSlicer$History" "states" "[LLoopSlicer$Loop;", .instantiable RX2 6, .initialized RX2, .instanceMethod yX2_init, .code yX2_init cX2_init 1 none, .methodLink RX2 3 objectInit, .fieldLink RX2 9 "LoopSlicer$Loop" "frames" "I", .fieldLink RX2 15 "LoopSlicer$Loop" "markCount" "I", .arrayClass .int, .fieldLink RX2 18 "LoopSlicer$Loop" "energies" "[I", .methodLink RX2 25 ⟨"[I", "clone", "()Ljava/lang/Object;"⟩, .sameMethod "[I" "java/lang/Object" "clone" "()Ljava/lang/Object;", .native ⟨"java/lang/Object", "clone", "()Ljava/lang/Object;"⟩, .instanceMethod ⟨"java/lang/Object", "clone", "()Ljava/lang/Object;"⟩, .selects "[I" ⟨"[I", "clone", "()Ljava/lang/Object;"⟩ ⟨"java/lang/Object", "clone", "()Ljava/lang/Object;"⟩, .classLink RX2 26 "[I", .fieldLink RX2 30 "LoopSlicer$Loop" "settings" "[I", .fieldLink RX2 33 "LoopSlicer$Loop" "marks" "[I", .fieldLink RX2 36 "LoopSlicer$Loop" "sequence" "[I"] ++ wsX10 ++ wsX20)
def wsX2_copy : List Cond := .code yX2_copy cX2_copy 2 none :: ([.fieldLink RX2 9 "LoopSlicer$Loop" "frames" "I", .fieldLink RX2 15 "LoopSlicer$Loop" "markCount" "I", .fieldLink RX2 18 "LoopSlicer$Loop" "energies" "[I", .methodLink RX2 39 arraycopyName, .native arraycopyName, .static arraycopyName, .initialized "java/lang/System", .fieldLink RX2 30 "LoopSlicer$Loop" "settings" "[I", .fieldLink RX2 33 "LoopSlicer$Loop" "marks" "[I", .fieldLink RX2 36 "LoopSlicer$Loop" "sequence" "[I"] ++ wsX20)
def wsX1_push : List Cond := .code yX1_push cX1_push 2 none :: ([.fieldLink RX1 18 "LoopSlicer$History" "newest" "I", .fieldLink RX1 11 "LoopSlicer$History" "states" "[LLoopSlicer$Loop;", .fieldLink RX1 26 "LoopSlicer$History" "size" "I", .methodLink RX1 22 yX2_copy, .instanceMethod yX2_copy, .selects RX2 yX2_copy yX2_copy, .initialized RX2, .code yX2_copy cX2_copy 2 none, .fieldLink RX2 9 "LoopSlicer$Loop" "frames" "I", .fieldLink RX2 15 "LoopSlicer$Loop" "markCount" "I", .fieldLink RX2 18 "LoopSlicer$Loop" "energies" "[I", .methodLink RX2 39 arraycopyName, .native arraycopyName, .static arraycopyName, .initialized "java/lang/System", .fieldLink RX2 30 "LoopSlicer$Loop" "settings" "[I", .fieldLink RX2 33 "LoopSlicer$Loop" "marks" "[I", .fieldLink RX2 36 "LoopSlicer$Loop" "sequence" "[I"] ++ wsX10 ++ wsX20)
def wsX1_pop : List Cond := .code yX1_pop cX1_pop 2 none :: ([.fieldLink RX1 11 "LoopSlicer$History" "states" "[LLoopSlicer$Loop;", .fieldLink RX1 18 "LoopSlicer$History" "newest" "I", .fieldLink RX1 26 "LoopSlicer$History" "size" "I", .methodLink RX1 22 yX2_copy, .instanceMethod yX2_copy, .selects RX2 yX2_copy yX2_copy, .initialized RX2, .code yX2_copy cX2_copy 2 none, .fieldLink RX2 9 "LoopSlicer$Loop" "frames" "I", .fieldLink RX2 15 "LoopSlicer$Loop" "markCount" "I", .fieldLink RX2 18 "LoopSlicer$Loop" "energies" "[I", .methodLink RX2 39 arraycopyName, .native arraycopyName, .static arraycopyName, .initialized "java/lang/System", .fieldLink RX2 30 "LoopSlicer$Loop" "settings" "[I", .fieldLink RX2 33 "LoopSlicer$Loop" "marks" "[I", .fieldLink RX2 36 "LoopSlicer$Loop" "sequence" "[I"] ++ wsX10 ++ wsX20)
def wsX2_resetSequence : List Cond := .code yX2_resetSequence cX2_resetSequence 2 none :: ([.fieldLink RX2 36 "LoopSlicer$Loop" "sequence" "[I"] ++ wsX20)
def wsX2_clear : List Cond := .code yX2_clear cX2_clear 3 none :: ([.fieldLink RX2 9 "LoopSlicer$Loop" "frames" "I", .fieldLink RX2 18 "LoopSlicer$Loop" "energies" "[I", .fieldLink RX2 15 "LoopSlicer$Loop" "markCount" "I", .methodLink RX2 45 yX2_resetSequence, .instanceMethod yX2_resetSequence, .selects RX2 yX2_resetSequence yX2_resetSequence, .initialized RX2, .code yX2_resetSequence cX2_resetSequence 2 none, .fieldLink RX2 36 "LoopSlicer$Loop" "sequence" "[I"] ++ wsX20)
def wsX2_isFrame : List Cond := .code yX2_isFrame cX2_isFrame 2 (some .boolean) :: ([.fieldLink RX2 9 "LoopSlicer$Loop" "frames" "I"] ++ wsX20)
def wsX2_isSlice : List Cond := .code yX2_isSlice cX2_isSlice 2 (some .boolean) :: ([.fieldLink RX2 15 "LoopSlicer$Loop" "markCount" "I"] ++ wsX20)
def wsX2_isFree : List Cond := .code yX2_isFree cX2_isFree 1 (some .boolean) :: ([.fieldLink RX2 30 "LoopSlicer$Loop" "settings" "[I"] ++ wsX20)
def wsX2_loudestFrame : List Cond := .code yX2_loudestFrame cX2_loudestFrame 5 (some .int) :: ([.fieldLink RX2 33 "LoopSlicer$Loop" "marks" "[I", .fieldLink RX2 18 "LoopSlicer$Loop" "energies" "[I", .methodLink RX2 48 yX2_endFrame, .instanceMethod yX2_endFrame, .selects RX2 yX2_endFrame yX2_endFrame, .initialized RX2, .code yX2_endFrame cX2_endFrame 2 (some .int), .fieldLink RX2 15 "LoopSlicer$Loop" "markCount" "I", .fieldLink RX2 9 "LoopSlicer$Loop" "frames" "I"] ++ wsX20)
def wsX2_placeOf : List Cond := .code yX2_placeOf cX2_placeOf 3 (some .int) :: ([.fieldLink RX2 15 "LoopSlicer$Loop" "markCount" "I", .fieldLink RX2 36 "LoopSlicer$Loop" "sequence" "[I"] ++ wsX20)
def wsX2_exchange : List Cond := .code yX2_exchange cX2_exchange 4 none :: ([.fieldLink RX2 36 "LoopSlicer$Loop" "sequence" "[I"] ++ wsX20)
def wsX2_marksBefore : List Cond := .code yX2_marksBefore cX2_marksBefore 3 (some .int) :: ([.fieldLink RX2 15 "LoopSlicer$Loop" "markCount" "I", .fieldLink RX2 33 "LoopSlicer$Loop" "marks" "[I"] ++ wsX20)
def wsX2_insertMark : List Cond := .code yX2_insertMark cX2_insertMark 4 none :: ([.fieldLink RX2 15 "LoopSlicer$Loop" "markCount" "I", .fieldLink RX2 33 "LoopSlicer$Loop" "marks" "[I", .methodLink RX2 45 yX2_resetSequence, .instanceMethod yX2_resetSequence, .selects RX2 yX2_resetSequence yX2_resetSequence, .initialized RX2, .code yX2_resetSequence cX2_resetSequence 2 none, .fieldLink RX2 36 "LoopSlicer$Loop" "sequence" "[I"] ++ wsX20)
def wsX2_removeMark : List Cond := .code yX2_removeMark cX2_removeMark 3 none :: ([.fieldLink RX2 15 "LoopSlicer$Loop" "markCount" "I", .fieldLink RX2 33 "LoopSlicer$Loop" "marks" "[I", .methodLink RX2 45 yX2_resetSequence, .instanceMethod yX2_resetSequence, .selects RX2 yX2_resetSequence yX2_resetSequence, .initialized RX2, .code yX2_resetSequence cX2_resetSequence 2 none, .fieldLink RX2 36 "LoopSlicer$Loop" "sequence" "[I"] ++ wsX20)
def wsX2_findRises : List Cond := .code yX2_findRises cX2_findRises 6 (some .int) :: ([.fieldLink RX2 9 "LoopSlicer$Loop" "frames" "I", .fieldLink RX2 18 "LoopSlicer$Loop" "energies" "[I", .fieldLink RX2 30 "LoopSlicer$Loop" "settings" "[I"] ++ wsX20)
def wsX3_init : List Cond := .code yX3_init cX3_init 3 none :: ([.methodLink RX3 3 objectInit, .instanceMethod objectInit, .code objectInit ⟨#[0xb1]⟩ 1 none, .arrayClass .int, .fieldLink RX3 9 "LoopSlicer$Result" "budgets" "[I", .arrayClass .long, .fieldLink RX3 15 "LoopSlicer$Result" "remainders" "[J", .fieldLink RX3 19 "LoopSlicer$Result" "loop" "LLoopSlicer$Loop;", .fieldLink RX3 23 "LoopSlicer$Result" "grid" "LLoopSlicer$Grid;"] ++ wsX30)
def wsX3_giveOne : List Cond := .code yX3_giveOne cX3_giveOne 3 none :: ([.fieldLink RX3 19 "LoopSlicer$Result" "loop" "LLoopSlicer$Loop;", .fieldLink RX3 41 "LoopSlicer$Loop" "markCount" "I", .fieldLink RX3 15 "LoopSlicer$Result" "remainders" "[J", .fieldLink RX3 9 "LoopSlicer$Result" "budgets" "[I", .constantLong RX3 61 (-1)] ++ wsX30 ++ wsX20)
def wsX3_shareFreely_r1 : List Cond := [Cond.fieldLink RX3 19 "LoopSlicer$Result" "loop" "LLoopSlicer$Loop;", Cond.fieldLink RX3 49 "LoopSlicer$Loop" "settings" "[I", Cond.fieldLink RX3 52 "LoopSlicer$Loop" "frames" "I", Cond.fieldLink RX3 41 "LoopSlicer$Loop" "markCount" "I", Cond.fieldLink RX3 9 "LoopSlicer$Result" "budgets" "[I", Cond.fieldLink RX3 15 "LoopSlicer$Result" "remainders" "[J", Cond.methodLink RX3 55 yX2_lengthOf, Cond.instanceMethod yX2_lengthOf, Cond.selects RX2 yX2_lengthOf yX2_lengthOf, Cond.initialized RX2, Cond.code yX2_lengthOf cX2_lengthOf 2 (some .int), Cond.fieldLink RX2 33 "LoopSlicer$Loop" "marks" "[I", Cond.fieldLink RX2 30 "LoopSlicer$Loop" "settings" "[I", Cond.methodLink RX2 48 yX2_endFrame, Cond.instanceMethod yX2_endFrame, Cond.selects RX2 yX2_endFrame yX2_endFrame, Cond.code yX2_endFrame cX2_endFrame 2 (some .int), Cond.fieldLink RX2 15 "LoopSlicer$Loop" "markCount" "I", Cond.fieldLink RX2 9 "LoopSlicer$Loop" "frames" "I", Cond.methodLink RX3 58 yX3_giveOne, Cond.instanceMethod yX3_giveOne, Cond.selects RX3 yX3_giveOne yX3_giveOne, Cond.initialized RX3, Cond.code yX3_giveOne cX3_giveOne 3 none]
def wsX3_shareFreely_r2 : List Cond := [Cond.constantLong RX3 61 (-1)]
def wsX3_shareFreely : List Cond := .code yX3_shareFreely cX3_shareFreely 9 none :: ((wsX3_shareFreely_r1 ++ wsX3_shareFreely_r2) ++ wsX30 ++ wsX20)
def wsX3_lay_r1 : List Cond := [Cond.fieldLink RX3 19 "LoopSlicer$Result" "loop" "LLoopSlicer$Loop;", Cond.fieldLink RX3 23 "LoopSlicer$Result" "grid" "LLoopSlicer$Grid;", Cond.fieldLink RX3 41 "LoopSlicer$Loop" "markCount" "I", Cond.fieldLink RX3 9 "LoopSlicer$Result" "budgets" "[I", Cond.methodLink RX3 27 yX2_isFree, Cond.instanceMethod yX2_isFree, Cond.selects RX2 yX2_isFree yX2_isFree, Cond.initialized RX2, Cond.code yX2_isFree cX2_isFree 1 (some .boolean), Cond.fieldLink RX2 30 "LoopSlicer$Loop" "settings" "[I", Cond.methodLink RX3 33 yX3_shareFreely, Cond.instanceMethod yX3_shareFreely, Cond.selects RX3 yX3_shareFreely yX3_shareFreely, Cond.initialized RX3, Cond.code yX3_shareFreely cX3_shareFreely 9 none, Cond.fieldLink RX3 49 "LoopSlicer$Loop" "settings" "[I", Cond.fieldLink RX3 52 "LoopSlicer$Loop" "frames" "I", Cond.fieldLink RX3 15 "LoopSlicer$Result" "remainders" "[J", Cond.methodLink RX3 55 yX2_lengthOf, Cond.instanceMethod yX2_lengthOf, Cond.selects RX2 yX2_lengthOf yX2_lengthOf, Cond.code yX2_lengthOf cX2_lengthOf 2 (some .int), Cond.fieldLink RX2 33 "LoopSlicer$Loop" "marks" "[I", Cond.methodLink RX2 48 yX2_endFrame]
def wsX3_lay_r2 : List Cond := [Cond.instanceMethod yX2_endFrame, Cond.selects RX2 yX2_endFrame yX2_endFrame, Cond.code yX2_endFrame cX2_endFrame 2 (some .int), Cond.fieldLink RX2 15 "LoopSlicer$Loop" "markCount" "I", Cond.fieldLink RX2 9 "LoopSlicer$Loop" "frames" "I", Cond.methodLink RX3 58 yX3_giveOne, Cond.instanceMethod yX3_giveOne, Cond.selects RX3 yX3_giveOne yX3_giveOne, Cond.code yX3_giveOne cX3_giveOne 3 none, Cond.constantLong RX3 61 (-1), Cond.methodLink RX3 36 yX0_draw, Cond.instanceMethod yX0_draw, Cond.selects RX0 yX0_draw yX0_draw, Cond.initialized RX0, Cond.code yX0_draw cX0_draw 3 (some .boolean), Cond.fieldLink RX0 27 "LoopSlicer$Grid" "loop" "LLoopSlicer$Loop;", Cond.fieldLink RX0 54 "LoopSlicer$Loop" "settings" "[I", Cond.fieldLink RX0 24 "LoopSlicer$Grid" "steps" "[I", Cond.fieldLink RX0 35 "LoopSlicer$Loop" "markCount" "I", Cond.methodLink RX0 31 yX0_leastSum, Cond.instanceMethod yX0_leastSum, Cond.selects RX0 yX0_leastSum yX0_leastSum, Cond.code yX0_leastSum cX0_leastSum 4 (some .int), Cond.fieldLink RX0 41 "LoopSlicer$Grid" "target" "I"]
def wsX3_lay_r3 : List Cond := [Cond.fieldLink RX0 44 "LoopSlicer$Grid" "lastStep" "I", Cond.fieldLink RX0 21 "LoopSlicer$Grid" "sums" "[I", Cond.methodLink RX0 47 yX0_measure, Cond.instanceMethod yX0_measure, Cond.selects RX0 yX0_measure yX0_measure, Cond.code yX0_measure cX0_measure 3 none, Cond.fieldLink RX0 11 "LoopSlicer$Grid" "positions" "[I", Cond.fieldLink RX0 15 "LoopSlicer$Grid" "least" "[I", Cond.fieldLink RX0 18 "LoopSlicer$Grid" "most" "[I", Cond.methodLink RX0 60 yX2_lengthOf, Cond.methodLink RX0 64 yX2_leastBudget, Cond.instanceMethod yX2_leastBudget, Cond.selects RX2 yX2_leastBudget yX2_leastBudget, Cond.code yX2_leastBudget cX2_leastBudget 2 (some .int), Cond.methodLink RX0 67 yX2_mostBudget, Cond.instanceMethod yX2_mostBudget, Cond.selects RX2 yX2_mostBudget yX2_mostBudget, Cond.code yX2_mostBudget cX2_mostBudget 2 (some .int), Cond.methodLink RX0 50 yX0_fillSums, Cond.instanceMethod yX0_fillSums, Cond.selects RX0 yX0_fillSums yX0_fillSums, Cond.code yX0_fillSums cX0_fillSums 7 (some .boolean), Cond.methodLink RX0 70 yX0_lastStepOf, Cond.instanceMethod yX0_lastStepOf]
def wsX3_lay_r4 : List Cond := [Cond.selects RX0 yX0_lastStepOf yX0_lastStepOf, Cond.code yX0_lastStepOf cX0_lastStepOf 2 (some .int), Cond.methodLink RX0 73 yX0_firstStepOf, Cond.instanceMethod yX0_firstStepOf, Cond.selects RX0 yX0_firstStepOf yX0_firstStepOf, Cond.code yX0_firstStepOf cX0_firstStepOf 2 (some .int), Cond.methodLink RX0 57 yX0_bestNext, Cond.instanceMethod yX0_bestNext, Cond.selects RX0 yX0_bestNext yX0_bestNext, Cond.code yX0_bestNext cX0_bestNext 9 (some .int), Cond.methodLink RX0 79 Lib.Math.max.name, Cond.static Lib.Math.max.name, Cond.initialized "java/lang/Math", Cond.code Lib.Math.max.name Lib.Math.max.code 2 (some .int), Cond.methodLink RX0 76 yX0_distance, Cond.instanceMethod yX0_distance, Cond.selects RX0 yX0_distance yX0_distance, Cond.code yX0_distance cX0_distance 3 (some .int), Cond.fieldLink RX0 84 "LoopSlicer$Loop" "frames" "I", Cond.fieldLink RX0 87 "LoopSlicer$Loop" "marks" "[I", Cond.methodLink RX0 90 Lib.Math.abs.name, Cond.static Lib.Math.abs.name, Cond.code Lib.Math.abs.name Lib.Math.abs.code 1 (some .int), Cond.methodLink RX3 45 yX0_budgetOf]
def wsX3_lay_r5 : List Cond := [Cond.instanceMethod yX0_budgetOf, Cond.selects RX0 yX0_budgetOf yX0_budgetOf, Cond.code yX0_budgetOf cX0_budgetOf 2 (some .int)]
def wsX3_lay : List Cond := .code yX3_lay cX3_lay 2 (some .boolean) :: ((wsX3_lay_r1 ++ (wsX3_lay_r2 ++ (wsX3_lay_r3 ++ (wsX3_lay_r4 ++ wsX3_lay_r5)))) ++ wsX30 ++ wsX20 ++ wsX00)
def wsX3_countBeyondLimits : List Cond := .code yX3_countBeyondLimits cX3_countBeyondLimits 5 (some .int) :: ([.fieldLink RX3 19 "LoopSlicer$Result" "loop" "LLoopSlicer$Loop;", .fieldLink RX3 41 "LoopSlicer$Loop" "markCount" "I", .fieldLink RX3 9 "LoopSlicer$Result" "budgets" "[I", .methodLink RX3 55 yX2_lengthOf, .instanceMethod yX2_lengthOf, .selects RX2 yX2_lengthOf yX2_lengthOf, .initialized RX2, .code yX2_lengthOf cX2_lengthOf 2 (some .int), .fieldLink RX2 33 "LoopSlicer$Loop" "marks" "[I", .fieldLink RX2 30 "LoopSlicer$Loop" "settings" "[I", .methodLink RX2 48 yX2_endFrame, .instanceMethod yX2_endFrame, .selects RX2 yX2_endFrame yX2_endFrame, .code yX2_endFrame cX2_endFrame 2 (some .int), .fieldLink RX2 15 "LoopSlicer$Loop" "markCount" "I", .fieldLink RX2 9 "LoopSlicer$Loop" "frames" "I", .methodLink RX3 63 yX2_leastBudget, .instanceMethod yX2_leastBudget, .selects RX2 yX2_leastBudget yX2_leastBudget, .code yX2_leastBudget cX2_leastBudget 2 (some .int), .methodLink RX3 66 yX2_mostBudget, .instanceMethod yX2_mostBudget, .selects RX2 yX2_mostBudget yX2_mostBudget, .code yX2_mostBudget cX2_mostBudget 2 (some .int)] ++ wsX30 ++ wsX20)
def wsX3_fadeAt : List Cond := .code yX3_fadeAt cX3_fadeAt 5 (some .int) :: ([.fieldLink RX3 19 "LoopSlicer$Result" "loop" "LLoopSlicer$Loop;", .fieldLink RX3 41 "LoopSlicer$Loop" "markCount" "I", .fieldLink RX3 9 "LoopSlicer$Result" "budgets" "[I", .fieldLink RX3 72 "LoopSlicer$Loop" "sequence" "[I", .fieldLink RX3 49 "LoopSlicer$Loop" "settings" "[I", .methodLink RX3 75 Lib.Math.min.name, .static Lib.Math.min.name, .initialized "java/lang/Math", .code Lib.Math.min.name Lib.Math.min.code 2 (some .int)] ++ wsX30 ++ wsX20)
def wsX3_sumFades : List Cond := .code yX3_sumFades cX3_sumFades 3 (some .int) :: ([.fieldLink RX3 19 "LoopSlicer$Result" "loop" "LLoopSlicer$Loop;", .fieldLink RX3 41 "LoopSlicer$Loop" "markCount" "I", .methodLink RX3 69 yX3_fadeAt, .instanceMethod yX3_fadeAt, .selects RX3 yX3_fadeAt yX3_fadeAt, .initialized RX3, .code yX3_fadeAt cX3_fadeAt 5 (some .int), .fieldLink RX3 9 "LoopSlicer$Result" "budgets" "[I", .fieldLink RX3 72 "LoopSlicer$Loop" "sequence" "[I", .fieldLink RX3 49 "LoopSlicer$Loop" "settings" "[I", .methodLink RX3 75 Lib.Math.min.name, .static Lib.Math.min.name, .initialized "java/lang/Math", .code Lib.Math.min.name Lib.Math.min.code 2 (some .int)] ++ wsX30 ++ wsX20)
def wsX3_beginOf : List Cond := .code yX3_beginOf cX3_beginOf 5 (some .int) :: ([.fieldLink RX3 19 "LoopSlicer$Result" "loop" "LLoopSlicer$Loop;", .fieldLink RX3 9 "LoopSlicer$Result" "budgets" "[I", .fieldLink RX3 72 "LoopSlicer$Loop" "sequence" "[I", .methodLink RX3 81 yX2_placeOf, .instanceMethod yX2_placeOf, .selects RX2 yX2_placeOf yX2_placeOf, .initialized RX2, .code yX2_placeOf cX2_placeOf 3 (some .int), .fieldLink RX2 15 "LoopSlicer$Loop" "markCount" "I", .fieldLink RX2 36 "LoopSlicer$Loop" "sequence" "[I"] ++ wsX30 ++ wsX20)
def wsX3_loopSample : List Cond := .code yX3_loopSample cX3_loopSample 5 (some .int) :: ([.fieldLink RX3 19 "LoopSlicer$Result" "loop" "LLoopSlicer$Loop;", .fieldLink RX3 9 "LoopSlicer$Result" "budgets" "[I", .methodLink RX3 55 yX2_lengthOf, .instanceMethod yX2_lengthOf, .selects RX2 yX2_lengthOf yX2_lengthOf, .initialized RX2, .code yX2_lengthOf cX2_lengthOf 2 (some .int), .fieldLink RX2 33 "LoopSlicer$Loop" "marks" "[I", .fieldLink RX2 30 "LoopSlicer$Loop" "settings" "[I", .methodLink RX2 48 yX2_endFrame, .instanceMethod yX2_endFrame, .selects RX2 yX2_endFrame yX2_endFrame, .code yX2_endFrame cX2_endFrame 2 (some .int), .fieldLink RX2 15 "LoopSlicer$Loop" "markCount" "I", .fieldLink RX2 9 "LoopSlicer$Loop" "frames" "I"] ++ wsX30 ++ wsX20)
def wsX3_originOf_r1 : List Cond := [Cond.fieldLink RX3 19 "LoopSlicer$Result" "loop" "LLoopSlicer$Loop;", Cond.fieldLink RX3 72 "LoopSlicer$Loop" "sequence" "[I", Cond.fieldLink RX3 84 "LoopSlicer$Loop" "marks" "[I", Cond.fieldLink RX3 49 "LoopSlicer$Loop" "settings" "[I", Cond.fieldLink RX3 9 "LoopSlicer$Result" "budgets" "[I", Cond.methodLink RX3 87 yX3_loopSample, Cond.instanceMethod yX3_loopSample, Cond.selects RX3 yX3_loopSample yX3_loopSample, Cond.initialized RX3, Cond.code yX3_loopSample cX3_loopSample 5 (some .int), Cond.methodLink RX3 55 yX2_lengthOf, Cond.instanceMethod yX2_lengthOf, Cond.selects RX2 yX2_lengthOf yX2_lengthOf, Cond.initialized RX2, Cond.code yX2_lengthOf cX2_lengthOf 2 (some .int), Cond.fieldLink RX2 33 "LoopSlicer$Loop" "marks" "[I", Cond.fieldLink RX2 30 "LoopSlicer$Loop" "settings" "[I", Cond.methodLink RX2 48 yX2_endFrame, Cond.instanceMethod yX2_endFrame, Cond.selects RX2 yX2_endFrame yX2_endFrame, Cond.code yX2_endFrame cX2_endFrame 2 (some .int), Cond.fieldLink RX2 15 "LoopSlicer$Loop" "markCount" "I", Cond.fieldLink RX2 9 "LoopSlicer$Loop" "frames" "I", Cond.methodLink RX3 69 yX3_fadeAt]
def wsX3_originOf_r2 : List Cond := [Cond.instanceMethod yX3_fadeAt, Cond.selects RX3 yX3_fadeAt yX3_fadeAt, Cond.code yX3_fadeAt cX3_fadeAt 5 (some .int), Cond.fieldLink RX3 41 "LoopSlicer$Loop" "markCount" "I", Cond.methodLink RX3 75 Lib.Math.min.name, Cond.static Lib.Math.min.name, Cond.initialized "java/lang/Math", Cond.code Lib.Math.min.name Lib.Math.min.code 2 (some .int)]
def wsX3_originOf : List Cond := .code yX3_originOf cX3_originOf 5 (some .int) :: ((wsX3_originOf_r1 ++ wsX3_originOf_r2) ++ wsX30 ++ wsX20)
def wsX4_init_r1 : List Cond := [Cond.methodLink RX4 1 objectInit, Cond.instanceMethod objectInit, Cond.code objectInit ⟨#[0xb1]⟩ 1 none, Cond.classLink RX4 7 RX2, Cond.instantiable RX2 6, Cond.initialized RX2, Cond.fieldLink RX4 10 "LoopSlicer" "loop" "LLoopSlicer$Loop;", Cond.classLink RX4 16 RX0, Cond.instantiable RX0 8, Cond.initialized RX0, Cond.fieldLink RX4 21 "LoopSlicer" "grid" "LLoopSlicer$Grid;", Cond.classLink RX4 25 RX3, Cond.instantiable RX3 4, Cond.initialized RX3, Cond.fieldLink RX4 30 "LoopSlicer" "result" "LLoopSlicer$Result;", Cond.classLink RX4 34 RX1, Cond.instantiable RX1 3, Cond.initialized RX1, Cond.fieldLink RX4 37 "LoopSlicer" "history" "LLoopSlicer$History;", Cond.fieldLink RX4 41 "LoopSlicer" "images" "[LLoopSlicer$Loop;", Cond.arrayClass .boolean, Cond.fieldLink RX4 45 "LoopSlicer" "kept" "[Z", Cond.arrayClass .int, Cond.fieldLink RX4 49 "LoopSlicer" "wouldBeMarks" "[I"]
def wsX4_init_r2 : List Cond := [Cond.instanceMethod yX2_init, Cond.code yX2_init cX2_init 1 none, Cond.methodLink RX2 3 objectInit, Cond.fieldLink RX2 9 "LoopSlicer$Loop" "frames" "I", Cond.fieldLink RX2 15 "LoopSlicer$Loop" "markCount" "I", Cond.fieldLink RX2 18 "LoopSlicer$Loop" "energies" "[I", Cond.methodLink RX2 25 ⟨"[I", "clone", "()Ljava/lang/Object;"⟩, Cond.sameMethod "[I" "java/lang/Object" "clone" "()Ljava/lang/Object;", Cond.native ⟨"java/lang/Object", "clone", "()Ljava/lang/Object;"⟩, Cond.instanceMethod ⟨"java/lang/Object", "clone", "()Ljava/lang/Object;"⟩, Cond.selects "[I" ⟨"[I", "clone", "()Ljava/lang/Object;"⟩ ⟨"java/lang/Object", "clone", "()Ljava/lang/Object;"⟩, Cond.classLink RX2 26 "[I", Cond.fieldLink RX2 30 "LoopSlicer$Loop" "settings" "[I", Cond.fieldLink RX2 33 "LoopSlicer$Loop" "marks" "[I", Cond.fieldLink RX2 36 "LoopSlicer$Loop" "sequence" "[I", Cond.methodLink RX4 18 yX0_init, Cond.instanceMethod yX0_init, Cond.code yX0_init cX0_init 2 none, Cond.methodLink RX0 3 objectInit, Cond.fieldLink RX0 11 "LoopSlicer$Grid" "positions" "[I", Cond.fieldLink RX0 15 "LoopSlicer$Grid" "least" "[I", Cond.fieldLink RX0 18 "LoopSlicer$Grid" "most" "[I", Cond.fieldLink RX0 21 "LoopSlicer$Grid" "sums" "[I", Cond.fieldLink RX0 24 "LoopSlicer$Grid" "steps" "[I"]
def wsX4_init_r3 : List Cond := [Cond.fieldLink RX0 27 "LoopSlicer$Grid" "loop" "LLoopSlicer$Loop;", Cond.methodLink RX4 27 yX3_init, Cond.instanceMethod yX3_init, Cond.code yX3_init cX3_init 3 none, Cond.methodLink RX3 3 objectInit, Cond.fieldLink RX3 9 "LoopSlicer$Result" "budgets" "[I", Cond.arrayClass .long, Cond.fieldLink RX3 15 "LoopSlicer$Result" "remainders" "[J", Cond.fieldLink RX3 19 "LoopSlicer$Result" "loop" "LLoopSlicer$Loop;", Cond.fieldLink RX3 23 "LoopSlicer$Result" "grid" "LLoopSlicer$Grid;", Cond.methodLink RX4 36 yX1_init, Cond.instanceMethod yX1_init, Cond.code yX1_init cX1_init 2 none, Cond.methodLink RX1 3 objectInit, Cond.classLink RX1 9 RX2, Cond.fieldLink RX1 11 "LoopSlicer$History" "states" "[LLoopSlicer$Loop;"]
def wsX4_init : List Cond := .code yX4_init cX4_init 2 none :: ((wsX4_init_r1 ++ (wsX4_init_r2 ++ wsX4_init_r3)) ++ wsX20 ++ wsX40 ++ wsX00 ++ wsX30 ++ wsX10)
def wsX4_begin_r1 : List Cond := [Cond.fieldLink RX4 37 "LoopSlicer" "history" "LLoopSlicer$History;", Cond.fieldLink RX4 10 "LoopSlicer" "loop" "LLoopSlicer$Loop;", Cond.fieldLink RX4 56 "LoopSlicer$Loop" "frames" "I", Cond.methodLink RX4 53 yX1_push, Cond.instanceMethod yX1_push, Cond.selects RX1 yX1_push yX1_push, Cond.initialized RX1, Cond.code yX1_push cX1_push 2 none, Cond.fieldLink RX1 18 "LoopSlicer$History" "newest" "I", Cond.fieldLink RX1 11 "LoopSlicer$History" "states" "[LLoopSlicer$Loop;", Cond.fieldLink RX1 26 "LoopSlicer$History" "size" "I", Cond.methodLink RX1 22 yX2_copy, Cond.instanceMethod yX2_copy, Cond.selects RX2 yX2_copy yX2_copy, Cond.initialized RX2, Cond.code yX2_copy cX2_copy 2 none, Cond.fieldLink RX2 9 "LoopSlicer$Loop" "frames" "I", Cond.fieldLink RX2 15 "LoopSlicer$Loop" "markCount" "I", Cond.fieldLink RX2 18 "LoopSlicer$Loop" "energies" "[I", Cond.methodLink RX2 39 arraycopyName, Cond.native arraycopyName, Cond.static arraycopyName, Cond.initialized "java/lang/System", Cond.fieldLink RX2 30 "LoopSlicer$Loop" "settings" "[I"]
def wsX4_begin_r2 : List Cond := [Cond.fieldLink RX2 33 "LoopSlicer$Loop" "marks" "[I", Cond.fieldLink RX2 36 "LoopSlicer$Loop" "sequence" "[I", Cond.methodLink RX4 60 yX2_clear, Cond.instanceMethod yX2_clear, Cond.selects RX2 yX2_clear yX2_clear, Cond.code yX2_clear cX2_clear 3 none, Cond.methodLink RX2 45 yX2_resetSequence, Cond.instanceMethod yX2_resetSequence, Cond.selects RX2 yX2_resetSequence yX2_resetSequence, Cond.code yX2_resetSequence cX2_resetSequence 2 none]
def wsX4_begin : List Cond := .code yX4_begin cX4_begin 3 (some .int) :: ((wsX4_begin_r1 ++ wsX4_begin_r2) ++ wsX40 ++ wsX20 ++ wsX10)
def wsX4_sound_r1 : List Cond := [Cond.fieldLink RX4 10 "LoopSlicer" "loop" "LLoopSlicer$Loop;", Cond.fieldLink RX4 37 "LoopSlicer" "history" "LLoopSlicer$History;", Cond.fieldLink RX4 68 "LoopSlicer$Loop" "energies" "[I", Cond.methodLink RX4 64 yX2_isFrame, Cond.instanceMethod yX2_isFrame, Cond.selects RX2 yX2_isFrame yX2_isFrame, Cond.initialized RX2, Cond.code yX2_isFrame cX2_isFrame 2 (some .boolean), Cond.fieldLink RX2 9 "LoopSlicer$Loop" "frames" "I", Cond.methodLink RX4 53 yX1_push, Cond.instanceMethod yX1_push, Cond.selects RX1 yX1_push yX1_push, Cond.initialized RX1, Cond.code yX1_push cX1_push 2 none, Cond.fieldLink RX1 18 "LoopSlicer$History" "newest" "I", Cond.fieldLink RX1 11 "LoopSlicer$History" "states" "[LLoopSlicer$Loop;", Cond.fieldLink RX1 26 "LoopSlicer$History" "size" "I", Cond.methodLink RX1 22 yX2_copy, Cond.instanceMethod yX2_copy, Cond.selects RX2 yX2_copy yX2_copy, Cond.code yX2_copy cX2_copy 2 none, Cond.fieldLink RX2 15 "LoopSlicer$Loop" "markCount" "I", Cond.fieldLink RX2 18 "LoopSlicer$Loop" "energies" "[I", Cond.methodLink RX2 39 arraycopyName]
def wsX4_sound_r2 : List Cond := [Cond.native arraycopyName, Cond.static arraycopyName, Cond.initialized "java/lang/System", Cond.fieldLink RX2 30 "LoopSlicer$Loop" "settings" "[I", Cond.fieldLink RX2 33 "LoopSlicer$Loop" "marks" "[I", Cond.fieldLink RX2 36 "LoopSlicer$Loop" "sequence" "[I"]
def wsX4_sound : List Cond := .code yX4_sound cX4_sound 6 (some .int) :: ((wsX4_sound_r1 ++ wsX4_sound_r2) ++ wsX40 ++ wsX20 ++ wsX10)
def wsX4_isSetting : List Cond := .code yX4_isSetting cX4_isSetting 1 (some .boolean) :: ([])
def wsX4_set_r1 : List Cond := [Cond.fieldLink RX4 74 "LoopSlicer" "LEAST_VALUES" "[I", Cond.fieldLink RX4 77 "LoopSlicer" "MOST_VALUES" "[I", Cond.fieldLink RX4 37 "LoopSlicer" "history" "LLoopSlicer$History;", Cond.fieldLink RX4 10 "LoopSlicer" "loop" "LLoopSlicer$Loop;", Cond.fieldLink RX4 80 "LoopSlicer$Loop" "settings" "[I", Cond.methodLink RX4 71 yX4_isSetting, Cond.static yX4_isSetting, Cond.initialized RX4, Cond.code yX4_isSetting cX4_isSetting 1 (some .boolean), Cond.methodLink RX4 53 yX1_push, Cond.instanceMethod yX1_push, Cond.selects RX1 yX1_push yX1_push, Cond.initialized RX1, Cond.code yX1_push cX1_push 2 none, Cond.fieldLink RX1 18 "LoopSlicer$History" "newest" "I", Cond.fieldLink RX1 11 "LoopSlicer$History" "states" "[LLoopSlicer$Loop;", Cond.fieldLink RX1 26 "LoopSlicer$History" "size" "I", Cond.methodLink RX1 22 yX2_copy, Cond.instanceMethod yX2_copy, Cond.selects RX2 yX2_copy yX2_copy, Cond.initialized RX2, Cond.code yX2_copy cX2_copy 2 none, Cond.fieldLink RX2 9 "LoopSlicer$Loop" "frames" "I", Cond.fieldLink RX2 15 "LoopSlicer$Loop" "markCount" "I"]
def wsX4_set_r2 : List Cond := [Cond.fieldLink RX2 18 "LoopSlicer$Loop" "energies" "[I", Cond.methodLink RX2 39 arraycopyName, Cond.native arraycopyName, Cond.static arraycopyName, Cond.initialized "java/lang/System", Cond.fieldLink RX2 30 "LoopSlicer$Loop" "settings" "[I", Cond.fieldLink RX2 33 "LoopSlicer$Loop" "marks" "[I", Cond.fieldLink RX2 36 "LoopSlicer$Loop" "sequence" "[I"]
def wsX4_set : List Cond := .code yX4_set cX4_set 4 (some .int) :: ((wsX4_set_r1 ++ wsX4_set_r2) ++ wsX40 ++ wsX20 ++ wsX10)
def wsX4_find_r1 : List Cond := [Cond.fieldLink RX4 37 "LoopSlicer" "history" "LLoopSlicer$History;", Cond.fieldLink RX4 10 "LoopSlicer" "loop" "LLoopSlicer$Loop;", Cond.fieldLink RX4 80 "LoopSlicer$Loop" "settings" "[I", Cond.fieldLink RX4 83 "LoopSlicer$Loop" "marks" "[I", Cond.fieldLink RX4 90 "LoopSlicer$Loop" "markCount" "I", Cond.methodLink RX4 53 yX1_push, Cond.instanceMethod yX1_push, Cond.selects RX1 yX1_push yX1_push, Cond.initialized RX1, Cond.code yX1_push cX1_push 2 none, Cond.fieldLink RX1 18 "LoopSlicer$History" "newest" "I", Cond.fieldLink RX1 11 "LoopSlicer$History" "states" "[LLoopSlicer$Loop;", Cond.fieldLink RX1 26 "LoopSlicer$History" "size" "I", Cond.methodLink RX1 22 yX2_copy, Cond.instanceMethod yX2_copy, Cond.selects RX2 yX2_copy yX2_copy, Cond.initialized RX2, Cond.code yX2_copy cX2_copy 2 none, Cond.fieldLink RX2 9 "LoopSlicer$Loop" "frames" "I", Cond.fieldLink RX2 15 "LoopSlicer$Loop" "markCount" "I", Cond.fieldLink RX2 18 "LoopSlicer$Loop" "energies" "[I", Cond.methodLink RX2 39 arraycopyName, Cond.native arraycopyName, Cond.static arraycopyName]
def wsX4_find_r2 : List Cond := [Cond.initialized "java/lang/System", Cond.fieldLink RX2 30 "LoopSlicer$Loop" "settings" "[I", Cond.fieldLink RX2 33 "LoopSlicer$Loop" "marks" "[I", Cond.fieldLink RX2 36 "LoopSlicer$Loop" "sequence" "[I", Cond.methodLink RX4 86 yX2_findRises, Cond.instanceMethod yX2_findRises, Cond.selects RX2 yX2_findRises yX2_findRises, Cond.code yX2_findRises cX2_findRises 6 (some .int), Cond.methodLink RX4 93 yX2_resetSequence, Cond.instanceMethod yX2_resetSequence, Cond.selects RX2 yX2_resetSequence yX2_resetSequence, Cond.code yX2_resetSequence cX2_resetSequence 2 none]
def wsX4_find : List Cond := .code yX4_find cX4_find 1 (some .int) :: ((wsX4_find_r1 ++ wsX4_find_r2) ++ wsX40 ++ wsX20 ++ wsX10)
def wsX4_mark_r1 : List Cond := [Cond.fieldLink RX4 10 "LoopSlicer" "loop" "LLoopSlicer$Loop;", Cond.fieldLink RX4 83 "LoopSlicer$Loop" "marks" "[I", Cond.fieldLink RX4 90 "LoopSlicer$Loop" "markCount" "I", Cond.fieldLink RX4 37 "LoopSlicer" "history" "LLoopSlicer$History;", Cond.methodLink RX4 64 yX2_isFrame, Cond.instanceMethod yX2_isFrame, Cond.selects RX2 yX2_isFrame yX2_isFrame, Cond.initialized RX2, Cond.code yX2_isFrame cX2_isFrame 2 (some .boolean), Cond.fieldLink RX2 9 "LoopSlicer$Loop" "frames" "I", Cond.methodLink RX4 96 yX2_marksBefore, Cond.instanceMethod yX2_marksBefore, Cond.selects RX2 yX2_marksBefore yX2_marksBefore, Cond.code yX2_marksBefore cX2_marksBefore 3 (some .int), Cond.fieldLink RX2 15 "LoopSlicer$Loop" "markCount" "I", Cond.fieldLink RX2 33 "LoopSlicer$Loop" "marks" "[I", Cond.methodLink RX4 100 yX2_isSlice, Cond.instanceMethod yX2_isSlice, Cond.selects RX2 yX2_isSlice yX2_isSlice, Cond.code yX2_isSlice cX2_isSlice 2 (some .boolean), Cond.methodLink RX4 53 yX1_push, Cond.instanceMethod yX1_push, Cond.selects RX1 yX1_push yX1_push, Cond.initialized RX1]
def wsX4_mark_r2 : List Cond := [Cond.code yX1_push cX1_push 2 none, Cond.fieldLink RX1 18 "LoopSlicer$History" "newest" "I", Cond.fieldLink RX1 11 "LoopSlicer$History" "states" "[LLoopSlicer$Loop;", Cond.fieldLink RX1 26 "LoopSlicer$History" "size" "I", Cond.methodLink RX1 22 yX2_copy, Cond.instanceMethod yX2_copy, Cond.selects RX2 yX2_copy yX2_copy, Cond.code yX2_copy cX2_copy 2 none, Cond.fieldLink RX2 18 "LoopSlicer$Loop" "energies" "[I", Cond.methodLink RX2 39 arraycopyName, Cond.native arraycopyName, Cond.static arraycopyName, Cond.initialized "java/lang/System", Cond.fieldLink RX2 30 "LoopSlicer$Loop" "settings" "[I", Cond.fieldLink RX2 36 "LoopSlicer$Loop" "sequence" "[I", Cond.methodLink RX4 103 yX2_insertMark, Cond.instanceMethod yX2_insertMark, Cond.selects RX2 yX2_insertMark yX2_insertMark, Cond.code yX2_insertMark cX2_insertMark 4 none, Cond.methodLink RX2 45 yX2_resetSequence, Cond.instanceMethod yX2_resetSequence, Cond.selects RX2 yX2_resetSequence yX2_resetSequence, Cond.code yX2_resetSequence cX2_resetSequence 2 none]
def wsX4_mark : List Cond := .code yX4_mark cX4_mark 3 (some .int) :: ((wsX4_mark_r1 ++ wsX4_mark_r2) ++ wsX40 ++ wsX20 ++ wsX10)
def wsX4_isMovable : List Cond := .code yX4_isMovable cX4_isMovable 2 (some .boolean) :: ([.fieldLink RX4 10 "LoopSlicer" "loop" "LLoopSlicer$Loop;", .methodLink RX4 100 yX2_isSlice, .instanceMethod yX2_isSlice, .selects RX2 yX2_isSlice yX2_isSlice, .initialized RX2, .code yX2_isSlice cX2_isSlice 2 (some .boolean), .fieldLink RX2 15 "LoopSlicer$Loop" "markCount" "I"] ++ wsX40 ++ wsX20)
def wsX4_unmark_r1 : List Cond := [Cond.fieldLink RX4 37 "LoopSlicer" "history" "LLoopSlicer$History;", Cond.fieldLink RX4 10 "LoopSlicer" "loop" "LLoopSlicer$Loop;", Cond.fieldLink RX4 90 "LoopSlicer$Loop" "markCount" "I", Cond.methodLink RX4 107 yX4_isMovable, Cond.instanceMethod yX4_isMovable, Cond.selects RX4 yX4_isMovable yX4_isMovable, Cond.initialized RX4, Cond.code yX4_isMovable cX4_isMovable 2 (some .boolean), Cond.methodLink RX4 100 yX2_isSlice, Cond.instanceMethod yX2_isSlice, Cond.selects RX2 yX2_isSlice yX2_isSlice, Cond.initialized RX2, Cond.code yX2_isSlice cX2_isSlice 2 (some .boolean), Cond.fieldLink RX2 15 "LoopSlicer$Loop" "markCount" "I", Cond.methodLink RX4 53 yX1_push, Cond.instanceMethod yX1_push, Cond.selects RX1 yX1_push yX1_push, Cond.initialized RX1, Cond.code yX1_push cX1_push 2 none, Cond.fieldLink RX1 18 "LoopSlicer$History" "newest" "I", Cond.fieldLink RX1 11 "LoopSlicer$History" "states" "[LLoopSlicer$Loop;", Cond.fieldLink RX1 26 "LoopSlicer$History" "size" "I", Cond.methodLink RX1 22 yX2_copy, Cond.instanceMethod yX2_copy]
def wsX4_unmark_r2 : List Cond := [Cond.selects RX2 yX2_copy yX2_copy, Cond.code yX2_copy cX2_copy 2 none, Cond.fieldLink RX2 9 "LoopSlicer$Loop" "frames" "I", Cond.fieldLink RX2 18 "LoopSlicer$Loop" "energies" "[I", Cond.methodLink RX2 39 arraycopyName, Cond.native arraycopyName, Cond.static arraycopyName, Cond.initialized "java/lang/System", Cond.fieldLink RX2 30 "LoopSlicer$Loop" "settings" "[I", Cond.fieldLink RX2 33 "LoopSlicer$Loop" "marks" "[I", Cond.fieldLink RX2 36 "LoopSlicer$Loop" "sequence" "[I", Cond.methodLink RX4 110 yX2_removeMark, Cond.instanceMethod yX2_removeMark, Cond.selects RX2 yX2_removeMark yX2_removeMark, Cond.code yX2_removeMark cX2_removeMark 3 none, Cond.methodLink RX2 45 yX2_resetSequence, Cond.instanceMethod yX2_resetSequence, Cond.selects RX2 yX2_resetSequence yX2_resetSequence, Cond.code yX2_resetSequence cX2_resetSequence 2 none]
def wsX4_unmark : List Cond := .code yX4_unmark cX4_unmark 2 (some .int) :: ((wsX4_unmark_r1 ++ wsX4_unmark_r2) ++ wsX40 ++ wsX20 ++ wsX10)
def wsX4_moveMark_r1 : List Cond := [Cond.fieldLink RX4 10 "LoopSlicer" "loop" "LLoopSlicer$Loop;", Cond.fieldLink RX4 83 "LoopSlicer$Loop" "marks" "[I", Cond.fieldLink RX4 37 "LoopSlicer" "history" "LLoopSlicer$History;", Cond.methodLink RX4 107 yX4_isMovable, Cond.instanceMethod yX4_isMovable, Cond.selects RX4 yX4_isMovable yX4_isMovable, Cond.initialized RX4, Cond.code yX4_isMovable cX4_isMovable 2 (some .boolean), Cond.methodLink RX4 100 yX2_isSlice, Cond.instanceMethod yX2_isSlice, Cond.selects RX2 yX2_isSlice yX2_isSlice, Cond.initialized RX2, Cond.code yX2_isSlice cX2_isSlice 2 (some .boolean), Cond.fieldLink RX2 15 "LoopSlicer$Loop" "markCount" "I", Cond.methodLink RX4 64 yX2_isFrame, Cond.instanceMethod yX2_isFrame, Cond.selects RX2 yX2_isFrame yX2_isFrame, Cond.code yX2_isFrame cX2_isFrame 2 (some .boolean), Cond.fieldLink RX2 9 "LoopSlicer$Loop" "frames" "I", Cond.methodLink RX4 113 yX2_endFrame, Cond.instanceMethod yX2_endFrame, Cond.selects RX2 yX2_endFrame yX2_endFrame, Cond.code yX2_endFrame cX2_endFrame 2 (some .int), Cond.fieldLink RX2 33 "LoopSlicer$Loop" "marks" "[I"]
def wsX4_moveMark_r2 : List Cond := [Cond.methodLink RX4 53 yX1_push, Cond.instanceMethod yX1_push, Cond.selects RX1 yX1_push yX1_push, Cond.initialized RX1, Cond.code yX1_push cX1_push 2 none, Cond.fieldLink RX1 18 "LoopSlicer$History" "newest" "I", Cond.fieldLink RX1 11 "LoopSlicer$History" "states" "[LLoopSlicer$Loop;", Cond.fieldLink RX1 26 "LoopSlicer$History" "size" "I", Cond.methodLink RX1 22 yX2_copy, Cond.instanceMethod yX2_copy, Cond.selects RX2 yX2_copy yX2_copy, Cond.code yX2_copy cX2_copy 2 none, Cond.fieldLink RX2 18 "LoopSlicer$Loop" "energies" "[I", Cond.methodLink RX2 39 arraycopyName, Cond.native arraycopyName, Cond.static arraycopyName, Cond.initialized "java/lang/System", Cond.fieldLink RX2 30 "LoopSlicer$Loop" "settings" "[I", Cond.fieldLink RX2 36 "LoopSlicer$Loop" "sequence" "[I"]
def wsX4_moveMark : List Cond := .code yX4_moveMark cX4_moveMark 4 (some .int) :: ((wsX4_moveMark_r1 ++ wsX4_moveMark_r2) ++ wsX40 ++ wsX20 ++ wsX10)
def wsX4_swap_r1 : List Cond := [Cond.fieldLink RX4 10 "LoopSlicer" "loop" "LLoopSlicer$Loop;", Cond.fieldLink RX4 37 "LoopSlicer" "history" "LLoopSlicer$History;", Cond.fieldLink RX4 119 "LoopSlicer$Loop" "sequence" "[I", Cond.methodLink RX4 100 yX2_isSlice, Cond.instanceMethod yX2_isSlice, Cond.selects RX2 yX2_isSlice yX2_isSlice, Cond.initialized RX2, Cond.code yX2_isSlice cX2_isSlice 2 (some .boolean), Cond.fieldLink RX2 15 "LoopSlicer$Loop" "markCount" "I", Cond.methodLink RX4 53 yX1_push, Cond.instanceMethod yX1_push, Cond.selects RX1 yX1_push yX1_push, Cond.initialized RX1, Cond.code yX1_push cX1_push 2 none, Cond.fieldLink RX1 18 "LoopSlicer$History" "newest" "I", Cond.fieldLink RX1 11 "LoopSlicer$History" "states" "[LLoopSlicer$Loop;", Cond.fieldLink RX1 26 "LoopSlicer$History" "size" "I", Cond.methodLink RX1 22 yX2_copy, Cond.instanceMethod yX2_copy, Cond.selects RX2 yX2_copy yX2_copy, Cond.code yX2_copy cX2_copy 2 none, Cond.fieldLink RX2 9 "LoopSlicer$Loop" "frames" "I", Cond.fieldLink RX2 18 "LoopSlicer$Loop" "energies" "[I", Cond.methodLink RX2 39 arraycopyName]
def wsX4_swap_r2 : List Cond := [Cond.native arraycopyName, Cond.static arraycopyName, Cond.initialized "java/lang/System", Cond.fieldLink RX2 30 "LoopSlicer$Loop" "settings" "[I", Cond.fieldLink RX2 33 "LoopSlicer$Loop" "marks" "[I", Cond.fieldLink RX2 36 "LoopSlicer$Loop" "sequence" "[I", Cond.methodLink RX4 116 yX2_exchange, Cond.instanceMethod yX2_exchange, Cond.selects RX2 yX2_exchange yX2_exchange, Cond.code yX2_exchange cX2_exchange 4 none]
def wsX4_swap : List Cond := .code yX4_swap cX4_swap 3 (some .int) :: ((wsX4_swap_r1 ++ wsX4_swap_r2) ++ wsX40 ++ wsX20 ++ wsX10)
def wsX4_reverse_r1 : List Cond := [Cond.fieldLink RX4 37 "LoopSlicer" "history" "LLoopSlicer$History;", Cond.fieldLink RX4 10 "LoopSlicer" "loop" "LLoopSlicer$Loop;", Cond.fieldLink RX4 90 "LoopSlicer$Loop" "markCount" "I", Cond.fieldLink RX4 119 "LoopSlicer$Loop" "sequence" "[I", Cond.methodLink RX4 53 yX1_push, Cond.instanceMethod yX1_push, Cond.selects RX1 yX1_push yX1_push, Cond.initialized RX1, Cond.code yX1_push cX1_push 2 none, Cond.fieldLink RX1 18 "LoopSlicer$History" "newest" "I", Cond.fieldLink RX1 11 "LoopSlicer$History" "states" "[LLoopSlicer$Loop;", Cond.fieldLink RX1 26 "LoopSlicer$History" "size" "I", Cond.methodLink RX1 22 yX2_copy, Cond.instanceMethod yX2_copy, Cond.selects RX2 yX2_copy yX2_copy, Cond.initialized RX2, Cond.code yX2_copy cX2_copy 2 none, Cond.fieldLink RX2 9 "LoopSlicer$Loop" "frames" "I", Cond.fieldLink RX2 15 "LoopSlicer$Loop" "markCount" "I", Cond.fieldLink RX2 18 "LoopSlicer$Loop" "energies" "[I", Cond.methodLink RX2 39 arraycopyName, Cond.native arraycopyName, Cond.static arraycopyName, Cond.initialized "java/lang/System"]
def wsX4_reverse_r2 : List Cond := [Cond.fieldLink RX2 30 "LoopSlicer$Loop" "settings" "[I", Cond.fieldLink RX2 33 "LoopSlicer$Loop" "marks" "[I", Cond.fieldLink RX2 36 "LoopSlicer$Loop" "sequence" "[I", Cond.methodLink RX4 116 yX2_exchange, Cond.instanceMethod yX2_exchange, Cond.selects RX2 yX2_exchange yX2_exchange, Cond.code yX2_exchange cX2_exchange 4 none]
def wsX4_reverse : List Cond := .code yX4_reverse cX4_reverse 2 (some .int) :: ((wsX4_reverse_r1 ++ wsX4_reverse_r2) ++ wsX40 ++ wsX20 ++ wsX10)
def wsX4_undo_r1 : List Cond := [Cond.fieldLink RX4 37 "LoopSlicer" "history" "LLoopSlicer$History;", Cond.fieldLink RX4 122 "LoopSlicer$History" "size" "I", Cond.fieldLink RX4 10 "LoopSlicer" "loop" "LLoopSlicer$Loop;", Cond.methodLink RX4 125 yX1_pop, Cond.instanceMethod yX1_pop, Cond.selects RX1 yX1_pop yX1_pop, Cond.initialized RX1, Cond.code yX1_pop cX1_pop 2 none, Cond.fieldLink RX1 11 "LoopSlicer$History" "states" "[LLoopSlicer$Loop;", Cond.fieldLink RX1 18 "LoopSlicer$History" "newest" "I", Cond.fieldLink RX1 26 "LoopSlicer$History" "size" "I", Cond.methodLink RX1 22 yX2_copy, Cond.instanceMethod yX2_copy, Cond.selects RX2 yX2_copy yX2_copy, Cond.initialized RX2, Cond.code yX2_copy cX2_copy 2 none, Cond.fieldLink RX2 9 "LoopSlicer$Loop" "frames" "I", Cond.fieldLink RX2 15 "LoopSlicer$Loop" "markCount" "I", Cond.fieldLink RX2 18 "LoopSlicer$Loop" "energies" "[I", Cond.methodLink RX2 39 arraycopyName, Cond.native arraycopyName, Cond.static arraycopyName, Cond.initialized "java/lang/System", Cond.fieldLink RX2 30 "LoopSlicer$Loop" "settings" "[I"]
def wsX4_undo_r2 : List Cond := [Cond.fieldLink RX2 33 "LoopSlicer$Loop" "marks" "[I", Cond.fieldLink RX2 36 "LoopSlicer$Loop" "sequence" "[I"]
def wsX4_undo : List Cond := .code yX4_undo cX4_undo 1 (some .int) :: ((wsX4_undo_r1 ++ wsX4_undo_r2) ++ wsX40 ++ wsX10 ++ wsX20)
def wsX4_told_r1 : List Cond := [Cond.fieldLink RX4 10 "LoopSlicer" "loop" "LLoopSlicer$Loop;", Cond.fieldLink RX4 56 "LoopSlicer$Loop" "frames" "I", Cond.fieldLink RX4 80 "LoopSlicer$Loop" "settings" "[I", Cond.fieldLink RX4 90 "LoopSlicer$Loop" "markCount" "I", Cond.fieldLink RX4 30 "LoopSlicer" "result" "LLoopSlicer$Result;", Cond.fieldLink RX4 37 "LoopSlicer" "history" "LLoopSlicer$History;", Cond.fieldLink RX4 122 "LoopSlicer$History" "size" "I", Cond.methodLink RX4 128 yX3_lay, Cond.instanceMethod yX3_lay, Cond.selects RX3 yX3_lay yX3_lay, Cond.initialized RX3, Cond.code yX3_lay cX3_lay 2 (some .boolean), Cond.fieldLink RX3 19 "LoopSlicer$Result" "loop" "LLoopSlicer$Loop;", Cond.fieldLink RX3 23 "LoopSlicer$Result" "grid" "LLoopSlicer$Grid;", Cond.fieldLink RX3 41 "LoopSlicer$Loop" "markCount" "I", Cond.fieldLink RX3 9 "LoopSlicer$Result" "budgets" "[I", Cond.methodLink RX3 27 yX2_isFree, Cond.instanceMethod yX2_isFree, Cond.selects RX2 yX2_isFree yX2_isFree, Cond.initialized RX2, Cond.code yX2_isFree cX2_isFree 1 (some .boolean), Cond.fieldLink RX2 30 "LoopSlicer$Loop" "settings" "[I", Cond.methodLink RX3 33 yX3_shareFreely, Cond.instanceMethod yX3_shareFreely]
def wsX4_told_r2 : List Cond := [Cond.selects RX3 yX3_shareFreely yX3_shareFreely, Cond.code yX3_shareFreely cX3_shareFreely 9 none, Cond.fieldLink RX3 49 "LoopSlicer$Loop" "settings" "[I", Cond.fieldLink RX3 52 "LoopSlicer$Loop" "frames" "I", Cond.fieldLink RX3 15 "LoopSlicer$Result" "remainders" "[J", Cond.methodLink RX3 55 yX2_lengthOf, Cond.instanceMethod yX2_lengthOf, Cond.selects RX2 yX2_lengthOf yX2_lengthOf, Cond.code yX2_lengthOf cX2_lengthOf 2 (some .int), Cond.fieldLink RX2 33 "LoopSlicer$Loop" "marks" "[I", Cond.methodLink RX2 48 yX2_endFrame, Cond.instanceMethod yX2_endFrame, Cond.selects RX2 yX2_endFrame yX2_endFrame, Cond.code yX2_endFrame cX2_endFrame 2 (some .int), Cond.fieldLink RX2 15 "LoopSlicer$Loop" "markCount" "I", Cond.fieldLink RX2 9 "LoopSlicer$Loop" "frames" "I", Cond.methodLink RX3 58 yX3_giveOne, Cond.instanceMethod yX3_giveOne, Cond.selects RX3 yX3_giveOne yX3_giveOne, Cond.code yX3_giveOne cX3_giveOne 3 none, Cond.constantLong RX3 61 (-1), Cond.methodLink RX3 36 yX0_draw, Cond.instanceMethod yX0_draw, Cond.selects RX0 yX0_draw yX0_draw]
def wsX4_told_r3 : List Cond := [Cond.initialized RX0, Cond.code yX0_draw cX0_draw 3 (some .boolean), Cond.fieldLink RX0 27 "LoopSlicer$Grid" "loop" "LLoopSlicer$Loop;", Cond.fieldLink RX0 54 "LoopSlicer$Loop" "settings" "[I", Cond.fieldLink RX0 24 "LoopSlicer$Grid" "steps" "[I", Cond.fieldLink RX0 35 "LoopSlicer$Loop" "markCount" "I", Cond.methodLink RX0 31 yX0_leastSum, Cond.instanceMethod yX0_leastSum, Cond.selects RX0 yX0_leastSum yX0_leastSum, Cond.code yX0_leastSum cX0_leastSum 4 (some .int), Cond.fieldLink RX0 41 "LoopSlicer$Grid" "target" "I", Cond.fieldLink RX0 44 "LoopSlicer$Grid" "lastStep" "I", Cond.fieldLink RX0 21 "LoopSlicer$Grid" "sums" "[I", Cond.methodLink RX0 47 yX0_measure, Cond.instanceMethod yX0_measure, Cond.selects RX0 yX0_measure yX0_measure, Cond.code yX0_measure cX0_measure 3 none, Cond.fieldLink RX0 11 "LoopSlicer$Grid" "positions" "[I", Cond.fieldLink RX0 15 "LoopSlicer$Grid" "least" "[I", Cond.fieldLink RX0 18 "LoopSlicer$Grid" "most" "[I", Cond.methodLink RX0 60 yX2_lengthOf, Cond.methodLink RX0 64 yX2_leastBudget, Cond.instanceMethod yX2_leastBudget, Cond.selects RX2 yX2_leastBudget yX2_leastBudget]
def wsX4_told_r4 : List Cond := [Cond.code yX2_leastBudget cX2_leastBudget 2 (some .int), Cond.methodLink RX0 67 yX2_mostBudget, Cond.instanceMethod yX2_mostBudget, Cond.selects RX2 yX2_mostBudget yX2_mostBudget, Cond.code yX2_mostBudget cX2_mostBudget 2 (some .int), Cond.methodLink RX0 50 yX0_fillSums, Cond.instanceMethod yX0_fillSums, Cond.selects RX0 yX0_fillSums yX0_fillSums, Cond.code yX0_fillSums cX0_fillSums 7 (some .boolean), Cond.methodLink RX0 70 yX0_lastStepOf, Cond.instanceMethod yX0_lastStepOf, Cond.selects RX0 yX0_lastStepOf yX0_lastStepOf, Cond.code yX0_lastStepOf cX0_lastStepOf 2 (some .int), Cond.methodLink RX0 73 yX0_firstStepOf, Cond.instanceMethod yX0_firstStepOf, Cond.selects RX0 yX0_firstStepOf yX0_firstStepOf, Cond.code yX0_firstStepOf cX0_firstStepOf 2 (some .int), Cond.methodLink RX0 57 yX0_bestNext, Cond.instanceMethod yX0_bestNext, Cond.selects RX0 yX0_bestNext yX0_bestNext, Cond.code yX0_bestNext cX0_bestNext 9 (some .int), Cond.methodLink RX0 79 Lib.Math.max.name, Cond.static Lib.Math.max.name, Cond.initialized "java/lang/Math"]
def wsX4_told_r5 : List Cond := [Cond.code Lib.Math.max.name Lib.Math.max.code 2 (some .int), Cond.methodLink RX0 76 yX0_distance, Cond.instanceMethod yX0_distance, Cond.selects RX0 yX0_distance yX0_distance, Cond.code yX0_distance cX0_distance 3 (some .int), Cond.fieldLink RX0 84 "LoopSlicer$Loop" "frames" "I", Cond.fieldLink RX0 87 "LoopSlicer$Loop" "marks" "[I", Cond.methodLink RX0 90 Lib.Math.abs.name, Cond.static Lib.Math.abs.name, Cond.code Lib.Math.abs.name Lib.Math.abs.code 1 (some .int), Cond.methodLink RX3 45 yX0_budgetOf, Cond.instanceMethod yX0_budgetOf, Cond.selects RX0 yX0_budgetOf yX0_budgetOf, Cond.code yX0_budgetOf cX0_budgetOf 2 (some .int), Cond.methodLink RX4 132 yX3_countBeyondLimits, Cond.instanceMethod yX3_countBeyondLimits, Cond.selects RX3 yX3_countBeyondLimits yX3_countBeyondLimits, Cond.code yX3_countBeyondLimits cX3_countBeyondLimits 5 (some .int), Cond.methodLink RX3 63 yX2_leastBudget, Cond.methodLink RX3 66 yX2_mostBudget, Cond.methodLink RX4 136 yX3_sumFades, Cond.instanceMethod yX3_sumFades, Cond.selects RX3 yX3_sumFades yX3_sumFades, Cond.code yX3_sumFades cX3_sumFades 3 (some .int)]
def wsX4_told_r6 : List Cond := [Cond.methodLink RX3 69 yX3_fadeAt, Cond.instanceMethod yX3_fadeAt, Cond.selects RX3 yX3_fadeAt yX3_fadeAt, Cond.code yX3_fadeAt cX3_fadeAt 5 (some .int), Cond.fieldLink RX3 72 "LoopSlicer$Loop" "sequence" "[I", Cond.methodLink RX3 75 Lib.Math.min.name, Cond.static Lib.Math.min.name, Cond.code Lib.Math.min.name Lib.Math.min.code 2 (some .int)]
def wsX4_told : List Cond := .code yX4_told cX4_told 2 (some .int) :: ((wsX4_told_r1 ++ (wsX4_told_r2 ++ (wsX4_told_r3 ++ (wsX4_told_r4 ++ (wsX4_told_r5 ++ wsX4_told_r6))))) ++ wsX40 ++ wsX20 ++ wsX10 ++ wsX30 ++ wsX00)
def wsX4_setting : List Cond := .code yX4_setting cX4_setting 2 (some .int) :: ([.fieldLink RX4 10 "LoopSlicer" "loop" "LLoopSlicer$Loop;", .fieldLink RX4 80 "LoopSlicer$Loop" "settings" "[I", .methodLink RX4 71 yX4_isSetting, .static yX4_isSetting, .initialized RX4, .code yX4_isSetting cX4_isSetting 1 (some .boolean)] ++ wsX40 ++ wsX20)
def wsX4_energy : List Cond := .code yX4_energy cX4_energy 2 (some .int) :: ([.fieldLink RX4 10 "LoopSlicer" "loop" "LLoopSlicer$Loop;", .fieldLink RX4 68 "LoopSlicer$Loop" "energies" "[I", .methodLink RX4 64 yX2_isFrame, .instanceMethod yX2_isFrame, .selects RX2 yX2_isFrame yX2_isFrame, .initialized RX2, .code yX2_isFrame cX2_isFrame 2 (some .boolean), .fieldLink RX2 9 "LoopSlicer$Loop" "frames" "I"] ++ wsX40 ++ wsX20)
def wsX4_slice_r1 : List Cond := [Cond.fieldLink RX4 10 "LoopSlicer" "loop" "LLoopSlicer$Loop;", Cond.fieldLink RX4 83 "LoopSlicer$Loop" "marks" "[I", Cond.fieldLink RX4 30 "LoopSlicer" "result" "LLoopSlicer$Result;", Cond.fieldLink RX4 142 "LoopSlicer$Result" "budgets" "[I", Cond.fieldLink RX4 21 "LoopSlicer" "grid" "LLoopSlicer$Grid;", Cond.fieldLink RX4 148 "LoopSlicer$Grid" "steps" "[I", Cond.methodLink RX4 100 yX2_isSlice, Cond.instanceMethod yX2_isSlice, Cond.selects RX2 yX2_isSlice yX2_isSlice, Cond.initialized RX2, Cond.code yX2_isSlice cX2_isSlice 2 (some .boolean), Cond.fieldLink RX2 15 "LoopSlicer$Loop" "markCount" "I", Cond.methodLink RX4 139 yX2_lengthOf, Cond.instanceMethod yX2_lengthOf, Cond.selects RX2 yX2_lengthOf yX2_lengthOf, Cond.code yX2_lengthOf cX2_lengthOf 2 (some .int), Cond.fieldLink RX2 33 "LoopSlicer$Loop" "marks" "[I", Cond.fieldLink RX2 30 "LoopSlicer$Loop" "settings" "[I", Cond.methodLink RX2 48 yX2_endFrame, Cond.instanceMethod yX2_endFrame, Cond.selects RX2 yX2_endFrame yX2_endFrame, Cond.code yX2_endFrame cX2_endFrame 2 (some .int), Cond.fieldLink RX2 9 "LoopSlicer$Loop" "frames" "I", Cond.methodLink RX4 128 yX3_lay]
def wsX4_slice_r2 : List Cond := [Cond.instanceMethod yX3_lay, Cond.selects RX3 yX3_lay yX3_lay, Cond.initialized RX3, Cond.code yX3_lay cX3_lay 2 (some .boolean), Cond.fieldLink RX3 19 "LoopSlicer$Result" "loop" "LLoopSlicer$Loop;", Cond.fieldLink RX3 23 "LoopSlicer$Result" "grid" "LLoopSlicer$Grid;", Cond.fieldLink RX3 41 "LoopSlicer$Loop" "markCount" "I", Cond.fieldLink RX3 9 "LoopSlicer$Result" "budgets" "[I", Cond.methodLink RX3 27 yX2_isFree, Cond.instanceMethod yX2_isFree, Cond.selects RX2 yX2_isFree yX2_isFree, Cond.code yX2_isFree cX2_isFree 1 (some .boolean), Cond.methodLink RX3 33 yX3_shareFreely, Cond.instanceMethod yX3_shareFreely, Cond.selects RX3 yX3_shareFreely yX3_shareFreely, Cond.code yX3_shareFreely cX3_shareFreely 9 none, Cond.fieldLink RX3 49 "LoopSlicer$Loop" "settings" "[I", Cond.fieldLink RX3 52 "LoopSlicer$Loop" "frames" "I", Cond.fieldLink RX3 15 "LoopSlicer$Result" "remainders" "[J", Cond.methodLink RX3 55 yX2_lengthOf, Cond.methodLink RX3 58 yX3_giveOne, Cond.instanceMethod yX3_giveOne, Cond.selects RX3 yX3_giveOne yX3_giveOne, Cond.code yX3_giveOne cX3_giveOne 3 none]
def wsX4_slice_r3 : List Cond := [Cond.constantLong RX3 61 (-1), Cond.methodLink RX3 36 yX0_draw, Cond.instanceMethod yX0_draw, Cond.selects RX0 yX0_draw yX0_draw, Cond.initialized RX0, Cond.code yX0_draw cX0_draw 3 (some .boolean), Cond.fieldLink RX0 27 "LoopSlicer$Grid" "loop" "LLoopSlicer$Loop;", Cond.fieldLink RX0 54 "LoopSlicer$Loop" "settings" "[I", Cond.fieldLink RX0 24 "LoopSlicer$Grid" "steps" "[I", Cond.fieldLink RX0 35 "LoopSlicer$Loop" "markCount" "I", Cond.methodLink RX0 31 yX0_leastSum, Cond.instanceMethod yX0_leastSum, Cond.selects RX0 yX0_leastSum yX0_leastSum, Cond.code yX0_leastSum cX0_leastSum 4 (some .int), Cond.fieldLink RX0 41 "LoopSlicer$Grid" "target" "I", Cond.fieldLink RX0 44 "LoopSlicer$Grid" "lastStep" "I", Cond.fieldLink RX0 21 "LoopSlicer$Grid" "sums" "[I", Cond.methodLink RX0 47 yX0_measure, Cond.instanceMethod yX0_measure, Cond.selects RX0 yX0_measure yX0_measure, Cond.code yX0_measure cX0_measure 3 none, Cond.fieldLink RX0 11 "LoopSlicer$Grid" "positions" "[I", Cond.fieldLink RX0 15 "LoopSlicer$Grid" "least" "[I", Cond.fieldLink RX0 18 "LoopSlicer$Grid" "most" "[I"]
def wsX4_slice_r4 : List Cond := [Cond.methodLink RX0 60 yX2_lengthOf, Cond.methodLink RX0 64 yX2_leastBudget, Cond.instanceMethod yX2_leastBudget, Cond.selects RX2 yX2_leastBudget yX2_leastBudget, Cond.code yX2_leastBudget cX2_leastBudget 2 (some .int), Cond.methodLink RX0 67 yX2_mostBudget, Cond.instanceMethod yX2_mostBudget, Cond.selects RX2 yX2_mostBudget yX2_mostBudget, Cond.code yX2_mostBudget cX2_mostBudget 2 (some .int), Cond.methodLink RX0 50 yX0_fillSums, Cond.instanceMethod yX0_fillSums, Cond.selects RX0 yX0_fillSums yX0_fillSums, Cond.code yX0_fillSums cX0_fillSums 7 (some .boolean), Cond.methodLink RX0 70 yX0_lastStepOf, Cond.instanceMethod yX0_lastStepOf, Cond.selects RX0 yX0_lastStepOf yX0_lastStepOf, Cond.code yX0_lastStepOf cX0_lastStepOf 2 (some .int), Cond.methodLink RX0 73 yX0_firstStepOf, Cond.instanceMethod yX0_firstStepOf, Cond.selects RX0 yX0_firstStepOf yX0_firstStepOf, Cond.code yX0_firstStepOf cX0_firstStepOf 2 (some .int), Cond.methodLink RX0 57 yX0_bestNext, Cond.instanceMethod yX0_bestNext, Cond.selects RX0 yX0_bestNext yX0_bestNext]
def wsX4_slice_r5 : List Cond := [Cond.code yX0_bestNext cX0_bestNext 9 (some .int), Cond.methodLink RX0 79 Lib.Math.max.name, Cond.static Lib.Math.max.name, Cond.initialized "java/lang/Math", Cond.code Lib.Math.max.name Lib.Math.max.code 2 (some .int), Cond.methodLink RX0 76 yX0_distance, Cond.instanceMethod yX0_distance, Cond.selects RX0 yX0_distance yX0_distance, Cond.code yX0_distance cX0_distance 3 (some .int), Cond.fieldLink RX0 84 "LoopSlicer$Loop" "frames" "I", Cond.fieldLink RX0 87 "LoopSlicer$Loop" "marks" "[I", Cond.methodLink RX0 90 Lib.Math.abs.name, Cond.static Lib.Math.abs.name, Cond.code Lib.Math.abs.name Lib.Math.abs.code 1 (some .int), Cond.methodLink RX3 45 yX0_budgetOf, Cond.instanceMethod yX0_budgetOf, Cond.selects RX0 yX0_budgetOf yX0_budgetOf, Cond.code yX0_budgetOf cX0_budgetOf 2 (some .int), Cond.methodLink RX4 145 yX2_isFree, Cond.methodLink RX4 151 yX3_beginOf, Cond.instanceMethod yX3_beginOf, Cond.selects RX3 yX3_beginOf yX3_beginOf, Cond.code yX3_beginOf cX3_beginOf 5 (some .int), Cond.fieldLink RX3 72 "LoopSlicer$Loop" "sequence" "[I"]
def wsX4_slice_r6 : List Cond := [Cond.methodLink RX3 81 yX2_placeOf, Cond.instanceMethod yX2_placeOf, Cond.selects RX2 yX2_placeOf yX2_placeOf, Cond.code yX2_placeOf cX2_placeOf 3 (some .int), Cond.fieldLink RX2 36 "LoopSlicer$Loop" "sequence" "[I", Cond.methodLink RX4 154 yX2_placeOf, Cond.methodLink RX4 157 yX3_fadeAt, Cond.instanceMethod yX3_fadeAt, Cond.selects RX3 yX3_fadeAt yX3_fadeAt, Cond.code yX3_fadeAt cX3_fadeAt 5 (some .int), Cond.methodLink RX3 75 Lib.Math.min.name, Cond.static Lib.Math.min.name, Cond.code Lib.Math.min.name Lib.Math.min.code 2 (some .int), Cond.methodLink RX4 160 yX2_loudestFrame, Cond.instanceMethod yX2_loudestFrame, Cond.selects RX2 yX2_loudestFrame yX2_loudestFrame, Cond.code yX2_loudestFrame cX2_loudestFrame 5 (some .int), Cond.fieldLink RX2 18 "LoopSlicer$Loop" "energies" "[I"]
def wsX4_slice : List Cond := .code yX4_slice cX4_slice 3 (some .int) :: ((wsX4_slice_r1 ++ (wsX4_slice_r2 ++ (wsX4_slice_r3 ++ (wsX4_slice_r4 ++ (wsX4_slice_r5 ++ wsX4_slice_r6))))) ++ wsX40 ++ wsX20 ++ wsX30 ++ wsX00)
def wsX4_order : List Cond := .code yX4_order cX4_order 2 (some .int) :: ([.fieldLink RX4 10 "LoopSlicer" "loop" "LLoopSlicer$Loop;", .fieldLink RX4 119 "LoopSlicer$Loop" "sequence" "[I", .methodLink RX4 100 yX2_isSlice, .instanceMethod yX2_isSlice, .selects RX2 yX2_isSlice yX2_isSlice, .initialized RX2, .code yX2_isSlice cX2_isSlice 2 (some .boolean), .fieldLink RX2 15 "LoopSlicer$Loop" "markCount" "I"] ++ wsX40 ++ wsX20)
def wsX4_source_r1 : List Cond := [Cond.fieldLink RX4 10 "LoopSlicer" "loop" "LLoopSlicer$Loop;", Cond.fieldLink RX4 80 "LoopSlicer$Loop" "settings" "[I", Cond.fieldLink RX4 30 "LoopSlicer" "result" "LLoopSlicer$Result;", Cond.fieldLink RX4 90 "LoopSlicer$Loop" "markCount" "I", Cond.fieldLink RX4 142 "LoopSlicer$Result" "budgets" "[I", Cond.fieldLink RX4 119 "LoopSlicer$Loop" "sequence" "[I", Cond.methodLink RX4 128 yX3_lay, Cond.instanceMethod yX3_lay, Cond.selects RX3 yX3_lay yX3_lay, Cond.initialized RX3, Cond.code yX3_lay cX3_lay 2 (some .boolean), Cond.fieldLink RX3 19 "LoopSlicer$Result" "loop" "LLoopSlicer$Loop;", Cond.fieldLink RX3 23 "LoopSlicer$Result" "grid" "LLoopSlicer$Grid;", Cond.fieldLink RX3 41 "LoopSlicer$Loop" "markCount" "I", Cond.fieldLink RX3 9 "LoopSlicer$Result" "budgets" "[I", Cond.methodLink RX3 27 yX2_isFree, Cond.instanceMethod yX2_isFree, Cond.selects RX2 yX2_isFree yX2_isFree, Cond.initialized RX2, Cond.code yX2_isFree cX2_isFree 1 (some .boolean), Cond.fieldLink RX2 30 "LoopSlicer$Loop" "settings" "[I", Cond.methodLink RX3 33 yX3_shareFreely, Cond.instanceMethod yX3_shareFreely, Cond.selects RX3 yX3_shareFreely yX3_shareFreely]
def wsX4_source_r2 : List Cond := [Cond.code yX3_shareFreely cX3_shareFreely 9 none, Cond.fieldLink RX3 49 "LoopSlicer$Loop" "settings" "[I", Cond.fieldLink RX3 52 "LoopSlicer$Loop" "frames" "I", Cond.fieldLink RX3 15 "LoopSlicer$Result" "remainders" "[J", Cond.methodLink RX3 55 yX2_lengthOf, Cond.instanceMethod yX2_lengthOf, Cond.selects RX2 yX2_lengthOf yX2_lengthOf, Cond.code yX2_lengthOf cX2_lengthOf 2 (some .int), Cond.fieldLink RX2 33 "LoopSlicer$Loop" "marks" "[I", Cond.methodLink RX2 48 yX2_endFrame, Cond.instanceMethod yX2_endFrame, Cond.selects RX2 yX2_endFrame yX2_endFrame, Cond.code yX2_endFrame cX2_endFrame 2 (some .int), Cond.fieldLink RX2 15 "LoopSlicer$Loop" "markCount" "I", Cond.fieldLink RX2 9 "LoopSlicer$Loop" "frames" "I", Cond.methodLink RX3 58 yX3_giveOne, Cond.instanceMethod yX3_giveOne, Cond.selects RX3 yX3_giveOne yX3_giveOne, Cond.code yX3_giveOne cX3_giveOne 3 none, Cond.constantLong RX3 61 (-1), Cond.methodLink RX3 36 yX0_draw, Cond.instanceMethod yX0_draw, Cond.selects RX0 yX0_draw yX0_draw, Cond.initialized RX0]
def wsX4_source_r3 : List Cond := [Cond.code yX0_draw cX0_draw 3 (some .boolean), Cond.fieldLink RX0 27 "LoopSlicer$Grid" "loop" "LLoopSlicer$Loop;", Cond.fieldLink RX0 54 "LoopSlicer$Loop" "settings" "[I", Cond.fieldLink RX0 24 "LoopSlicer$Grid" "steps" "[I", Cond.fieldLink RX0 35 "LoopSlicer$Loop" "markCount" "I", Cond.methodLink RX0 31 yX0_leastSum, Cond.instanceMethod yX0_leastSum, Cond.selects RX0 yX0_leastSum yX0_leastSum, Cond.code yX0_leastSum cX0_leastSum 4 (some .int), Cond.fieldLink RX0 41 "LoopSlicer$Grid" "target" "I", Cond.fieldLink RX0 44 "LoopSlicer$Grid" "lastStep" "I", Cond.fieldLink RX0 21 "LoopSlicer$Grid" "sums" "[I", Cond.methodLink RX0 47 yX0_measure, Cond.instanceMethod yX0_measure, Cond.selects RX0 yX0_measure yX0_measure, Cond.code yX0_measure cX0_measure 3 none, Cond.fieldLink RX0 11 "LoopSlicer$Grid" "positions" "[I", Cond.fieldLink RX0 15 "LoopSlicer$Grid" "least" "[I", Cond.fieldLink RX0 18 "LoopSlicer$Grid" "most" "[I", Cond.methodLink RX0 60 yX2_lengthOf, Cond.methodLink RX0 64 yX2_leastBudget, Cond.instanceMethod yX2_leastBudget, Cond.selects RX2 yX2_leastBudget yX2_leastBudget, Cond.code yX2_leastBudget cX2_leastBudget 2 (some .int)]
def wsX4_source_r4 : List Cond := [Cond.methodLink RX0 67 yX2_mostBudget, Cond.instanceMethod yX2_mostBudget, Cond.selects RX2 yX2_mostBudget yX2_mostBudget, Cond.code yX2_mostBudget cX2_mostBudget 2 (some .int), Cond.methodLink RX0 50 yX0_fillSums, Cond.instanceMethod yX0_fillSums, Cond.selects RX0 yX0_fillSums yX0_fillSums, Cond.code yX0_fillSums cX0_fillSums 7 (some .boolean), Cond.methodLink RX0 70 yX0_lastStepOf, Cond.instanceMethod yX0_lastStepOf, Cond.selects RX0 yX0_lastStepOf yX0_lastStepOf, Cond.code yX0_lastStepOf cX0_lastStepOf 2 (some .int), Cond.methodLink RX0 73 yX0_firstStepOf, Cond.instanceMethod yX0_firstStepOf, Cond.selects RX0 yX0_firstStepOf yX0_firstStepOf, Cond.code yX0_firstStepOf cX0_firstStepOf 2 (some .int), Cond.methodLink RX0 57 yX0_bestNext, Cond.instanceMethod yX0_bestNext, Cond.selects RX0 yX0_bestNext yX0_bestNext, Cond.code yX0_bestNext cX0_bestNext 9 (some .int), Cond.methodLink RX0 79 Lib.Math.max.name, Cond.static Lib.Math.max.name, Cond.initialized "java/lang/Math", Cond.code Lib.Math.max.name Lib.Math.max.code 2 (some .int)]
def wsX4_source_r5 : List Cond := [Cond.methodLink RX0 76 yX0_distance, Cond.instanceMethod yX0_distance, Cond.selects RX0 yX0_distance yX0_distance, Cond.code yX0_distance cX0_distance 3 (some .int), Cond.fieldLink RX0 84 "LoopSlicer$Loop" "frames" "I", Cond.fieldLink RX0 87 "LoopSlicer$Loop" "marks" "[I", Cond.methodLink RX0 90 Lib.Math.abs.name, Cond.static Lib.Math.abs.name, Cond.code Lib.Math.abs.name Lib.Math.abs.code 1 (some .int), Cond.methodLink RX3 45 yX0_budgetOf, Cond.instanceMethod yX0_budgetOf, Cond.selects RX0 yX0_budgetOf yX0_budgetOf, Cond.code yX0_budgetOf cX0_budgetOf 2 (some .int), Cond.methodLink RX4 163 yX3_originOf, Cond.instanceMethod yX3_originOf, Cond.selects RX3 yX3_originOf yX3_originOf, Cond.code yX3_originOf cX3_originOf 5 (some .int), Cond.fieldLink RX3 72 "LoopSlicer$Loop" "sequence" "[I", Cond.fieldLink RX3 84 "LoopSlicer$Loop" "marks" "[I", Cond.methodLink RX3 87 yX3_loopSample, Cond.instanceMethod yX3_loopSample, Cond.selects RX3 yX3_loopSample yX3_loopSample, Cond.code yX3_loopSample cX3_loopSample 5 (some .int), Cond.methodLink RX3 69 yX3_fadeAt]
def wsX4_source_r6 : List Cond := [Cond.instanceMethod yX3_fadeAt, Cond.selects RX3 yX3_fadeAt yX3_fadeAt, Cond.code yX3_fadeAt cX3_fadeAt 5 (some .int), Cond.methodLink RX3 75 Lib.Math.min.name, Cond.static Lib.Math.min.name, Cond.code Lib.Math.min.name Lib.Math.min.code 2 (some .int)]
def wsX4_source : List Cond := .code yX4_source cX4_source 6 (some .int) :: ((wsX4_source_r1 ++ (wsX4_source_r2 ++ (wsX4_source_r3 ++ (wsX4_source_r4 ++ (wsX4_source_r5 ++ wsX4_source_r6))))) ++ wsX40 ++ wsX20 ++ wsX30 ++ wsX00)
def wsX4_warp_r1 : List Cond := [Cond.fieldLink RX4 10 "LoopSlicer" "loop" "LLoopSlicer$Loop;", Cond.constantFloat RX4 167 (3212836864), Cond.fieldLink RX4 30 "LoopSlicer" "result" "LLoopSlicer$Result;", Cond.constantFloat RX4 168 (3239051264), Cond.fieldLink RX4 142 "LoopSlicer$Result" "budgets" "[I", Cond.methodLink RX4 100 yX2_isSlice, Cond.instanceMethod yX2_isSlice, Cond.selects RX2 yX2_isSlice yX2_isSlice, Cond.initialized RX2, Cond.code yX2_isSlice cX2_isSlice 2 (some .boolean), Cond.fieldLink RX2 15 "LoopSlicer$Loop" "markCount" "I", Cond.methodLink RX4 128 yX3_lay, Cond.instanceMethod yX3_lay, Cond.selects RX3 yX3_lay yX3_lay, Cond.initialized RX3, Cond.code yX3_lay cX3_lay 2 (some .boolean), Cond.fieldLink RX3 19 "LoopSlicer$Result" "loop" "LLoopSlicer$Loop;", Cond.fieldLink RX3 23 "LoopSlicer$Result" "grid" "LLoopSlicer$Grid;", Cond.fieldLink RX3 41 "LoopSlicer$Loop" "markCount" "I", Cond.fieldLink RX3 9 "LoopSlicer$Result" "budgets" "[I", Cond.methodLink RX3 27 yX2_isFree, Cond.instanceMethod yX2_isFree, Cond.selects RX2 yX2_isFree yX2_isFree, Cond.code yX2_isFree cX2_isFree 1 (some .boolean)]
def wsX4_warp_r2 : List Cond := [Cond.fieldLink RX2 30 "LoopSlicer$Loop" "settings" "[I", Cond.methodLink RX3 33 yX3_shareFreely, Cond.instanceMethod yX3_shareFreely, Cond.selects RX3 yX3_shareFreely yX3_shareFreely, Cond.code yX3_shareFreely cX3_shareFreely 9 none, Cond.fieldLink RX3 49 "LoopSlicer$Loop" "settings" "[I", Cond.fieldLink RX3 52 "LoopSlicer$Loop" "frames" "I", Cond.fieldLink RX3 15 "LoopSlicer$Result" "remainders" "[J", Cond.methodLink RX3 55 yX2_lengthOf, Cond.instanceMethod yX2_lengthOf, Cond.selects RX2 yX2_lengthOf yX2_lengthOf, Cond.code yX2_lengthOf cX2_lengthOf 2 (some .int), Cond.fieldLink RX2 33 "LoopSlicer$Loop" "marks" "[I", Cond.methodLink RX2 48 yX2_endFrame, Cond.instanceMethod yX2_endFrame, Cond.selects RX2 yX2_endFrame yX2_endFrame, Cond.code yX2_endFrame cX2_endFrame 2 (some .int), Cond.fieldLink RX2 9 "LoopSlicer$Loop" "frames" "I", Cond.methodLink RX3 58 yX3_giveOne, Cond.instanceMethod yX3_giveOne, Cond.selects RX3 yX3_giveOne yX3_giveOne, Cond.code yX3_giveOne cX3_giveOne 3 none, Cond.constantLong RX3 61 (-1), Cond.methodLink RX3 36 yX0_draw]
def wsX4_warp_r3 : List Cond := [Cond.instanceMethod yX0_draw, Cond.selects RX0 yX0_draw yX0_draw, Cond.initialized RX0, Cond.code yX0_draw cX0_draw 3 (some .boolean), Cond.fieldLink RX0 27 "LoopSlicer$Grid" "loop" "LLoopSlicer$Loop;", Cond.fieldLink RX0 54 "LoopSlicer$Loop" "settings" "[I", Cond.fieldLink RX0 24 "LoopSlicer$Grid" "steps" "[I", Cond.fieldLink RX0 35 "LoopSlicer$Loop" "markCount" "I", Cond.methodLink RX0 31 yX0_leastSum, Cond.instanceMethod yX0_leastSum, Cond.selects RX0 yX0_leastSum yX0_leastSum, Cond.code yX0_leastSum cX0_leastSum 4 (some .int), Cond.fieldLink RX0 41 "LoopSlicer$Grid" "target" "I", Cond.fieldLink RX0 44 "LoopSlicer$Grid" "lastStep" "I", Cond.fieldLink RX0 21 "LoopSlicer$Grid" "sums" "[I", Cond.methodLink RX0 47 yX0_measure, Cond.instanceMethod yX0_measure, Cond.selects RX0 yX0_measure yX0_measure, Cond.code yX0_measure cX0_measure 3 none, Cond.fieldLink RX0 11 "LoopSlicer$Grid" "positions" "[I", Cond.fieldLink RX0 15 "LoopSlicer$Grid" "least" "[I", Cond.fieldLink RX0 18 "LoopSlicer$Grid" "most" "[I", Cond.methodLink RX0 60 yX2_lengthOf, Cond.methodLink RX0 64 yX2_leastBudget]
def wsX4_warp_r4 : List Cond := [Cond.instanceMethod yX2_leastBudget, Cond.selects RX2 yX2_leastBudget yX2_leastBudget, Cond.code yX2_leastBudget cX2_leastBudget 2 (some .int), Cond.methodLink RX0 67 yX2_mostBudget, Cond.instanceMethod yX2_mostBudget, Cond.selects RX2 yX2_mostBudget yX2_mostBudget, Cond.code yX2_mostBudget cX2_mostBudget 2 (some .int), Cond.methodLink RX0 50 yX0_fillSums, Cond.instanceMethod yX0_fillSums, Cond.selects RX0 yX0_fillSums yX0_fillSums, Cond.code yX0_fillSums cX0_fillSums 7 (some .boolean), Cond.methodLink RX0 70 yX0_lastStepOf, Cond.instanceMethod yX0_lastStepOf, Cond.selects RX0 yX0_lastStepOf yX0_lastStepOf, Cond.code yX0_lastStepOf cX0_lastStepOf 2 (some .int), Cond.methodLink RX0 73 yX0_firstStepOf, Cond.instanceMethod yX0_firstStepOf, Cond.selects RX0 yX0_firstStepOf yX0_firstStepOf, Cond.code yX0_firstStepOf cX0_firstStepOf 2 (some .int), Cond.methodLink RX0 57 yX0_bestNext, Cond.instanceMethod yX0_bestNext, Cond.selects RX0 yX0_bestNext yX0_bestNext, Cond.code yX0_bestNext cX0_bestNext 9 (some .int), Cond.methodLink RX0 79 Lib.Math.max.name]
def wsX4_warp_r5 : List Cond := [Cond.static Lib.Math.max.name, Cond.initialized "java/lang/Math", Cond.code Lib.Math.max.name Lib.Math.max.code 2 (some .int), Cond.methodLink RX0 76 yX0_distance, Cond.instanceMethod yX0_distance, Cond.selects RX0 yX0_distance yX0_distance, Cond.code yX0_distance cX0_distance 3 (some .int), Cond.fieldLink RX0 84 "LoopSlicer$Loop" "frames" "I", Cond.fieldLink RX0 87 "LoopSlicer$Loop" "marks" "[I", Cond.methodLink RX0 90 Lib.Math.abs.name, Cond.static Lib.Math.abs.name, Cond.code Lib.Math.abs.name Lib.Math.abs.code 1 (some .int), Cond.methodLink RX3 45 yX0_budgetOf, Cond.instanceMethod yX0_budgetOf, Cond.selects RX0 yX0_budgetOf yX0_budgetOf, Cond.code yX0_budgetOf cX0_budgetOf 2 (some .int), Cond.methodLink RX4 139 yX2_lengthOf]
def wsX4_warp : List Cond := .code yX4_warp cX4_warp 2 (some .float) :: ((wsX4_warp_r1 ++ (wsX4_warp_r2 ++ (wsX4_warp_r3 ++ (wsX4_warp_r4 ++ wsX4_warp_r5)))) ++ wsX40 ++ wsX30 ++ wsX20 ++ wsX00)
def wsX4_shift_r1 : List Cond := [Cond.fieldLink RX4 21 "LoopSlicer" "grid" "LLoopSlicer$Grid;", Cond.fieldLink RX4 10 "LoopSlicer" "loop" "LLoopSlicer$Loop;", Cond.fieldLink RX4 80 "LoopSlicer$Loop" "settings" "[I", Cond.fieldLink RX4 56 "LoopSlicer$Loop" "frames" "I", Cond.methodLink RX4 169 yX0_leastSum, Cond.instanceMethod yX0_leastSum, Cond.selects RX0 yX0_leastSum yX0_leastSum, Cond.initialized RX0, Cond.code yX0_leastSum cX0_leastSum 4 (some .int), Cond.fieldLink RX0 27 "LoopSlicer$Grid" "loop" "LLoopSlicer$Loop;", Cond.fieldLink RX0 35 "LoopSlicer$Loop" "markCount" "I", Cond.fieldLink RX0 41 "LoopSlicer$Grid" "target" "I", Cond.fieldLink RX0 44 "LoopSlicer$Grid" "lastStep" "I", Cond.fieldLink RX0 21 "LoopSlicer$Grid" "sums" "[I", Cond.methodLink RX0 47 yX0_measure, Cond.instanceMethod yX0_measure, Cond.selects RX0 yX0_measure yX0_measure, Cond.code yX0_measure cX0_measure 3 none, Cond.fieldLink RX0 11 "LoopSlicer$Grid" "positions" "[I", Cond.fieldLink RX0 15 "LoopSlicer$Grid" "least" "[I", Cond.fieldLink RX0 18 "LoopSlicer$Grid" "most" "[I", Cond.methodLink RX0 60 yX2_lengthOf, Cond.instanceMethod yX2_lengthOf, Cond.selects RX2 yX2_lengthOf yX2_lengthOf]
def wsX4_shift_r2 : List Cond := [Cond.initialized RX2, Cond.code yX2_lengthOf cX2_lengthOf 2 (some .int), Cond.fieldLink RX2 33 "LoopSlicer$Loop" "marks" "[I", Cond.fieldLink RX2 30 "LoopSlicer$Loop" "settings" "[I", Cond.methodLink RX2 48 yX2_endFrame, Cond.instanceMethod yX2_endFrame, Cond.selects RX2 yX2_endFrame yX2_endFrame, Cond.code yX2_endFrame cX2_endFrame 2 (some .int), Cond.fieldLink RX2 15 "LoopSlicer$Loop" "markCount" "I", Cond.fieldLink RX2 9 "LoopSlicer$Loop" "frames" "I", Cond.methodLink RX0 64 yX2_leastBudget, Cond.instanceMethod yX2_leastBudget, Cond.selects RX2 yX2_leastBudget yX2_leastBudget, Cond.code yX2_leastBudget cX2_leastBudget 2 (some .int), Cond.methodLink RX0 67 yX2_mostBudget, Cond.instanceMethod yX2_mostBudget, Cond.selects RX2 yX2_mostBudget yX2_mostBudget, Cond.code yX2_mostBudget cX2_mostBudget 2 (some .int), Cond.methodLink RX0 50 yX0_fillSums, Cond.instanceMethod yX0_fillSums, Cond.selects RX0 yX0_fillSums yX0_fillSums, Cond.code yX0_fillSums cX0_fillSums 7 (some .boolean), Cond.methodLink RX0 70 yX0_lastStepOf, Cond.instanceMethod yX0_lastStepOf]
def wsX4_shift_r3 : List Cond := [Cond.selects RX0 yX0_lastStepOf yX0_lastStepOf, Cond.code yX0_lastStepOf cX0_lastStepOf 2 (some .int), Cond.methodLink RX0 73 yX0_firstStepOf, Cond.instanceMethod yX0_firstStepOf, Cond.selects RX0 yX0_firstStepOf yX0_firstStepOf, Cond.code yX0_firstStepOf cX0_firstStepOf 2 (some .int), Cond.methodLink RX0 57 yX0_bestNext, Cond.instanceMethod yX0_bestNext, Cond.selects RX0 yX0_bestNext yX0_bestNext, Cond.code yX0_bestNext cX0_bestNext 9 (some .int), Cond.methodLink RX0 79 Lib.Math.max.name, Cond.static Lib.Math.max.name, Cond.initialized "java/lang/Math", Cond.code Lib.Math.max.name Lib.Math.max.code 2 (some .int), Cond.methodLink RX0 76 yX0_distance, Cond.instanceMethod yX0_distance, Cond.selects RX0 yX0_distance yX0_distance, Cond.code yX0_distance cX0_distance 3 (some .int), Cond.fieldLink RX0 84 "LoopSlicer$Loop" "frames" "I", Cond.fieldLink RX0 87 "LoopSlicer$Loop" "marks" "[I", Cond.methodLink RX0 90 Lib.Math.abs.name, Cond.static Lib.Math.abs.name, Cond.code Lib.Math.abs.name Lib.Math.abs.code 1 (some .int)]
def wsX4_shift : List Cond := .code yX4_shift cX4_shift 2 (some .int) :: ((wsX4_shift_r1 ++ (wsX4_shift_r2 ++ wsX4_shift_r3)) ++ wsX40 ++ wsX20 ++ wsX00)
def wsX4_leastGrid_r1 : List Cond := [Cond.fieldLink RX4 21 "LoopSlicer" "grid" "LLoopSlicer$Grid;", Cond.fieldLink RX4 10 "LoopSlicer" "loop" "LLoopSlicer$Loop;", Cond.fieldLink RX4 80 "LoopSlicer$Loop" "settings" "[I", Cond.methodLink RX4 173 yX0_canLay, Cond.instanceMethod yX0_canLay, Cond.selects RX0 yX0_canLay yX0_canLay, Cond.initialized RX0, Cond.code yX0_canLay cX0_canLay 3 (some .boolean), Cond.methodLink RX0 31 yX0_leastSum, Cond.instanceMethod yX0_leastSum, Cond.selects RX0 yX0_leastSum yX0_leastSum, Cond.code yX0_leastSum cX0_leastSum 4 (some .int), Cond.fieldLink RX0 27 "LoopSlicer$Grid" "loop" "LLoopSlicer$Loop;", Cond.fieldLink RX0 35 "LoopSlicer$Loop" "markCount" "I", Cond.fieldLink RX0 41 "LoopSlicer$Grid" "target" "I", Cond.fieldLink RX0 44 "LoopSlicer$Grid" "lastStep" "I", Cond.fieldLink RX0 21 "LoopSlicer$Grid" "sums" "[I", Cond.methodLink RX0 47 yX0_measure, Cond.instanceMethod yX0_measure, Cond.selects RX0 yX0_measure yX0_measure, Cond.code yX0_measure cX0_measure 3 none, Cond.fieldLink RX0 11 "LoopSlicer$Grid" "positions" "[I", Cond.fieldLink RX0 15 "LoopSlicer$Grid" "least" "[I", Cond.fieldLink RX0 18 "LoopSlicer$Grid" "most" "[I"]
def wsX4_leastGrid_r2 : List Cond := [Cond.methodLink RX0 60 yX2_lengthOf, Cond.instanceMethod yX2_lengthOf, Cond.selects RX2 yX2_lengthOf yX2_lengthOf, Cond.initialized RX2, Cond.code yX2_lengthOf cX2_lengthOf 2 (some .int), Cond.fieldLink RX2 33 "LoopSlicer$Loop" "marks" "[I", Cond.fieldLink RX2 30 "LoopSlicer$Loop" "settings" "[I", Cond.methodLink RX2 48 yX2_endFrame, Cond.instanceMethod yX2_endFrame, Cond.selects RX2 yX2_endFrame yX2_endFrame, Cond.code yX2_endFrame cX2_endFrame 2 (some .int), Cond.fieldLink RX2 15 "LoopSlicer$Loop" "markCount" "I", Cond.fieldLink RX2 9 "LoopSlicer$Loop" "frames" "I", Cond.methodLink RX0 64 yX2_leastBudget, Cond.instanceMethod yX2_leastBudget, Cond.selects RX2 yX2_leastBudget yX2_leastBudget, Cond.code yX2_leastBudget cX2_leastBudget 2 (some .int), Cond.methodLink RX0 67 yX2_mostBudget, Cond.instanceMethod yX2_mostBudget, Cond.selects RX2 yX2_mostBudget yX2_mostBudget, Cond.code yX2_mostBudget cX2_mostBudget 2 (some .int), Cond.methodLink RX0 50 yX0_fillSums, Cond.instanceMethod yX0_fillSums, Cond.selects RX0 yX0_fillSums yX0_fillSums]
def wsX4_leastGrid_r3 : List Cond := [Cond.code yX0_fillSums cX0_fillSums 7 (some .boolean), Cond.methodLink RX0 70 yX0_lastStepOf, Cond.instanceMethod yX0_lastStepOf, Cond.selects RX0 yX0_lastStepOf yX0_lastStepOf, Cond.code yX0_lastStepOf cX0_lastStepOf 2 (some .int), Cond.methodLink RX0 73 yX0_firstStepOf, Cond.instanceMethod yX0_firstStepOf, Cond.selects RX0 yX0_firstStepOf yX0_firstStepOf, Cond.code yX0_firstStepOf cX0_firstStepOf 2 (some .int), Cond.methodLink RX0 57 yX0_bestNext, Cond.instanceMethod yX0_bestNext, Cond.selects RX0 yX0_bestNext yX0_bestNext, Cond.code yX0_bestNext cX0_bestNext 9 (some .int), Cond.methodLink RX0 79 Lib.Math.max.name, Cond.static Lib.Math.max.name, Cond.initialized "java/lang/Math", Cond.code Lib.Math.max.name Lib.Math.max.code 2 (some .int), Cond.methodLink RX0 76 yX0_distance, Cond.instanceMethod yX0_distance, Cond.selects RX0 yX0_distance yX0_distance, Cond.code yX0_distance cX0_distance 3 (some .int), Cond.fieldLink RX0 84 "LoopSlicer$Loop" "frames" "I", Cond.fieldLink RX0 87 "LoopSlicer$Loop" "marks" "[I", Cond.methodLink RX0 90 Lib.Math.abs.name]
def wsX4_leastGrid_r4 : List Cond := [Cond.static Lib.Math.abs.name, Cond.code Lib.Math.abs.name Lib.Math.abs.code 1 (some .int)]
def wsX4_leastGrid : List Cond := .code yX4_leastGrid cX4_leastGrid 2 (some .int) :: ((wsX4_leastGrid_r1 ++ (wsX4_leastGrid_r2 ++ (wsX4_leastGrid_r3 ++ wsX4_leastGrid_r4))) ++ wsX40 ++ wsX20 ++ wsX00)
def wsX4_nearTarget_r1 : List Cond := [Cond.fieldLink RX4 10 "LoopSlicer" "loop" "LLoopSlicer$Loop;", Cond.fieldLink RX4 80 "LoopSlicer$Loop" "settings" "[I", Cond.fieldLink RX4 21 "LoopSlicer" "grid" "LLoopSlicer$Grid;", Cond.constant RX4 177 (200000), Cond.methodLink RX4 173 yX0_canLay, Cond.instanceMethod yX0_canLay, Cond.selects RX0 yX0_canLay yX0_canLay, Cond.initialized RX0, Cond.code yX0_canLay cX0_canLay 3 (some .boolean), Cond.methodLink RX0 31 yX0_leastSum, Cond.instanceMethod yX0_leastSum, Cond.selects RX0 yX0_leastSum yX0_leastSum, Cond.code yX0_leastSum cX0_leastSum 4 (some .int), Cond.fieldLink RX0 27 "LoopSlicer$Grid" "loop" "LLoopSlicer$Loop;", Cond.fieldLink RX0 35 "LoopSlicer$Loop" "markCount" "I", Cond.fieldLink RX0 41 "LoopSlicer$Grid" "target" "I", Cond.fieldLink RX0 44 "LoopSlicer$Grid" "lastStep" "I", Cond.fieldLink RX0 21 "LoopSlicer$Grid" "sums" "[I", Cond.methodLink RX0 47 yX0_measure, Cond.instanceMethod yX0_measure, Cond.selects RX0 yX0_measure yX0_measure, Cond.code yX0_measure cX0_measure 3 none, Cond.fieldLink RX0 11 "LoopSlicer$Grid" "positions" "[I", Cond.fieldLink RX0 15 "LoopSlicer$Grid" "least" "[I"]
def wsX4_nearTarget_r2 : List Cond := [Cond.fieldLink RX0 18 "LoopSlicer$Grid" "most" "[I", Cond.methodLink RX0 60 yX2_lengthOf, Cond.instanceMethod yX2_lengthOf, Cond.selects RX2 yX2_lengthOf yX2_lengthOf, Cond.initialized RX2, Cond.code yX2_lengthOf cX2_lengthOf 2 (some .int), Cond.fieldLink RX2 33 "LoopSlicer$Loop" "marks" "[I", Cond.fieldLink RX2 30 "LoopSlicer$Loop" "settings" "[I", Cond.methodLink RX2 48 yX2_endFrame, Cond.instanceMethod yX2_endFrame, Cond.selects RX2 yX2_endFrame yX2_endFrame, Cond.code yX2_endFrame cX2_endFrame 2 (some .int), Cond.fieldLink RX2 15 "LoopSlicer$Loop" "markCount" "I", Cond.fieldLink RX2 9 "LoopSlicer$Loop" "frames" "I", Cond.methodLink RX0 64 yX2_leastBudget, Cond.instanceMethod yX2_leastBudget, Cond.selects RX2 yX2_leastBudget yX2_leastBudget, Cond.code yX2_leastBudget cX2_leastBudget 2 (some .int), Cond.methodLink RX0 67 yX2_mostBudget, Cond.instanceMethod yX2_mostBudget, Cond.selects RX2 yX2_mostBudget yX2_mostBudget, Cond.code yX2_mostBudget cX2_mostBudget 2 (some .int), Cond.methodLink RX0 50 yX0_fillSums, Cond.instanceMethod yX0_fillSums]
def wsX4_nearTarget_r3 : List Cond := [Cond.selects RX0 yX0_fillSums yX0_fillSums, Cond.code yX0_fillSums cX0_fillSums 7 (some .boolean), Cond.methodLink RX0 70 yX0_lastStepOf, Cond.instanceMethod yX0_lastStepOf, Cond.selects RX0 yX0_lastStepOf yX0_lastStepOf, Cond.code yX0_lastStepOf cX0_lastStepOf 2 (some .int), Cond.methodLink RX0 73 yX0_firstStepOf, Cond.instanceMethod yX0_firstStepOf, Cond.selects RX0 yX0_firstStepOf yX0_firstStepOf, Cond.code yX0_firstStepOf cX0_firstStepOf 2 (some .int), Cond.methodLink RX0 57 yX0_bestNext, Cond.instanceMethod yX0_bestNext, Cond.selects RX0 yX0_bestNext yX0_bestNext, Cond.code yX0_bestNext cX0_bestNext 9 (some .int), Cond.methodLink RX0 79 Lib.Math.max.name, Cond.static Lib.Math.max.name, Cond.initialized "java/lang/Math", Cond.code Lib.Math.max.name Lib.Math.max.code 2 (some .int), Cond.methodLink RX0 76 yX0_distance, Cond.instanceMethod yX0_distance, Cond.selects RX0 yX0_distance yX0_distance, Cond.code yX0_distance cX0_distance 3 (some .int), Cond.fieldLink RX0 84 "LoopSlicer$Loop" "frames" "I", Cond.fieldLink RX0 87 "LoopSlicer$Loop" "marks" "[I"]
def wsX4_nearTarget_r4 : List Cond := [Cond.methodLink RX0 90 Lib.Math.abs.name, Cond.static Lib.Math.abs.name, Cond.code Lib.Math.abs.name Lib.Math.abs.code 1 (some .int)]
def wsX4_nearTarget : List Cond := .code yX4_nearTarget cX4_nearTarget 5 (some .int) :: ((wsX4_nearTarget_r1 ++ (wsX4_nearTarget_r2 ++ (wsX4_nearTarget_r3 ++ wsX4_nearTarget_r4))) ++ wsX40 ++ wsX20 ++ wsX00)
def wsX4_marksWith : List Cond := .code yX4_marksWith cX4_marksWith 2 (some .int) :: ([.fieldLink RX4 10 "LoopSlicer" "loop" "LLoopSlicer$Loop;", .fieldLink RX4 49 "LoopSlicer" "wouldBeMarks" "[I", .methodLink RX4 86 yX2_findRises, .instanceMethod yX2_findRises, .selects RX2 yX2_findRises yX2_findRises, .initialized RX2, .code yX2_findRises cX2_findRises 6 (some .int), .fieldLink RX2 9 "LoopSlicer$Loop" "frames" "I", .fieldLink RX2 18 "LoopSlicer$Loop" "energies" "[I", .fieldLink RX2 30 "LoopSlicer$Loop" "settings" "[I"] ++ wsX40 ++ wsX20)
def wsX4_thresholdFor : List Cond := .code yX4_thresholdFor cX4_thresholdFor 5 (some .int) :: ([.fieldLink RX4 10 "LoopSlicer" "loop" "LLoopSlicer$Loop;", .fieldLink RX4 49 "LoopSlicer" "wouldBeMarks" "[I", .fieldLink RX4 56 "LoopSlicer$Loop" "frames" "I", .fieldLink RX4 68 "LoopSlicer$Loop" "energies" "[I", .methodLink RX4 86 yX2_findRises, .instanceMethod yX2_findRises, .selects RX2 yX2_findRises yX2_findRises, .initialized RX2, .code yX2_findRises cX2_findRises 6 (some .int), .fieldLink RX2 9 "LoopSlicer$Loop" "frames" "I", .fieldLink RX2 18 "LoopSlicer$Loop" "energies" "[I", .fieldLink RX2 30 "LoopSlicer$Loop" "settings" "[I"] ++ wsX40 ++ wsX20)
def wsX4_isImage : List Cond := .code yX4_isImage cX4_isImage 1 (some .boolean) :: ([])
def wsX4_keep : List Cond := .code yX4_keep cX4_keep 2 (some .int) :: ([.fieldLink RX4 41 "LoopSlicer" "images" "[LLoopSlicer$Loop;", .fieldLink RX4 10 "LoopSlicer" "loop" "LLoopSlicer$Loop;", .fieldLink RX4 45 "LoopSlicer" "kept" "[Z", .fieldLink RX4 90 "LoopSlicer$Loop" "markCount" "I", .methodLink RX4 178 yX4_isImage, .static yX4_isImage, .initialized RX4, .code yX4_isImage cX4_isImage 1 (some .boolean), .methodLink RX4 181 yX2_copy, .instanceMethod yX2_copy, .selects RX2 yX2_copy yX2_copy, .initialized RX2, .code yX2_copy cX2_copy 2 none, .fieldLink RX2 9 "LoopSlicer$Loop" "frames" "I", .fieldLink RX2 15 "LoopSlicer$Loop" "markCount" "I", .fieldLink RX2 18 "LoopSlicer$Loop" "energies" "[I", .methodLink RX2 39 arraycopyName, .native arraycopyName, .static arraycopyName, .initialized "java/lang/System", .fieldLink RX2 30 "LoopSlicer$Loop" "settings" "[I", .fieldLink RX2 33 "LoopSlicer$Loop" "marks" "[I", .fieldLink RX2 36 "LoopSlicer$Loop" "sequence" "[I"] ++ wsX40 ++ wsX20)
def wsX4_back_r1 : List Cond := [Cond.fieldLink RX4 45 "LoopSlicer" "kept" "[Z", Cond.fieldLink RX4 37 "LoopSlicer" "history" "LLoopSlicer$History;", Cond.fieldLink RX4 10 "LoopSlicer" "loop" "LLoopSlicer$Loop;", Cond.fieldLink RX4 41 "LoopSlicer" "images" "[LLoopSlicer$Loop;", Cond.fieldLink RX4 90 "LoopSlicer$Loop" "markCount" "I", Cond.methodLink RX4 178 yX4_isImage, Cond.static yX4_isImage, Cond.initialized RX4, Cond.code yX4_isImage cX4_isImage 1 (some .boolean), Cond.methodLink RX4 53 yX1_push, Cond.instanceMethod yX1_push, Cond.selects RX1 yX1_push yX1_push, Cond.initialized RX1, Cond.code yX1_push cX1_push 2 none, Cond.fieldLink RX1 18 "LoopSlicer$History" "newest" "I", Cond.fieldLink RX1 11 "LoopSlicer$History" "states" "[LLoopSlicer$Loop;", Cond.fieldLink RX1 26 "LoopSlicer$History" "size" "I", Cond.methodLink RX1 22 yX2_copy, Cond.instanceMethod yX2_copy, Cond.selects RX2 yX2_copy yX2_copy, Cond.initialized RX2, Cond.code yX2_copy cX2_copy 2 none, Cond.fieldLink RX2 9 "LoopSlicer$Loop" "frames" "I", Cond.fieldLink RX2 15 "LoopSlicer$Loop" "markCount" "I"]
def wsX4_back_r2 : List Cond := [Cond.fieldLink RX2 18 "LoopSlicer$Loop" "energies" "[I", Cond.methodLink RX2 39 arraycopyName, Cond.native arraycopyName, Cond.static arraycopyName, Cond.initialized "java/lang/System", Cond.fieldLink RX2 30 "LoopSlicer$Loop" "settings" "[I", Cond.fieldLink RX2 33 "LoopSlicer$Loop" "marks" "[I", Cond.fieldLink RX2 36 "LoopSlicer$Loop" "sequence" "[I", Cond.methodLink RX4 181 yX2_copy]
def wsX4_back : List Cond := .code yX4_back cX4_back 2 (some .int) :: ((wsX4_back_r1 ++ wsX4_back_r2) ++ wsX40 ++ wsX20 ++ wsX10)
def wsX5_layOrder : List Cond := .code yX5_layOrder cX5_layOrder 2 none :: ([.fieldLink RX5 7 "LoopSlicerModel" "w" "[I"] ++ wsX50)
def wsX5_layLoop : List Cond := .code yX5_layLoop cX5_layLoop 3 none :: ([.fieldLink RX5 7 "LoopSlicerModel" "w" "[I", .methodLink RX5 40 yX5_layOrder, .instanceMethod yX5_layOrder, .selects RX5 yX5_layOrder yX5_layOrder, .initialized RX5, .code yX5_layOrder cX5_layOrder 2 none] ++ wsX50)
def wsX5_init : List Cond := .code yX5_init cX5_init 1 none :: ([.methodLink RX5 1 objectInit, .instanceMethod objectInit, .code objectInit ⟨#[0xb1]⟩ 1 none, .arrayClass .int, .fieldLink RX5 7 "LoopSlicerModel" "w" "[I", .fieldLink RX5 13 "LoopSlicerModel" "past" "[I", .fieldLink RX5 16 "LoopSlicerModel" "images" "[I", .fieldLink RX5 19 "LoopSlicerModel" "found" "[I", .fieldLink RX5 22 "LoopSlicerModel" "budget" "[I", .fieldLink RX5 25 "LoopSlicerModel" "steps" "[I", .arrayClass .long, .fieldLink RX5 28 "LoopSlicerModel" "best" "[J", .arrayClass .boolean, .fieldLink RX5 32 "LoopSlicerModel" "isServed" "[Z", .methodLink RX5 36 yX5_layLoop, .instanceMethod yX5_layLoop, .selects RX5 yX5_layLoop yX5_layLoop, .initialized RX5, .code yX5_layLoop cX5_layLoop 3 none, .methodLink RX5 40 yX5_layOrder, .instanceMethod yX5_layOrder, .selects RX5 yX5_layOrder yX5_layOrder, .code yX5_layOrder cX5_layOrder 2 none] ++ wsX50)
def wsX5_isIn : List Cond := .code yX5_isIn cX5_isIn 3 (some .boolean) :: ([])
def wsX5_remember : List Cond := .code yX5_remember cX5_remember 2 none :: ([.fieldLink RX5 43 "LoopSlicerModel" "pastMany" "I", .fieldLink RX5 13 "LoopSlicerModel" "past" "[I", .fieldLink RX5 7 "LoopSlicerModel" "w" "[I"] ++ wsX50)
def wsX5_isFrame : List Cond := .code yX5_isFrame cX5_isFrame 2 (some .boolean) :: ([.fieldLink RX5 7 "LoopSlicerModel" "w" "[I", .methodLink RX5 47 yX5_isIn, .static yX5_isIn, .initialized RX5, .code yX5_isIn cX5_isIn 3 (some .boolean)] ++ wsX50)
def wsX5_isSlice : List Cond := .code yX5_isSlice cX5_isSlice 2 (some .boolean) :: ([.fieldLink RX5 7 "LoopSlicerModel" "w" "[I", .methodLink RX5 47 yX5_isIn, .static yX5_isIn, .initialized RX5, .code yX5_isIn cX5_isIn 3 (some .boolean)] ++ wsX50)
def wsX5_frameOf : List Cond := .code yX5_frameOf cX5_frameOf 2 (some .int) :: ([.fieldLink RX5 7 "LoopSlicerModel" "w" "[I"] ++ wsX50)
def wsX5_lengthOf : List Cond := .code yX5_lengthOf cX5_lengthOf 2 (some .int) :: ([.fieldLink RX5 7 "LoopSlicerModel" "w" "[I", .methodLink RX5 51 yX5_frameOf, .instanceMethod yX5_frameOf, .selects RX5 yX5_frameOf yX5_frameOf, .initialized RX5, .code yX5_frameOf cX5_frameOf 2 (some .int)] ++ wsX50)
def wsX5_whole : List Cond := .code yX5_whole cX5_whole 1 (some .int) :: ([.fieldLink RX5 7 "LoopSlicerModel" "w" "[I"] ++ wsX50)
def wsX5_findBy : List Cond := .code yX5_findBy cX5_findBy 4 (some .int) :: ([.fieldLink RX5 19 "LoopSlicerModel" "found" "[I", .fieldLink RX5 7 "LoopSlicerModel" "w" "[I"] ++ wsX50)
def wsX5_remainder : List Cond := .code yX5_remainder cX5_remainder 2 (some .long) :: ([.fieldLink RX5 7 "LoopSlicerModel" "w" "[I", .methodLink RX5 55 yX5_lengthOf, .instanceMethod yX5_lengthOf, .selects RX5 yX5_lengthOf yX5_lengthOf, .initialized RX5, .code yX5_lengthOf cX5_lengthOf 2 (some .int), .methodLink RX5 51 yX5_frameOf, .instanceMethod yX5_frameOf, .selects RX5 yX5_frameOf yX5_frameOf, .code yX5_frameOf cX5_frameOf 2 (some .int), .methodLink RX5 58 yX5_whole, .instanceMethod yX5_whole, .selects RX5 yX5_whole yX5_whole, .code yX5_whole cX5_whole 1 (some .int)] ++ wsX50)
def wsX5_layFree : List Cond := .code yX5_layFree cX5_layFree 6 none :: ([.fieldLink RX5 7 "LoopSlicerModel" "w" "[I", .fieldLink RX5 22 "LoopSlicerModel" "budget" "[I", .fieldLink RX5 32 "LoopSlicerModel" "isServed" "[Z", .methodLink RX5 55 yX5_lengthOf, .instanceMethod yX5_lengthOf, .selects RX5 yX5_lengthOf yX5_lengthOf, .initialized RX5, .code yX5_lengthOf cX5_lengthOf 2 (some .int), .methodLink RX5 51 yX5_frameOf, .instanceMethod yX5_frameOf, .selects RX5 yX5_frameOf yX5_frameOf, .code yX5_frameOf cX5_frameOf 2 (some .int), .methodLink RX5 58 yX5_whole, .instanceMethod yX5_whole, .selects RX5 yX5_whole yX5_whole, .code yX5_whole cX5_whole 1 (some .int), .methodLink RX5 62 yX5_remainder, .instanceMethod yX5_remainder, .selects RX5 yX5_remainder yX5_remainder, .code yX5_remainder cX5_remainder 2 (some .long)] ++ wsX50)
def wsX5_sampleAt : List Cond := .code yX5_sampleAt cX5_sampleAt 3 (some .int) :: ([])
def wsX5_fits : List Cond := .code yX5_fits cX5_fits 3 (some .boolean) :: ([.fieldLink RX5 7 "LoopSlicerModel" "w" "[I", .constantLong RX5 66 (100), .methodLink RX5 55 yX5_lengthOf, .instanceMethod yX5_lengthOf, .selects RX5 yX5_lengthOf yX5_lengthOf, .initialized RX5, .code yX5_lengthOf cX5_lengthOf 2 (some .int), .methodLink RX5 51 yX5_frameOf, .instanceMethod yX5_frameOf, .selects RX5 yX5_frameOf yX5_frameOf, .code yX5_frameOf cX5_frameOf 2 (some .int)] ++ wsX50)
def wsX5_off : List Cond := .code yX5_off cX5_off 7 (some .long) :: ([.fieldLink RX5 7 "LoopSlicerModel" "w" "[I", .methodLink RX5 68 yX5_sampleAt, .static yX5_sampleAt, .initialized RX5, .code yX5_sampleAt cX5_sampleAt 3 (some .int), .methodLink RX5 51 yX5_frameOf, .instanceMethod yX5_frameOf, .selects RX5 yX5_frameOf yX5_frameOf, .code yX5_frameOf cX5_frameOf 2 (some .int)] ++ wsX50)
def wsX5_bestFrom : List Cond := .code yX5_bestFrom cX5_bestFrom 12 (some .long) :: ([.constantLong RX5 72 (1152921504606846976), .fieldLink RX5 7 "LoopSlicerModel" "w" "[I", .fieldLink RX5 28 "LoopSlicerModel" "best" "[J", .methodLink RX5 68 yX5_sampleAt, .static yX5_sampleAt, .initialized RX5, .code yX5_sampleAt cX5_sampleAt 3 (some .int), .methodLink RX5 74 yX5_fits, .instanceMethod yX5_fits, .selects RX5 yX5_fits yX5_fits, .code yX5_fits cX5_fits 3 (some .boolean), .constantLong RX5 66 (100), .methodLink RX5 55 yX5_lengthOf, .instanceMethod yX5_lengthOf, .selects RX5 yX5_lengthOf yX5_lengthOf, .code yX5_lengthOf cX5_lengthOf 2 (some .int), .methodLink RX5 51 yX5_frameOf, .instanceMethod yX5_frameOf, .selects RX5 yX5_frameOf yX5_frameOf, .code yX5_frameOf cX5_frameOf 2 (some .int), .methodLink RX5 78 yX5_off, .instanceMethod yX5_off, .selects RX5 yX5_off yX5_off, .code yX5_off cX5_off 7 (some .long)] ++ wsX50)
def wsX5_layGrid_r1 : List Cond := [Cond.fieldLink RX5 7 "LoopSlicerModel" "w" "[I", Cond.fieldLink RX5 28 "LoopSlicerModel" "best" "[J", Cond.constantLong RX5 72 (1152921504606846976), Cond.fieldLink RX5 85 "LoopSlicerModel" "least" "J", Cond.fieldLink RX5 25 "LoopSlicerModel" "steps" "[I", Cond.fieldLink RX5 22 "LoopSlicerModel" "budget" "[I", Cond.methodLink RX5 82 yX5_bestFrom, Cond.instanceMethod yX5_bestFrom, Cond.selects RX5 yX5_bestFrom yX5_bestFrom, Cond.initialized RX5, Cond.code yX5_bestFrom cX5_bestFrom 12 (some .long), Cond.methodLink RX5 68 yX5_sampleAt, Cond.static yX5_sampleAt, Cond.code yX5_sampleAt cX5_sampleAt 3 (some .int), Cond.methodLink RX5 74 yX5_fits, Cond.instanceMethod yX5_fits, Cond.selects RX5 yX5_fits yX5_fits, Cond.code yX5_fits cX5_fits 3 (some .boolean), Cond.constantLong RX5 66 (100), Cond.methodLink RX5 55 yX5_lengthOf, Cond.instanceMethod yX5_lengthOf, Cond.selects RX5 yX5_lengthOf yX5_lengthOf, Cond.code yX5_lengthOf cX5_lengthOf 2 (some .int), Cond.methodLink RX5 51 yX5_frameOf]
def wsX5_layGrid_r2 : List Cond := [Cond.instanceMethod yX5_frameOf, Cond.selects RX5 yX5_frameOf yX5_frameOf, Cond.code yX5_frameOf cX5_frameOf 2 (some .int), Cond.methodLink RX5 78 yX5_off, Cond.instanceMethod yX5_off, Cond.selects RX5 yX5_off yX5_off, Cond.code yX5_off cX5_off 7 (some .long)]
def wsX5_layGrid : List Cond := .code yX5_layGrid cX5_layGrid 7 (some .boolean) :: ((wsX5_layGrid_r1 ++ wsX5_layGrid_r2) ++ wsX50)
def wsX5_isLaid_r1 : List Cond := [Cond.fieldLink RX5 7 "LoopSlicerModel" "w" "[I", Cond.methodLink RX5 89 yX5_layGrid, Cond.instanceMethod yX5_layGrid, Cond.selects RX5 yX5_layGrid yX5_layGrid, Cond.initialized RX5, Cond.code yX5_layGrid cX5_layGrid 7 (some .boolean), Cond.fieldLink RX5 28 "LoopSlicerModel" "best" "[J", Cond.constantLong RX5 72 (1152921504606846976), Cond.fieldLink RX5 85 "LoopSlicerModel" "least" "J", Cond.fieldLink RX5 25 "LoopSlicerModel" "steps" "[I", Cond.fieldLink RX5 22 "LoopSlicerModel" "budget" "[I", Cond.methodLink RX5 82 yX5_bestFrom, Cond.instanceMethod yX5_bestFrom, Cond.selects RX5 yX5_bestFrom yX5_bestFrom, Cond.code yX5_bestFrom cX5_bestFrom 12 (some .long), Cond.methodLink RX5 68 yX5_sampleAt, Cond.static yX5_sampleAt, Cond.code yX5_sampleAt cX5_sampleAt 3 (some .int), Cond.methodLink RX5 74 yX5_fits, Cond.instanceMethod yX5_fits, Cond.selects RX5 yX5_fits yX5_fits, Cond.code yX5_fits cX5_fits 3 (some .boolean), Cond.constantLong RX5 66 (100), Cond.methodLink RX5 55 yX5_lengthOf]
def wsX5_isLaid_r2 : List Cond := [Cond.instanceMethod yX5_lengthOf, Cond.selects RX5 yX5_lengthOf yX5_lengthOf, Cond.code yX5_lengthOf cX5_lengthOf 2 (some .int), Cond.methodLink RX5 51 yX5_frameOf, Cond.instanceMethod yX5_frameOf, Cond.selects RX5 yX5_frameOf yX5_frameOf, Cond.code yX5_frameOf cX5_frameOf 2 (some .int), Cond.methodLink RX5 78 yX5_off, Cond.instanceMethod yX5_off, Cond.selects RX5 yX5_off yX5_off, Cond.code yX5_off cX5_off 7 (some .long), Cond.methodLink RX5 92 yX5_layFree, Cond.instanceMethod yX5_layFree, Cond.selects RX5 yX5_layFree yX5_layFree, Cond.code yX5_layFree cX5_layFree 6 none, Cond.fieldLink RX5 32 "LoopSlicerModel" "isServed" "[Z", Cond.methodLink RX5 58 yX5_whole, Cond.instanceMethod yX5_whole, Cond.selects RX5 yX5_whole yX5_whole, Cond.code yX5_whole cX5_whole 1 (some .int), Cond.methodLink RX5 62 yX5_remainder, Cond.instanceMethod yX5_remainder, Cond.selects RX5 yX5_remainder yX5_remainder, Cond.code yX5_remainder cX5_remainder 2 (some .long)]
def wsX5_isLaid : List Cond := .code yX5_isLaid cX5_isLaid 1 (some .boolean) :: ((wsX5_isLaid_r1 ++ wsX5_isLaid_r2) ++ wsX50)
def wsX5_placeOf : List Cond := .code yX5_placeOf cX5_placeOf 3 (some .int) :: ([.fieldLink RX5 7 "LoopSlicerModel" "w" "[I"] ++ wsX50)
def wsX5_fadeOf : List Cond := .code yX5_fadeOf cX5_fadeOf 4 (some .int) :: ([.fieldLink RX5 7 "LoopSlicerModel" "w" "[I", .fieldLink RX5 22 "LoopSlicerModel" "budget" "[I", .methodLink RX5 95 yX5_placeOf, .instanceMethod yX5_placeOf, .selects RX5 yX5_placeOf yX5_placeOf, .initialized RX5, .code yX5_placeOf cX5_placeOf 3 (some .int)] ++ wsX50)
def wsX5_begin : List Cond := .code yX5_begin cX5_begin 3 (some .int) :: ([.fieldLink RX5 7 "LoopSlicerModel" "w" "[I", .methodLink RX5 47 yX5_isIn, .static yX5_isIn, .initialized RX5, .code yX5_isIn cX5_isIn 3 (some .boolean), .methodLink RX5 98 yX5_remember, .instanceMethod yX5_remember, .selects RX5 yX5_remember yX5_remember, .code yX5_remember cX5_remember 2 none, .fieldLink RX5 43 "LoopSlicerModel" "pastMany" "I", .fieldLink RX5 13 "LoopSlicerModel" "past" "[I", .methodLink RX5 36 yX5_layLoop, .instanceMethod yX5_layLoop, .selects RX5 yX5_layLoop yX5_layLoop, .code yX5_layLoop cX5_layLoop 3 none, .methodLink RX5 40 yX5_layOrder, .instanceMethod yX5_layOrder, .selects RX5 yX5_layOrder yX5_layOrder, .code yX5_layOrder cX5_layOrder 2 none] ++ wsX50)
def wsX5_sound : List Cond := .code yX5_sound cX5_sound 6 (some .int) :: ([.fieldLink RX5 7 "LoopSlicerModel" "w" "[I", .methodLink RX5 101 yX5_isFrame, .instanceMethod yX5_isFrame, .selects RX5 yX5_isFrame yX5_isFrame, .initialized RX5, .code yX5_isFrame cX5_isFrame 2 (some .boolean), .methodLink RX5 47 yX5_isIn, .static yX5_isIn, .code yX5_isIn cX5_isIn 3 (some .boolean), .methodLink RX5 98 yX5_remember, .instanceMethod yX5_remember, .selects RX5 yX5_remember yX5_remember, .code yX5_remember cX5_remember 2 none, .fieldLink RX5 43 "LoopSlicerModel" "pastMany" "I", .fieldLink RX5 13 "LoopSlicerModel" "past" "[I"] ++ wsX50)
def wsX5_isOf : List Cond := .code yX5_isOf cX5_isOf 2 (some .boolean) :: ([.constant RX5 105 (200000), .methodLink RX5 47 yX5_isIn, .static yX5_isIn, .initialized RX5, .code yX5_isIn cX5_isIn 3 (some .boolean)])
def wsX5_set : List Cond := .code yX5_set cX5_set 4 (some .int) :: ([.fieldLink RX5 7 "LoopSlicerModel" "w" "[I", .methodLink RX5 106 yX5_isOf, .static yX5_isOf, .initialized RX5, .code yX5_isOf cX5_isOf 2 (some .boolean), .constant RX5 105 (200000), .methodLink RX5 47 yX5_isIn, .static yX5_isIn, .code yX5_isIn cX5_isIn 3 (some .boolean), .methodLink RX5 98 yX5_remember, .instanceMethod yX5_remember, .selects RX5 yX5_remember yX5_remember, .code yX5_remember cX5_remember 2 none, .fieldLink RX5 43 "LoopSlicerModel" "pastMany" "I", .fieldLink RX5 13 "LoopSlicerModel" "past" "[I"] ++ wsX50)
def wsX5_find : List Cond := .code yX5_find cX5_find 2 (some .int) :: ([.fieldLink RX5 7 "LoopSlicerModel" "w" "[I", .fieldLink RX5 19 "LoopSlicerModel" "found" "[I", .methodLink RX5 98 yX5_remember, .instanceMethod yX5_remember, .selects RX5 yX5_remember yX5_remember, .initialized RX5, .code yX5_remember cX5_remember 2 none, .fieldLink RX5 43 "LoopSlicerModel" "pastMany" "I", .fieldLink RX5 13 "LoopSlicerModel" "past" "[I", .methodLink RX5 109 yX5_findBy, .instanceMethod yX5_findBy, .selects RX5 yX5_findBy yX5_findBy, .code yX5_findBy cX5_findBy 4 (some .int), .methodLink RX5 40 yX5_layOrder, .instanceMethod yX5_layOrder, .selects RX5 yX5_layOrder yX5_layOrder, .code yX5_layOrder cX5_layOrder 2 none] ++ wsX50)
def wsX5_mark : List Cond := .code yX5_mark cX5_mark 4 (some .int) :: ([.fieldLink RX5 7 "LoopSlicerModel" "w" "[I", .methodLink RX5 101 yX5_isFrame, .instanceMethod yX5_isFrame, .selects RX5 yX5_isFrame yX5_isFrame, .initialized RX5, .code yX5_isFrame cX5_isFrame 2 (some .boolean), .methodLink RX5 47 yX5_isIn, .static yX5_isIn, .code yX5_isIn cX5_isIn 3 (some .boolean), .methodLink RX5 98 yX5_remember, .instanceMethod yX5_remember, .selects RX5 yX5_remember yX5_remember, .code yX5_remember cX5_remember 2 none, .fieldLink RX5 43 "LoopSlicerModel" "pastMany" "I", .fieldLink RX5 13 "LoopSlicerModel" "past" "[I", .methodLink RX5 40 yX5_layOrder, .instanceMethod yX5_layOrder, .selects RX5 yX5_layOrder yX5_layOrder, .code yX5_layOrder cX5_layOrder 2 none] ++ wsX50)
def wsX5_isFurther : List Cond := .code yX5_isFurther cX5_isFurther 2 (some .boolean) :: ([.fieldLink RX5 7 "LoopSlicerModel" "w" "[I", .methodLink RX5 47 yX5_isIn, .static yX5_isIn, .initialized RX5, .code yX5_isIn cX5_isIn 3 (some .boolean)] ++ wsX50)
def wsX5_unmark : List Cond := .code yX5_unmark cX5_unmark 3 (some .int) :: ([.fieldLink RX5 7 "LoopSlicerModel" "w" "[I", .methodLink RX5 112 yX5_isFurther, .instanceMethod yX5_isFurther, .selects RX5 yX5_isFurther yX5_isFurther, .initialized RX5, .code yX5_isFurther cX5_isFurther 2 (some .boolean), .methodLink RX5 47 yX5_isIn, .static yX5_isIn, .code yX5_isIn cX5_isIn 3 (some .boolean), .methodLink RX5 98 yX5_remember, .instanceMethod yX5_remember, .selects RX5 yX5_remember yX5_remember, .code yX5_remember cX5_remember 2 none, .fieldLink RX5 43 "LoopSlicerModel" "pastMany" "I", .fieldLink RX5 13 "LoopSlicerModel" "past" "[I", .methodLink RX5 40 yX5_layOrder, .instanceMethod yX5_layOrder, .selects RX5 yX5_layOrder yX5_layOrder, .code yX5_layOrder cX5_layOrder 2 none] ++ wsX50)
def wsX5_moveMark : List Cond := .code yX5_moveMark cX5_moveMark 4 (some .int) :: ([.fieldLink RX5 7 "LoopSlicerModel" "w" "[I", .methodLink RX5 112 yX5_isFurther, .instanceMethod yX5_isFurther, .selects RX5 yX5_isFurther yX5_isFurther, .initialized RX5, .code yX5_isFurther cX5_isFurther 2 (some .boolean), .methodLink RX5 47 yX5_isIn, .static yX5_isIn, .code yX5_isIn cX5_isIn 3 (some .boolean), .methodLink RX5 101 yX5_isFrame, .instanceMethod yX5_isFrame, .selects RX5 yX5_isFrame yX5_isFrame, .code yX5_isFrame cX5_isFrame 2 (some .boolean), .methodLink RX5 51 yX5_frameOf, .instanceMethod yX5_frameOf, .selects RX5 yX5_frameOf yX5_frameOf, .code yX5_frameOf cX5_frameOf 2 (some .int), .methodLink RX5 98 yX5_remember, .instanceMethod yX5_remember, .selects RX5 yX5_remember yX5_remember, .code yX5_remember cX5_remember 2 none, .fieldLink RX5 43 "LoopSlicerModel" "pastMany" "I", .fieldLink RX5 13 "LoopSlicerModel" "past" "[I"] ++ wsX50)
def wsX5_swap : List Cond := .code yX5_swap cX5_swap 4 (some .int) :: ([.fieldLink RX5 7 "LoopSlicerModel" "w" "[I", .methodLink RX5 115 yX5_isSlice, .instanceMethod yX5_isSlice, .selects RX5 yX5_isSlice yX5_isSlice, .initialized RX5, .code yX5_isSlice cX5_isSlice 2 (some .boolean), .methodLink RX5 47 yX5_isIn, .static yX5_isIn, .code yX5_isIn cX5_isIn 3 (some .boolean), .methodLink RX5 98 yX5_remember, .instanceMethod yX5_remember, .selects RX5 yX5_remember yX5_remember, .code yX5_remember cX5_remember 2 none, .fieldLink RX5 43 "LoopSlicerModel" "pastMany" "I", .fieldLink RX5 13 "LoopSlicerModel" "past" "[I"] ++ wsX50)
def wsX5_reverse : List Cond := .code yX5_reverse cX5_reverse 4 (some .int) :: ([.fieldLink RX5 7 "LoopSlicerModel" "w" "[I", .methodLink RX5 98 yX5_remember, .instanceMethod yX5_remember, .selects RX5 yX5_remember yX5_remember, .initialized RX5, .code yX5_remember cX5_remember 2 none, .fieldLink RX5 43 "LoopSlicerModel" "pastMany" "I", .fieldLink RX5 13 "LoopSlicerModel" "past" "[I"] ++ wsX50)
def wsX5_undo : List Cond := .code yX5_undo cX5_undo 2 (some .int) :: ([.fieldLink RX5 43 "LoopSlicerModel" "pastMany" "I", .fieldLink RX5 7 "LoopSlicerModel" "w" "[I", .fieldLink RX5 13 "LoopSlicerModel" "past" "[I"] ++ wsX50)
def wsX5_beyond_r1 : List Cond := [Cond.fieldLink RX5 7 "LoopSlicerModel" "w" "[I", Cond.fieldLink RX5 22 "LoopSlicerModel" "budget" "[I", Cond.methodLink RX5 118 yX5_isLaid, Cond.instanceMethod yX5_isLaid, Cond.selects RX5 yX5_isLaid yX5_isLaid, Cond.initialized RX5, Cond.code yX5_isLaid cX5_isLaid 1 (some .boolean), Cond.methodLink RX5 89 yX5_layGrid, Cond.instanceMethod yX5_layGrid, Cond.selects RX5 yX5_layGrid yX5_layGrid, Cond.code yX5_layGrid cX5_layGrid 7 (some .boolean), Cond.fieldLink RX5 28 "LoopSlicerModel" "best" "[J", Cond.constantLong RX5 72 (1152921504606846976), Cond.fieldLink RX5 85 "LoopSlicerModel" "least" "J", Cond.fieldLink RX5 25 "LoopSlicerModel" "steps" "[I", Cond.methodLink RX5 82 yX5_bestFrom, Cond.instanceMethod yX5_bestFrom, Cond.selects RX5 yX5_bestFrom yX5_bestFrom, Cond.code yX5_bestFrom cX5_bestFrom 12 (some .long), Cond.methodLink RX5 68 yX5_sampleAt, Cond.static yX5_sampleAt, Cond.code yX5_sampleAt cX5_sampleAt 3 (some .int), Cond.methodLink RX5 74 yX5_fits, Cond.instanceMethod yX5_fits]
def wsX5_beyond_r2 : List Cond := [Cond.selects RX5 yX5_fits yX5_fits, Cond.code yX5_fits cX5_fits 3 (some .boolean), Cond.constantLong RX5 66 (100), Cond.methodLink RX5 55 yX5_lengthOf, Cond.instanceMethod yX5_lengthOf, Cond.selects RX5 yX5_lengthOf yX5_lengthOf, Cond.code yX5_lengthOf cX5_lengthOf 2 (some .int), Cond.methodLink RX5 51 yX5_frameOf, Cond.instanceMethod yX5_frameOf, Cond.selects RX5 yX5_frameOf yX5_frameOf, Cond.code yX5_frameOf cX5_frameOf 2 (some .int), Cond.methodLink RX5 78 yX5_off, Cond.instanceMethod yX5_off, Cond.selects RX5 yX5_off yX5_off, Cond.code yX5_off cX5_off 7 (some .long), Cond.methodLink RX5 92 yX5_layFree, Cond.instanceMethod yX5_layFree, Cond.selects RX5 yX5_layFree yX5_layFree, Cond.code yX5_layFree cX5_layFree 6 none, Cond.fieldLink RX5 32 "LoopSlicerModel" "isServed" "[Z", Cond.methodLink RX5 58 yX5_whole, Cond.instanceMethod yX5_whole, Cond.selects RX5 yX5_whole yX5_whole, Cond.code yX5_whole cX5_whole 1 (some .int)]
def wsX5_beyond_r3 : List Cond := [Cond.methodLink RX5 62 yX5_remainder, Cond.instanceMethod yX5_remainder, Cond.selects RX5 yX5_remainder yX5_remainder, Cond.code yX5_remainder cX5_remainder 2 (some .long)]
def wsX5_beyond : List Cond := .code yX5_beyond cX5_beyond 3 (some .int) :: ((wsX5_beyond_r1 ++ (wsX5_beyond_r2 ++ wsX5_beyond_r3)) ++ wsX50)
def wsX5_fades_r1 : List Cond := [Cond.fieldLink RX5 7 "LoopSlicerModel" "w" "[I", Cond.methodLink RX5 118 yX5_isLaid, Cond.instanceMethod yX5_isLaid, Cond.selects RX5 yX5_isLaid yX5_isLaid, Cond.initialized RX5, Cond.code yX5_isLaid cX5_isLaid 1 (some .boolean), Cond.methodLink RX5 89 yX5_layGrid, Cond.instanceMethod yX5_layGrid, Cond.selects RX5 yX5_layGrid yX5_layGrid, Cond.code yX5_layGrid cX5_layGrid 7 (some .boolean), Cond.fieldLink RX5 28 "LoopSlicerModel" "best" "[J", Cond.constantLong RX5 72 (1152921504606846976), Cond.fieldLink RX5 85 "LoopSlicerModel" "least" "J", Cond.fieldLink RX5 25 "LoopSlicerModel" "steps" "[I", Cond.fieldLink RX5 22 "LoopSlicerModel" "budget" "[I", Cond.methodLink RX5 82 yX5_bestFrom, Cond.instanceMethod yX5_bestFrom, Cond.selects RX5 yX5_bestFrom yX5_bestFrom, Cond.code yX5_bestFrom cX5_bestFrom 12 (some .long), Cond.methodLink RX5 68 yX5_sampleAt, Cond.static yX5_sampleAt, Cond.code yX5_sampleAt cX5_sampleAt 3 (some .int), Cond.methodLink RX5 74 yX5_fits, Cond.instanceMethod yX5_fits]
def wsX5_fades_r2 : List Cond := [Cond.selects RX5 yX5_fits yX5_fits, Cond.code yX5_fits cX5_fits 3 (some .boolean), Cond.constantLong RX5 66 (100), Cond.methodLink RX5 55 yX5_lengthOf, Cond.instanceMethod yX5_lengthOf, Cond.selects RX5 yX5_lengthOf yX5_lengthOf, Cond.code yX5_lengthOf cX5_lengthOf 2 (some .int), Cond.methodLink RX5 51 yX5_frameOf, Cond.instanceMethod yX5_frameOf, Cond.selects RX5 yX5_frameOf yX5_frameOf, Cond.code yX5_frameOf cX5_frameOf 2 (some .int), Cond.methodLink RX5 78 yX5_off, Cond.instanceMethod yX5_off, Cond.selects RX5 yX5_off yX5_off, Cond.code yX5_off cX5_off 7 (some .long), Cond.methodLink RX5 92 yX5_layFree, Cond.instanceMethod yX5_layFree, Cond.selects RX5 yX5_layFree yX5_layFree, Cond.code yX5_layFree cX5_layFree 6 none, Cond.fieldLink RX5 32 "LoopSlicerModel" "isServed" "[Z", Cond.methodLink RX5 58 yX5_whole, Cond.instanceMethod yX5_whole, Cond.selects RX5 yX5_whole yX5_whole, Cond.code yX5_whole cX5_whole 1 (some .int)]
def wsX5_fades_r3 : List Cond := [Cond.methodLink RX5 62 yX5_remainder, Cond.instanceMethod yX5_remainder, Cond.selects RX5 yX5_remainder yX5_remainder, Cond.code yX5_remainder cX5_remainder 2 (some .long), Cond.methodLink RX5 122 yX5_fadeOf, Cond.instanceMethod yX5_fadeOf, Cond.selects RX5 yX5_fadeOf yX5_fadeOf, Cond.code yX5_fadeOf cX5_fadeOf 4 (some .int), Cond.methodLink RX5 95 yX5_placeOf, Cond.instanceMethod yX5_placeOf, Cond.selects RX5 yX5_placeOf yX5_placeOf, Cond.code yX5_placeOf cX5_placeOf 3 (some .int)]
def wsX5_fades : List Cond := .code yX5_fades cX5_fades 3 (some .int) :: ((wsX5_fades_r1 ++ (wsX5_fades_r2 ++ wsX5_fades_r3)) ++ wsX50)
def wsX5_told_r1 : List Cond := [Cond.fieldLink RX5 7 "LoopSlicerModel" "w" "[I", Cond.fieldLink RX5 43 "LoopSlicerModel" "pastMany" "I", Cond.methodLink RX5 58 yX5_whole, Cond.instanceMethod yX5_whole, Cond.selects RX5 yX5_whole yX5_whole, Cond.initialized RX5, Cond.code yX5_whole cX5_whole 1 (some .int), Cond.methodLink RX5 118 yX5_isLaid, Cond.instanceMethod yX5_isLaid, Cond.selects RX5 yX5_isLaid yX5_isLaid, Cond.code yX5_isLaid cX5_isLaid 1 (some .boolean), Cond.methodLink RX5 89 yX5_layGrid, Cond.instanceMethod yX5_layGrid, Cond.selects RX5 yX5_layGrid yX5_layGrid, Cond.code yX5_layGrid cX5_layGrid 7 (some .boolean), Cond.fieldLink RX5 28 "LoopSlicerModel" "best" "[J", Cond.constantLong RX5 72 (1152921504606846976), Cond.fieldLink RX5 85 "LoopSlicerModel" "least" "J", Cond.fieldLink RX5 25 "LoopSlicerModel" "steps" "[I", Cond.fieldLink RX5 22 "LoopSlicerModel" "budget" "[I", Cond.methodLink RX5 82 yX5_bestFrom, Cond.instanceMethod yX5_bestFrom, Cond.selects RX5 yX5_bestFrom yX5_bestFrom, Cond.code yX5_bestFrom cX5_bestFrom 12 (some .long)]
def wsX5_told_r2 : List Cond := [Cond.methodLink RX5 68 yX5_sampleAt, Cond.static yX5_sampleAt, Cond.code yX5_sampleAt cX5_sampleAt 3 (some .int), Cond.methodLink RX5 74 yX5_fits, Cond.instanceMethod yX5_fits, Cond.selects RX5 yX5_fits yX5_fits, Cond.code yX5_fits cX5_fits 3 (some .boolean), Cond.constantLong RX5 66 (100), Cond.methodLink RX5 55 yX5_lengthOf, Cond.instanceMethod yX5_lengthOf, Cond.selects RX5 yX5_lengthOf yX5_lengthOf, Cond.code yX5_lengthOf cX5_lengthOf 2 (some .int), Cond.methodLink RX5 51 yX5_frameOf, Cond.instanceMethod yX5_frameOf, Cond.selects RX5 yX5_frameOf yX5_frameOf, Cond.code yX5_frameOf cX5_frameOf 2 (some .int), Cond.methodLink RX5 78 yX5_off, Cond.instanceMethod yX5_off, Cond.selects RX5 yX5_off yX5_off, Cond.code yX5_off cX5_off 7 (some .long), Cond.methodLink RX5 92 yX5_layFree, Cond.instanceMethod yX5_layFree, Cond.selects RX5 yX5_layFree yX5_layFree, Cond.code yX5_layFree cX5_layFree 6 none]
def wsX5_told_r3 : List Cond := [Cond.fieldLink RX5 32 "LoopSlicerModel" "isServed" "[Z", Cond.methodLink RX5 62 yX5_remainder, Cond.instanceMethod yX5_remainder, Cond.selects RX5 yX5_remainder yX5_remainder, Cond.code yX5_remainder cX5_remainder 2 (some .long), Cond.methodLink RX5 125 yX5_beyond, Cond.instanceMethod yX5_beyond, Cond.selects RX5 yX5_beyond yX5_beyond, Cond.code yX5_beyond cX5_beyond 3 (some .int), Cond.methodLink RX5 128 yX5_fades, Cond.instanceMethod yX5_fades, Cond.selects RX5 yX5_fades yX5_fades, Cond.code yX5_fades cX5_fades 3 (some .int), Cond.methodLink RX5 122 yX5_fadeOf, Cond.instanceMethod yX5_fadeOf, Cond.selects RX5 yX5_fadeOf yX5_fadeOf, Cond.code yX5_fadeOf cX5_fadeOf 4 (some .int), Cond.methodLink RX5 95 yX5_placeOf, Cond.instanceMethod yX5_placeOf, Cond.selects RX5 yX5_placeOf yX5_placeOf, Cond.code yX5_placeOf cX5_placeOf 3 (some .int)]
def wsX5_told : List Cond := .code yX5_told cX5_told 2 (some .int) :: ((wsX5_told_r1 ++ (wsX5_told_r2 ++ wsX5_told_r3)) ++ wsX50)
def wsX5_setting : List Cond := .code yX5_setting cX5_setting 2 (some .int) :: ([.fieldLink RX5 7 "LoopSlicerModel" "w" "[I", .methodLink RX5 47 yX5_isIn, .static yX5_isIn, .initialized RX5, .code yX5_isIn cX5_isIn 3 (some .boolean)] ++ wsX50)
def wsX5_energy : List Cond := .code yX5_energy cX5_energy 2 (some .int) :: ([.fieldLink RX5 7 "LoopSlicerModel" "w" "[I", .methodLink RX5 101 yX5_isFrame, .instanceMethod yX5_isFrame, .selects RX5 yX5_isFrame yX5_isFrame, .initialized RX5, .code yX5_isFrame cX5_isFrame 2 (some .boolean), .methodLink RX5 47 yX5_isIn, .static yX5_isIn, .code yX5_isIn cX5_isIn 3 (some .boolean)] ++ wsX50)
def wsX5_loudest : List Cond := .code yX5_loudest cX5_loudest 4 (some .int) :: ([.fieldLink RX5 7 "LoopSlicerModel" "w" "[I", .methodLink RX5 51 yX5_frameOf, .instanceMethod yX5_frameOf, .selects RX5 yX5_frameOf yX5_frameOf, .initialized RX5, .code yX5_frameOf cX5_frameOf 2 (some .int)] ++ wsX50)
def wsX5_beginOf : List Cond := .code yX5_beginOf cX5_beginOf 4 (some .int) :: ([.fieldLink RX5 7 "LoopSlicerModel" "w" "[I", .fieldLink RX5 22 "LoopSlicerModel" "budget" "[I"] ++ wsX50)
def wsX5_slice_r1 : List Cond := [Cond.fieldLink RX5 22 "LoopSlicerModel" "budget" "[I", Cond.fieldLink RX5 7 "LoopSlicerModel" "w" "[I", Cond.fieldLink RX5 25 "LoopSlicerModel" "steps" "[I", Cond.methodLink RX5 115 yX5_isSlice, Cond.instanceMethod yX5_isSlice, Cond.selects RX5 yX5_isSlice yX5_isSlice, Cond.initialized RX5, Cond.code yX5_isSlice cX5_isSlice 2 (some .boolean), Cond.methodLink RX5 47 yX5_isIn, Cond.static yX5_isIn, Cond.code yX5_isIn cX5_isIn 3 (some .boolean), Cond.methodLink RX5 51 yX5_frameOf, Cond.instanceMethod yX5_frameOf, Cond.selects RX5 yX5_frameOf yX5_frameOf, Cond.code yX5_frameOf cX5_frameOf 2 (some .int), Cond.methodLink RX5 55 yX5_lengthOf, Cond.instanceMethod yX5_lengthOf, Cond.selects RX5 yX5_lengthOf yX5_lengthOf, Cond.code yX5_lengthOf cX5_lengthOf 2 (some .int), Cond.methodLink RX5 95 yX5_placeOf, Cond.instanceMethod yX5_placeOf, Cond.selects RX5 yX5_placeOf yX5_placeOf, Cond.code yX5_placeOf cX5_placeOf 3 (some .int), Cond.methodLink RX5 131 yX5_loudest]
def wsX5_slice_r2 : List Cond := [Cond.instanceMethod yX5_loudest, Cond.selects RX5 yX5_loudest yX5_loudest, Cond.code yX5_loudest cX5_loudest 4 (some .int), Cond.methodLink RX5 118 yX5_isLaid, Cond.instanceMethod yX5_isLaid, Cond.selects RX5 yX5_isLaid yX5_isLaid, Cond.code yX5_isLaid cX5_isLaid 1 (some .boolean), Cond.methodLink RX5 89 yX5_layGrid, Cond.instanceMethod yX5_layGrid, Cond.selects RX5 yX5_layGrid yX5_layGrid, Cond.code yX5_layGrid cX5_layGrid 7 (some .boolean), Cond.fieldLink RX5 28 "LoopSlicerModel" "best" "[J", Cond.constantLong RX5 72 (1152921504606846976), Cond.fieldLink RX5 85 "LoopSlicerModel" "least" "J", Cond.methodLink RX5 82 yX5_bestFrom, Cond.instanceMethod yX5_bestFrom, Cond.selects RX5 yX5_bestFrom yX5_bestFrom, Cond.code yX5_bestFrom cX5_bestFrom 12 (some .long), Cond.methodLink RX5 68 yX5_sampleAt, Cond.static yX5_sampleAt, Cond.code yX5_sampleAt cX5_sampleAt 3 (some .int), Cond.methodLink RX5 74 yX5_fits, Cond.instanceMethod yX5_fits, Cond.selects RX5 yX5_fits yX5_fits]
def wsX5_slice_r3 : List Cond := [Cond.code yX5_fits cX5_fits 3 (some .boolean), Cond.constantLong RX5 66 (100), Cond.methodLink RX5 78 yX5_off, Cond.instanceMethod yX5_off, Cond.selects RX5 yX5_off yX5_off, Cond.code yX5_off cX5_off 7 (some .long), Cond.methodLink RX5 92 yX5_layFree, Cond.instanceMethod yX5_layFree, Cond.selects RX5 yX5_layFree yX5_layFree, Cond.code yX5_layFree cX5_layFree 6 none, Cond.fieldLink RX5 32 "LoopSlicerModel" "isServed" "[Z", Cond.methodLink RX5 58 yX5_whole, Cond.instanceMethod yX5_whole, Cond.selects RX5 yX5_whole yX5_whole, Cond.code yX5_whole cX5_whole 1 (some .int), Cond.methodLink RX5 62 yX5_remainder, Cond.instanceMethod yX5_remainder, Cond.selects RX5 yX5_remainder yX5_remainder, Cond.code yX5_remainder cX5_remainder 2 (some .long), Cond.methodLink RX5 134 yX5_beginOf, Cond.instanceMethod yX5_beginOf, Cond.selects RX5 yX5_beginOf yX5_beginOf, Cond.code yX5_beginOf cX5_beginOf 4 (some .int), Cond.methodLink RX5 122 yX5_fadeOf]
def wsX5_slice_r4 : List Cond := [Cond.instanceMethod yX5_fadeOf, Cond.selects RX5 yX5_fadeOf yX5_fadeOf, Cond.code yX5_fadeOf cX5_fadeOf 4 (some .int)]
def wsX5_slice : List Cond := .code yX5_slice cX5_slice 3 (some .int) :: ((wsX5_slice_r1 ++ (wsX5_slice_r2 ++ (wsX5_slice_r3 ++ wsX5_slice_r4))) ++ wsX50)
def wsX5_order : List Cond := .code yX5_order cX5_order 2 (some .int) :: ([.fieldLink RX5 7 "LoopSlicerModel" "w" "[I", .methodLink RX5 115 yX5_isSlice, .instanceMethod yX5_isSlice, .selects RX5 yX5_isSlice yX5_isSlice, .initialized RX5, .code yX5_isSlice cX5_isSlice 2 (some .boolean), .methodLink RX5 47 yX5_isIn, .static yX5_isIn, .code yX5_isIn cX5_isIn 3 (some .boolean)] ++ wsX50)
def wsX5_source_r1 : List Cond := [Cond.fieldLink RX5 7 "LoopSlicerModel" "w" "[I", Cond.fieldLink RX5 22 "LoopSlicerModel" "budget" "[I", Cond.methodLink RX5 47 yX5_isIn, Cond.static yX5_isIn, Cond.initialized RX5, Cond.code yX5_isIn cX5_isIn 3 (some .boolean), Cond.methodLink RX5 118 yX5_isLaid, Cond.instanceMethod yX5_isLaid, Cond.selects RX5 yX5_isLaid yX5_isLaid, Cond.code yX5_isLaid cX5_isLaid 1 (some .boolean), Cond.methodLink RX5 89 yX5_layGrid, Cond.instanceMethod yX5_layGrid, Cond.selects RX5 yX5_layGrid yX5_layGrid, Cond.code yX5_layGrid cX5_layGrid 7 (some .boolean), Cond.fieldLink RX5 28 "LoopSlicerModel" "best" "[J", Cond.constantLong RX5 72 (1152921504606846976), Cond.fieldLink RX5 85 "LoopSlicerModel" "least" "J", Cond.fieldLink RX5 25 "LoopSlicerModel" "steps" "[I", Cond.methodLink RX5 82 yX5_bestFrom, Cond.instanceMethod yX5_bestFrom, Cond.selects RX5 yX5_bestFrom yX5_bestFrom, Cond.code yX5_bestFrom cX5_bestFrom 12 (some .long), Cond.methodLink RX5 68 yX5_sampleAt, Cond.static yX5_sampleAt]
def wsX5_source_r2 : List Cond := [Cond.code yX5_sampleAt cX5_sampleAt 3 (some .int), Cond.methodLink RX5 74 yX5_fits, Cond.instanceMethod yX5_fits, Cond.selects RX5 yX5_fits yX5_fits, Cond.code yX5_fits cX5_fits 3 (some .boolean), Cond.constantLong RX5 66 (100), Cond.methodLink RX5 55 yX5_lengthOf, Cond.instanceMethod yX5_lengthOf, Cond.selects RX5 yX5_lengthOf yX5_lengthOf, Cond.code yX5_lengthOf cX5_lengthOf 2 (some .int), Cond.methodLink RX5 51 yX5_frameOf, Cond.instanceMethod yX5_frameOf, Cond.selects RX5 yX5_frameOf yX5_frameOf, Cond.code yX5_frameOf cX5_frameOf 2 (some .int), Cond.methodLink RX5 78 yX5_off, Cond.instanceMethod yX5_off, Cond.selects RX5 yX5_off yX5_off, Cond.code yX5_off cX5_off 7 (some .long), Cond.methodLink RX5 92 yX5_layFree, Cond.instanceMethod yX5_layFree, Cond.selects RX5 yX5_layFree yX5_layFree, Cond.code yX5_layFree cX5_layFree 6 none, Cond.fieldLink RX5 32 "LoopSlicerModel" "isServed" "[Z", Cond.methodLink RX5 58 yX5_whole]
def wsX5_source_r3 : List Cond := [Cond.instanceMethod yX5_whole, Cond.selects RX5 yX5_whole yX5_whole, Cond.code yX5_whole cX5_whole 1 (some .int), Cond.methodLink RX5 62 yX5_remainder, Cond.instanceMethod yX5_remainder, Cond.selects RX5 yX5_remainder yX5_remainder, Cond.code yX5_remainder cX5_remainder 2 (some .long), Cond.methodLink RX5 122 yX5_fadeOf, Cond.instanceMethod yX5_fadeOf, Cond.selects RX5 yX5_fadeOf yX5_fadeOf, Cond.code yX5_fadeOf cX5_fadeOf 4 (some .int), Cond.methodLink RX5 95 yX5_placeOf, Cond.instanceMethod yX5_placeOf, Cond.selects RX5 yX5_placeOf yX5_placeOf, Cond.code yX5_placeOf cX5_placeOf 3 (some .int)]
def wsX5_source : List Cond := .code yX5_source cX5_source 6 (some .int) :: ((wsX5_source_r1 ++ (wsX5_source_r2 ++ wsX5_source_r3)) ++ wsX50)
def wsX5_warp_r1 : List Cond := [Cond.constantFloat RX5 137 (3212836864), Cond.fieldLink RX5 22 "LoopSlicerModel" "budget" "[I", Cond.constantFloat RX5 138 (3239051264), Cond.methodLink RX5 115 yX5_isSlice, Cond.instanceMethod yX5_isSlice, Cond.selects RX5 yX5_isSlice yX5_isSlice, Cond.initialized RX5, Cond.code yX5_isSlice cX5_isSlice 2 (some .boolean), Cond.fieldLink RX5 7 "LoopSlicerModel" "w" "[I", Cond.methodLink RX5 47 yX5_isIn, Cond.static yX5_isIn, Cond.code yX5_isIn cX5_isIn 3 (some .boolean), Cond.methodLink RX5 118 yX5_isLaid, Cond.instanceMethod yX5_isLaid, Cond.selects RX5 yX5_isLaid yX5_isLaid, Cond.code yX5_isLaid cX5_isLaid 1 (some .boolean), Cond.methodLink RX5 89 yX5_layGrid, Cond.instanceMethod yX5_layGrid, Cond.selects RX5 yX5_layGrid yX5_layGrid, Cond.code yX5_layGrid cX5_layGrid 7 (some .boolean), Cond.fieldLink RX5 28 "LoopSlicerModel" "best" "[J", Cond.constantLong RX5 72 (1152921504606846976), Cond.fieldLink RX5 85 "LoopSlicerModel" "least" "J", Cond.fieldLink RX5 25 "LoopSlicerModel" "steps" "[I"]
def wsX5_warp_r2 : List Cond := [Cond.methodLink RX5 82 yX5_bestFrom, Cond.instanceMethod yX5_bestFrom, Cond.selects RX5 yX5_bestFrom yX5_bestFrom, Cond.code yX5_bestFrom cX5_bestFrom 12 (some .long), Cond.methodLink RX5 68 yX5_sampleAt, Cond.static yX5_sampleAt, Cond.code yX5_sampleAt cX5_sampleAt 3 (some .int), Cond.methodLink RX5 74 yX5_fits, Cond.instanceMethod yX5_fits, Cond.selects RX5 yX5_fits yX5_fits, Cond.code yX5_fits cX5_fits 3 (some .boolean), Cond.constantLong RX5 66 (100), Cond.methodLink RX5 55 yX5_lengthOf, Cond.instanceMethod yX5_lengthOf, Cond.selects RX5 yX5_lengthOf yX5_lengthOf, Cond.code yX5_lengthOf cX5_lengthOf 2 (some .int), Cond.methodLink RX5 51 yX5_frameOf, Cond.instanceMethod yX5_frameOf, Cond.selects RX5 yX5_frameOf yX5_frameOf, Cond.code yX5_frameOf cX5_frameOf 2 (some .int), Cond.methodLink RX5 78 yX5_off, Cond.instanceMethod yX5_off, Cond.selects RX5 yX5_off yX5_off, Cond.code yX5_off cX5_off 7 (some .long)]
def wsX5_warp_r3 : List Cond := [Cond.methodLink RX5 92 yX5_layFree, Cond.instanceMethod yX5_layFree, Cond.selects RX5 yX5_layFree yX5_layFree, Cond.code yX5_layFree cX5_layFree 6 none, Cond.fieldLink RX5 32 "LoopSlicerModel" "isServed" "[Z", Cond.methodLink RX5 58 yX5_whole, Cond.instanceMethod yX5_whole, Cond.selects RX5 yX5_whole yX5_whole, Cond.code yX5_whole cX5_whole 1 (some .int), Cond.methodLink RX5 62 yX5_remainder, Cond.instanceMethod yX5_remainder, Cond.selects RX5 yX5_remainder yX5_remainder, Cond.code yX5_remainder cX5_remainder 2 (some .long)]
def wsX5_warp : List Cond := .code yX5_warp cX5_warp 2 (some .float) :: ((wsX5_warp_r1 ++ (wsX5_warp_r2 ++ wsX5_warp_r3)) ++ wsX50)
def wsX5_shift_r1 : List Cond := [Cond.fieldLink RX5 7 "LoopSlicerModel" "w" "[I", Cond.fieldLink RX5 85 "LoopSlicerModel" "least" "J", Cond.methodLink RX5 89 yX5_layGrid, Cond.instanceMethod yX5_layGrid, Cond.selects RX5 yX5_layGrid yX5_layGrid, Cond.initialized RX5, Cond.code yX5_layGrid cX5_layGrid 7 (some .boolean), Cond.fieldLink RX5 28 "LoopSlicerModel" "best" "[J", Cond.constantLong RX5 72 (1152921504606846976), Cond.fieldLink RX5 25 "LoopSlicerModel" "steps" "[I", Cond.fieldLink RX5 22 "LoopSlicerModel" "budget" "[I", Cond.methodLink RX5 82 yX5_bestFrom, Cond.instanceMethod yX5_bestFrom, Cond.selects RX5 yX5_bestFrom yX5_bestFrom, Cond.code yX5_bestFrom cX5_bestFrom 12 (some .long), Cond.methodLink RX5 68 yX5_sampleAt, Cond.static yX5_sampleAt, Cond.code yX5_sampleAt cX5_sampleAt 3 (some .int), Cond.methodLink RX5 74 yX5_fits, Cond.instanceMethod yX5_fits, Cond.selects RX5 yX5_fits yX5_fits, Cond.code yX5_fits cX5_fits 3 (some .boolean), Cond.constantLong RX5 66 (100), Cond.methodLink RX5 55 yX5_lengthOf]
def wsX5_shift_r2 : List Cond := [Cond.instanceMethod yX5_lengthOf, Cond.selects RX5 yX5_lengthOf yX5_lengthOf, Cond.code yX5_lengthOf cX5_lengthOf 2 (some .int), Cond.methodLink RX5 51 yX5_frameOf, Cond.instanceMethod yX5_frameOf, Cond.selects RX5 yX5_frameOf yX5_frameOf, Cond.code yX5_frameOf cX5_frameOf 2 (some .int), Cond.methodLink RX5 78 yX5_off, Cond.instanceMethod yX5_off, Cond.selects RX5 yX5_off yX5_off, Cond.code yX5_off cX5_off 7 (some .long)]
def wsX5_shift : List Cond := .code yX5_shift cX5_shift 1 (some .int) :: ((wsX5_shift_r1 ++ wsX5_shift_r2) ++ wsX50)
def wsX5_leastGrid_r1 : List Cond := [Cond.fieldLink RX5 7 "LoopSlicerModel" "w" "[I", Cond.methodLink RX5 89 yX5_layGrid, Cond.instanceMethod yX5_layGrid, Cond.selects RX5 yX5_layGrid yX5_layGrid, Cond.initialized RX5, Cond.code yX5_layGrid cX5_layGrid 7 (some .boolean), Cond.fieldLink RX5 28 "LoopSlicerModel" "best" "[J", Cond.constantLong RX5 72 (1152921504606846976), Cond.fieldLink RX5 85 "LoopSlicerModel" "least" "J", Cond.fieldLink RX5 25 "LoopSlicerModel" "steps" "[I", Cond.fieldLink RX5 22 "LoopSlicerModel" "budget" "[I", Cond.methodLink RX5 82 yX5_bestFrom, Cond.instanceMethod yX5_bestFrom, Cond.selects RX5 yX5_bestFrom yX5_bestFrom, Cond.code yX5_bestFrom cX5_bestFrom 12 (some .long), Cond.methodLink RX5 68 yX5_sampleAt, Cond.static yX5_sampleAt, Cond.code yX5_sampleAt cX5_sampleAt 3 (some .int), Cond.methodLink RX5 74 yX5_fits, Cond.instanceMethod yX5_fits, Cond.selects RX5 yX5_fits yX5_fits, Cond.code yX5_fits cX5_fits 3 (some .boolean), Cond.constantLong RX5 66 (100), Cond.methodLink RX5 55 yX5_lengthOf]
def wsX5_leastGrid_r2 : List Cond := [Cond.instanceMethod yX5_lengthOf, Cond.selects RX5 yX5_lengthOf yX5_lengthOf, Cond.code yX5_lengthOf cX5_lengthOf 2 (some .int), Cond.methodLink RX5 51 yX5_frameOf, Cond.instanceMethod yX5_frameOf, Cond.selects RX5 yX5_frameOf yX5_frameOf, Cond.code yX5_frameOf cX5_frameOf 2 (some .int), Cond.methodLink RX5 78 yX5_off, Cond.instanceMethod yX5_off, Cond.selects RX5 yX5_off yX5_off, Cond.code yX5_off cX5_off 7 (some .long)]
def wsX5_leastGrid : List Cond := .code yX5_leastGrid cX5_leastGrid 2 (some .int) :: ((wsX5_leastGrid_r1 ++ wsX5_leastGrid_r2) ++ wsX50)
def wsX5_canBe_r1 : List Cond := [Cond.constant RX5 105 (200000), Cond.fieldLink RX5 7 "LoopSlicerModel" "w" "[I", Cond.methodLink RX5 47 yX5_isIn, Cond.static yX5_isIn, Cond.initialized RX5, Cond.code yX5_isIn cX5_isIn 3 (some .boolean), Cond.methodLink RX5 89 yX5_layGrid, Cond.instanceMethod yX5_layGrid, Cond.selects RX5 yX5_layGrid yX5_layGrid, Cond.code yX5_layGrid cX5_layGrid 7 (some .boolean), Cond.fieldLink RX5 28 "LoopSlicerModel" "best" "[J", Cond.constantLong RX5 72 (1152921504606846976), Cond.fieldLink RX5 85 "LoopSlicerModel" "least" "J", Cond.fieldLink RX5 25 "LoopSlicerModel" "steps" "[I", Cond.fieldLink RX5 22 "LoopSlicerModel" "budget" "[I", Cond.methodLink RX5 82 yX5_bestFrom, Cond.instanceMethod yX5_bestFrom, Cond.selects RX5 yX5_bestFrom yX5_bestFrom, Cond.code yX5_bestFrom cX5_bestFrom 12 (some .long), Cond.methodLink RX5 68 yX5_sampleAt, Cond.static yX5_sampleAt, Cond.code yX5_sampleAt cX5_sampleAt 3 (some .int), Cond.methodLink RX5 74 yX5_fits, Cond.instanceMethod yX5_fits]
def wsX5_canBe_r2 : List Cond := [Cond.selects RX5 yX5_fits yX5_fits, Cond.code yX5_fits cX5_fits 3 (some .boolean), Cond.constantLong RX5 66 (100), Cond.methodLink RX5 55 yX5_lengthOf, Cond.instanceMethod yX5_lengthOf, Cond.selects RX5 yX5_lengthOf yX5_lengthOf, Cond.code yX5_lengthOf cX5_lengthOf 2 (some .int), Cond.methodLink RX5 51 yX5_frameOf, Cond.instanceMethod yX5_frameOf, Cond.selects RX5 yX5_frameOf yX5_frameOf, Cond.code yX5_frameOf cX5_frameOf 2 (some .int), Cond.methodLink RX5 78 yX5_off, Cond.instanceMethod yX5_off, Cond.selects RX5 yX5_off yX5_off, Cond.code yX5_off cX5_off 7 (some .long)]
def wsX5_canBe : List Cond := .code yX5_canBe cX5_canBe 2 (some .boolean) :: ((wsX5_canBe_r1 ++ wsX5_canBe_r2) ++ wsX50)
def wsX5_nearTarget_r1 : List Cond := [Cond.fieldLink RX5 7 "LoopSlicerModel" "w" "[I", Cond.methodLink RX5 47 yX5_isIn, Cond.static yX5_isIn, Cond.initialized RX5, Cond.code yX5_isIn cX5_isIn 3 (some .boolean), Cond.methodLink RX5 139 yX5_canBe, Cond.instanceMethod yX5_canBe, Cond.selects RX5 yX5_canBe yX5_canBe, Cond.code yX5_canBe cX5_canBe 2 (some .boolean), Cond.constant RX5 105 (200000), Cond.methodLink RX5 89 yX5_layGrid, Cond.instanceMethod yX5_layGrid, Cond.selects RX5 yX5_layGrid yX5_layGrid, Cond.code yX5_layGrid cX5_layGrid 7 (some .boolean), Cond.fieldLink RX5 28 "LoopSlicerModel" "best" "[J", Cond.constantLong RX5 72 (1152921504606846976), Cond.fieldLink RX5 85 "LoopSlicerModel" "least" "J", Cond.fieldLink RX5 25 "LoopSlicerModel" "steps" "[I", Cond.fieldLink RX5 22 "LoopSlicerModel" "budget" "[I", Cond.methodLink RX5 82 yX5_bestFrom, Cond.instanceMethod yX5_bestFrom, Cond.selects RX5 yX5_bestFrom yX5_bestFrom, Cond.code yX5_bestFrom cX5_bestFrom 12 (some .long), Cond.methodLink RX5 68 yX5_sampleAt]
def wsX5_nearTarget_r2 : List Cond := [Cond.static yX5_sampleAt, Cond.code yX5_sampleAt cX5_sampleAt 3 (some .int), Cond.methodLink RX5 74 yX5_fits, Cond.instanceMethod yX5_fits, Cond.selects RX5 yX5_fits yX5_fits, Cond.code yX5_fits cX5_fits 3 (some .boolean), Cond.constantLong RX5 66 (100), Cond.methodLink RX5 55 yX5_lengthOf, Cond.instanceMethod yX5_lengthOf, Cond.selects RX5 yX5_lengthOf yX5_lengthOf, Cond.code yX5_lengthOf cX5_lengthOf 2 (some .int), Cond.methodLink RX5 51 yX5_frameOf, Cond.instanceMethod yX5_frameOf, Cond.selects RX5 yX5_frameOf yX5_frameOf, Cond.code yX5_frameOf cX5_frameOf 2 (some .int), Cond.methodLink RX5 78 yX5_off, Cond.instanceMethod yX5_off, Cond.selects RX5 yX5_off yX5_off, Cond.code yX5_off cX5_off 7 (some .long)]
def wsX5_nearTarget : List Cond := .code yX5_nearTarget cX5_nearTarget 3 (some .int) :: ((wsX5_nearTarget_r1 ++ wsX5_nearTarget_r2) ++ wsX50)
def wsX5_marksWith : List Cond := .code yX5_marksWith cX5_marksWith 2 (some .int) :: ([.methodLink RX5 47 yX5_isIn, .static yX5_isIn, .initialized RX5, .code yX5_isIn cX5_isIn 3 (some .boolean), .methodLink RX5 109 yX5_findBy, .instanceMethod yX5_findBy, .selects RX5 yX5_findBy yX5_findBy, .code yX5_findBy cX5_findBy 4 (some .int), .fieldLink RX5 19 "LoopSlicerModel" "found" "[I", .fieldLink RX5 7 "LoopSlicerModel" "w" "[I"] ++ wsX50)
def wsX5_thresholdFor : List Cond := .code yX5_thresholdFor cX5_thresholdFor 3 (some .int) :: ([.methodLink RX5 47 yX5_isIn, .static yX5_isIn, .initialized RX5, .code yX5_isIn cX5_isIn 3 (some .boolean), .methodLink RX5 109 yX5_findBy, .instanceMethod yX5_findBy, .selects RX5 yX5_findBy yX5_findBy, .code yX5_findBy cX5_findBy 4 (some .int), .fieldLink RX5 19 "LoopSlicerModel" "found" "[I", .fieldLink RX5 7 "LoopSlicerModel" "w" "[I"] ++ wsX50)
def wsX5_isImage : List Cond := .code yX5_isImage cX5_isImage 1 (some .boolean) :: ([.methodLink RX5 47 yX5_isIn, .static yX5_isIn, .initialized RX5, .code yX5_isIn cX5_isIn 3 (some .boolean)])
def wsX5_keep : List Cond := .code yX5_keep cX5_keep 3 (some .int) :: ([.fieldLink RX5 16 "LoopSlicerModel" "images" "[I", .fieldLink RX5 7 "LoopSlicerModel" "w" "[I", .fieldLink RX5 145 "LoopSlicerModel" "filled" "I", .methodLink RX5 142 yX5_isImage, .static yX5_isImage, .initialized RX5, .code yX5_isImage cX5_isImage 1 (some .boolean), .methodLink RX5 47 yX5_isIn, .static yX5_isIn, .code yX5_isIn cX5_isIn 3 (some .boolean)] ++ wsX50)
def wsX5_back : List Cond := .code yX5_back cX5_back 3 (some .int) :: ([.fieldLink RX5 145 "LoopSlicerModel" "filled" "I", .fieldLink RX5 7 "LoopSlicerModel" "w" "[I", .fieldLink RX5 16 "LoopSlicerModel" "images" "[I", .methodLink RX5 142 yX5_isImage, .static yX5_isImage, .initialized RX5, .code yX5_isImage cX5_isImage 1 (some .boolean), .methodLink RX5 47 yX5_isIn, .static yX5_isIn, .code yX5_isIn cX5_isIn 3 (some .boolean), .methodLink RX5 98 yX5_remember, .instanceMethod yX5_remember, .selects RX5 yX5_remember yX5_remember, .code yX5_remember cX5_remember 2 none, .fieldLink RX5 43 "LoopSlicerModel" "pastMany" "I", .fieldLink RX5 13 "LoopSlicerModel" "past" "[I"] ++ wsX50)
def wsJ9_abs_0f7a4 : List Cond := .code yJ9_abs_0f7a4 cJ9_abs_0f7a4 1 (some .int) :: ([])
def wsJ9_max_7cf53 : List Cond := .code yJ9_max_7cf53 cJ9_max_7cf53 2 (some .int) :: ([])
def wsJ9_min_7cf53 : List Cond := .code yJ9_min_7cf53 cJ9_min_7cf53 2 (some .int) :: ([])
theorem dJ9_abs_0f7a4_0 : decode cJ9_abs_0f7a4 0 = .ok (.iload_n 0, 1) := by decide +kernel
theorem dJ9_abs_0f7a4_1 : decode cJ9_abs_0f7a4 1 = .ok (.ifCond .ge 8, 3) := by decide +kernel
theorem dJ9_abs_0f7a4_4 : decode cJ9_abs_0f7a4 4 = .ok (.iload_n 0, 1) := by decide +kernel
theorem dJ9_abs_0f7a4_5 : decode cJ9_abs_0f7a4 5 = .ok (.ineg, 1) := by decide +kernel
theorem dJ9_abs_0f7a4_6 : decode cJ9_abs_0f7a4 6 = .ok (.goto 4, 3) := by decide +kernel
theorem dJ9_abs_0f7a4_9 : decode cJ9_abs_0f7a4 9 = .ok (.iload_n 0, 1) := by decide +kernel
theorem dJ9_abs_0f7a4_10 : decode cJ9_abs_0f7a4 10 = .ok (.ireturn, 1) := by decide +kernel
theorem dJ9_max_7cf53_0 : decode cJ9_max_7cf53 0 = .ok (.iload_n 0, 1) := by decide +kernel
theorem dJ9_max_7cf53_1 : decode cJ9_max_7cf53 1 = .ok (.iload_n 1, 1) := by decide +kernel
theorem dJ9_max_7cf53_2 : decode cJ9_max_7cf53 2 = .ok (.if_icmp .lt 7, 3) := by decide +kernel
theorem dJ9_max_7cf53_5 : decode cJ9_max_7cf53 5 = .ok (.iload_n 0, 1) := by decide +kernel
theorem dJ9_max_7cf53_6 : decode cJ9_max_7cf53 6 = .ok (.goto 4, 3) := by decide +kernel
theorem dJ9_max_7cf53_9 : decode cJ9_max_7cf53 9 = .ok (.iload_n 1, 1) := by decide +kernel
theorem dJ9_max_7cf53_10 : decode cJ9_max_7cf53 10 = .ok (.ireturn, 1) := by decide +kernel
theorem dJ9_min_7cf53_0 : decode cJ9_min_7cf53 0 = .ok (.iload_n 0, 1) := by decide +kernel
theorem dJ9_min_7cf53_1 : decode cJ9_min_7cf53 1 = .ok (.iload_n 1, 1) := by decide +kernel
theorem dJ9_min_7cf53_2 : decode cJ9_min_7cf53 2 = .ok (.if_icmp .gt 7, 3) := by decide +kernel
theorem dJ9_min_7cf53_5 : decode cJ9_min_7cf53 5 = .ok (.iload_n 0, 1) := by decide +kernel
theorem dJ9_min_7cf53_6 : decode cJ9_min_7cf53 6 = .ok (.goto 4, 3) := by decide +kernel
theorem dJ9_min_7cf53_9 : decode cJ9_min_7cf53 9 = .ok (.iload_n 1, 1) := by decide +kernel
theorem dJ9_min_7cf53_10 : decode cJ9_min_7cf53 10 = .ok (.ireturn, 1) := by decide +kernel
abbrev vwCl : List vw_C := [(RX0, TX0, 8), (RX1, TX1, 3), (RX2, TX2, 6), (RX3, TX3, 4), (RX4, TX4, 7), (RX5, TX5, 11)]
end
section
theorem dX0_init_0 : decode cX0_init 0 = .ok (.aload_n 0, 1) := by decide +kernel
theorem dX0_init_1 : decode cX0_init 1 = .ok (.invokespecial 3, 3) := by decide +kernel
theorem dX0_init_4 : decode cX0_init 4 = .ok (.aload_n 0, 1) := by decide +kernel
theorem dX0_init_5 : decode cX0_init 5 = .ok (.bipush 33, 2) := by decide +kernel
theorem dX0_init_7 : decode cX0_init 7 = .ok (.newarray .int, 2) := by decide +kernel
theorem dX0_init_9 : decode cX0_init 9 = .ok (.putfield 11, 3) := by decide +kernel
theorem dX0_init_12 : decode cX0_init 12 = .ok (.aload_n 0, 1) := by decide +kernel
theorem dX0_init_13 : decode cX0_init 13 = .ok (.bipush 16, 2) := by decide +kernel
theorem dX0_init_15 : decode cX0_init 15 = .ok (.newarray .int, 2) := by decide +kernel
theorem dX0_init_17 : decode cX0_init 17 = .ok (.putfield 15, 3) := by decide +kernel
theorem dX0_init_20 : decode cX0_init 20 = .ok (.aload_n 0, 1) := by decide +kernel
theorem dX0_init_21 : decode cX0_init 21 = .ok (.bipush 16, 2) := by decide +kernel
theorem dX0_init_23 : decode cX0_init 23 = .ok (.newarray .int, 2) := by decide +kernel
theorem dX0_init_25 : decode cX0_init 25 = .ok (.putfield 18, 3) := by decide +kernel
theorem dX0_init_28 : decode cX0_init 28 = .ok (.aload_n 0, 1) := by decide +kernel
theorem dX0_init_29 : decode cX0_init 29 = .ok (.sipush 561, 3) := by decide +kernel
theorem dX0_init_32 : decode cX0_init 32 = .ok (.newarray .int, 2) := by decide +kernel
theorem dX0_init_34 : decode cX0_init 34 = .ok (.putfield 21, 3) := by decide +kernel
theorem dX0_init_37 : decode cX0_init 37 = .ok (.aload_n 0, 1) := by decide +kernel
theorem dX0_init_38 : decode cX0_init 38 = .ok (.bipush 17, 2) := by decide +kernel
theorem dX0_init_40 : decode cX0_init 40 = .ok (.newarray .int, 2) := by decide +kernel
theorem dX0_init_42 : decode cX0_init 42 = .ok (.putfield 24, 3) := by decide +kernel
theorem dX0_init_45 : decode cX0_init 45 = .ok (.aload_n 0, 1) := by decide +kernel
theorem dX0_init_46 : decode cX0_init 46 = .ok (.aload_n 1, 1) := by decide +kernel
theorem dX0_init_47 : decode cX0_init 47 = .ok (.putfield 27, 3) := by decide +kernel
theorem dX0_init_50 : decode cX0_init 50 = .ok (.return_, 1) := by decide +kernel
set_option maxRecDepth 20000 in
theorem ggX0_canLay_X0_leastSum : GoodIn wsX0_canLay wsX0_leastSum := goodIn_r _ [5, 6, 7, 8, 9, 10, 11, 12, 13, 4, 14, 15, 16, 17, 18, 19, 20, 21, 22, 23, 24, 25, 26, 27, 28, 29, 30, 31, 32, 33, 34, 35, 36, 37, 38, 39, 40, 41, 42, 43, 44, 45, 46, 47, 48, 49, 50, 51, 52, 53, 54, 55, 56, 57, 58, 59, 60, 61, 62, 63, 64, 65, 66, 67, 68, 69, 70, 71, 72, 73, 74, 75, 76, 77, 78, 79, 80, 81] (by decide +kernel) (by decide +kernel)
set_option maxRecDepth 20000 in
theorem gX0_canLay_X0_leastSum : GoodIn wsX0_canLay (wsV RX0 31 RX0 yX0_leastSum wsX0_leastSum) := goodIn_app (goodIn_of _ (by decide +kernel)) ggX0_canLay_X0_leastSum
theorem dX0_canLay_0 : decode cX0_canLay 0 = .ok (.aload_n 0, 1) := by decide +kernel
theorem dX0_canLay_1 : decode cX0_canLay 1 = .ok (.iload_n 1, 1) := by decide +kernel
theorem dX0_canLay_2 : decode cX0_canLay 2 = .ok (.iload_n 2, 1) := by decide +kernel
theorem dX0_canLay_3 : decode cX0_canLay 3 = .ok (.invokevirtual 31, 3) := by decide +kernel
theorem dX0_canLay_6 : decode cX0_canLay 6 = .ok (.iconst (-1), 1) := by decide +kernel
theorem dX0_canLay_7 : decode cX0_canLay 7 = .ok (.if_icmp .eq 7, 3) := by decide +kernel
theorem dX0_canLay_10 : decode cX0_canLay 10 = .ok (.iconst 1, 1) := by decide +kernel
theorem dX0_canLay_11 : decode cX0_canLay 11 = .ok (.goto 4, 3) := by decide +kernel
theorem dX0_canLay_14 : decode cX0_canLay 14 = .ok (.iconst 0, 1) := by decide +kernel
theorem dX0_canLay_15 : decode cX0_canLay 15 = .ok (.ireturn, 1) := by decide +kernel
set_option maxRecDepth 20000 in
theorem ggX0_leastSum_X0_measure : GoodIn wsX0_leastSum wsX0_measure := goodIn_r _ [10, 4, 11, 3, 1, 2, 12, 13, 14, 15, 16, 17, 18, 19, 20, 21, 22, 23, 24, 25, 26, 27, 28, 29, 30, 31, 32, 33, 34, 64, 65, 66, 67, 68, 69, 70, 71, 72, 73, 74, 75, 76, 77] (by decide +kernel) (by decide +kernel)
set_option maxRecDepth 20000 in
theorem gX0_leastSum_X0_measure : GoodIn wsX0_leastSum (wsV RX0 47 RX0 yX0_measure wsX0_measure) := goodIn_app (goodIn_of _ (by decide +kernel)) ggX0_leastSum_X0_measure
set_option maxRecDepth 20000 in
theorem ggX0_leastSum_X0_fillSums : GoodIn wsX0_leastSum wsX0_fillSums := goodIn_r _ [38, 5, 39, 40, 41, 9, 42, 4, 1, 2, 43, 44, 45, 46, 47, 48, 49, 50, 51, 52, 53, 54, 11, 13, 12, 55, 56, 57, 58, 59, 60, 3, 61, 62, 63, 64, 65, 66, 67, 68, 69, 70, 71, 72, 73, 74, 75, 76, 77] (by decide +kernel) (by decide +kernel)
set_option maxRecDepth 20000 in
theorem gX0_leastSum_X0_fillSums : GoodIn wsX0_leastSum (wsV RX0 50 RX0 yX0_fillSums wsX0_fillSums) := goodIn_app (goodIn_of _ (by decide +kernel)) ggX0_leastSum_X0_fillSums
theorem dX0_leastSum_0 : decode cX0_leastSum 0 = .ok (.iload_n 2, 1) := by decide +kernel
theorem dX0_leastSum_1 : decode cX0_leastSum 1 = .ok (.aload_n 0, 1) := by decide +kernel
theorem dX0_leastSum_2 : decode cX0_leastSum 2 = .ok (.getfield 27, 3) := by decide +kernel
theorem dX0_leastSum_5 : decode cX0_leastSum 5 = .ok (.getfield 35, 3) := by decide +kernel
theorem dX0_leastSum_8 : decode cX0_leastSum 8 = .ok (.if_icmp .lt 9, 3) := by decide +kernel
theorem dX0_leastSum_11 : decode cX0_leastSum 11 = .ok (.iload_n 2, 1) := by decide +kernel
theorem dX0_leastSum_12 : decode cX0_leastSum 12 = .ok (.bipush 32, 2) := by decide +kernel
theorem dX0_leastSum_14 : decode cX0_leastSum 14 = .ok (.if_icmp .le 5, 3) := by decide +kernel
theorem dX0_leastSum_17 : decode cX0_leastSum 17 = .ok (.iconst (-1), 1) := by decide +kernel
theorem dX0_leastSum_18 : decode cX0_leastSum 18 = .ok (.ireturn, 1) := by decide +kernel
theorem dX0_leastSum_19 : decode cX0_leastSum 19 = .ok (.aload_n 0, 1) := by decide +kernel
theorem dX0_leastSum_20 : decode cX0_leastSum 20 = .ok (.iload_n 1, 1) := by decide +kernel
theorem dX0_leastSum_21 : decode cX0_leastSum 21 = .ok (.putfield 41, 3) := by decide +kernel
theorem dX0_leastSum_24 : decode cX0_leastSum 24 = .ok (.aload_n 0, 1) := by decide +kernel
theorem dX0_leastSum_25 : decode cX0_leastSum 25 = .ok (.iload_n 2, 1) := by decide +kernel
theorem dX0_leastSum_26 : decode cX0_leastSum 26 = .ok (.putfield 44, 3) := by decide +kernel
theorem dX0_leastSum_29 : decode cX0_leastSum 29 = .ok (.aload_n 0, 1) := by decide +kernel
theorem dX0_leastSum_30 : decode cX0_leastSum 30 = .ok (.invokevirtual 47, 3) := by decide +kernel
theorem dX0_leastSum_33 : decode cX0_leastSum 33 = .ok (.aload_n 0, 1) := by decide +kernel
theorem dX0_leastSum_34 : decode cX0_leastSum 34 = .ok (.getfield 21, 3) := by decide +kernel
theorem dX0_leastSum_37 : decode cX0_leastSum 37 = .ok (.aload_n 0, 1) := by decide +kernel
theorem dX0_leastSum_38 : decode cX0_leastSum 38 = .ok (.getfield 27, 3) := by decide +kernel
theorem dX0_leastSum_41 : decode cX0_leastSum 41 = .ok (.getfield 35, 3) := by decide +kernel
theorem dX0_leastSum_44 : decode cX0_leastSum 44 = .ok (.bipush 33, 2) := by decide +kernel
theorem dX0_leastSum_46 : decode cX0_leastSum 46 = .ok (.imul, 1) := by decide +kernel
theorem dX0_leastSum_47 : decode cX0_leastSum 47 = .ok (.aload_n 0, 1) := by decide +kernel
theorem dX0_leastSum_48 : decode cX0_leastSum 48 = .ok (.getfield 44, 3) := by decide +kernel
theorem dX0_leastSum_51 : decode cX0_leastSum 51 = .ok (.iadd, 1) := by decide +kernel
theorem dX0_leastSum_52 : decode cX0_leastSum 52 = .ok (.iconst 0, 1) := by decide +kernel
theorem dX0_leastSum_53 : decode cX0_leastSum 53 = .ok (.iastore, 1) := by decide +kernel
theorem dX0_leastSum_54 : decode cX0_leastSum 54 = .ok (.aload_n 0, 1) := by decide +kernel
theorem dX0_leastSum_55 : decode cX0_leastSum 55 = .ok (.getfield 27, 3) := by decide +kernel
theorem dX0_leastSum_58 : decode cX0_leastSum 58 = .ok (.getfield 35, 3) := by decide +kernel
theorem dX0_leastSum_61 : decode cX0_leastSum 61 = .ok (.iconst 1, 1) := by decide +kernel
theorem dX0_leastSum_62 : decode cX0_leastSum 62 = .ok (.isub, 1) := by decide +kernel
theorem dX0_leastSum_63 : decode cX0_leastSum 63 = .ok (.istore_n 3, 1) := by decide +kernel
theorem dX0_leastSum_64 : decode cX0_leastSum 64 = .ok (.iload_n 3, 1) := by decide +kernel
theorem dX0_leastSum_65 : decode cX0_leastSum 65 = .ok (.ifCond .lt 19, 3) := by decide +kernel
theorem dX0_leastSum_68 : decode cX0_leastSum 68 = .ok (.aload_n 0, 1) := by decide +kernel
theorem dX0_leastSum_69 : decode cX0_leastSum 69 = .ok (.iload_n 3, 1) := by decide +kernel
theorem dX0_leastSum_70 : decode cX0_leastSum 70 = .ok (.invokevirtual 50, 3) := by decide +kernel
theorem dX0_leastSum_73 : decode cX0_leastSum 73 = .ok (.ifCond .ne 5, 3) := by decide +kernel
theorem dX0_leastSum_76 : decode cX0_leastSum 76 = .ok (.iconst (-1), 1) := by decide +kernel
theorem dX0_leastSum_77 : decode cX0_leastSum 77 = .ok (.ireturn, 1) := by decide +kernel
theorem dX0_leastSum_78 : decode cX0_leastSum 78 = .ok (.iinc 3 (-1), 3) := by decide +kernel
theorem dX0_leastSum_81 : decode cX0_leastSum 81 = .ok (.goto (-17), 3) := by decide +kernel
theorem dX0_leastSum_84 : decode cX0_leastSum 84 = .ok (.aload_n 0, 1) := by decide +kernel
theorem dX0_leastSum_85 : decode cX0_leastSum 85 = .ok (.getfield 21, 3) := by decide +kernel
theorem dX0_leastSum_88 : decode cX0_leastSum 88 = .ok (.iconst 0, 1) := by decide +kernel
theorem dX0_leastSum_89 : decode cX0_leastSum 89 = .ok (.iaload, 1) := by decide +kernel
theorem dX0_leastSum_90 : decode cX0_leastSum 90 = .ok (.ireturn, 1) := by decide +kernel
set_option maxRecDepth 20000 in
theorem ggX0_draw_X0_leastSum : GoodIn wsX0_draw wsX0_leastSum := goodIn_r _ [9, 1, 4, 10, 11, 12, 13, 14, 15, 8, 16, 17, 18, 19, 20, 21, 22, 23, 24, 25, 26, 27, 28, 29, 30, 31, 32, 33, 34, 35, 36, 37, 38, 39, 40, 41, 42, 43, 44, 45, 46, 47, 48, 49, 50, 51, 52, 53, 54, 55, 56, 57, 58, 59, 60, 61, 62, 63, 64, 65, 66, 67, 68, 69, 70, 71, 72, 73, 74, 75, 76, 77, 78, 79, 80, 81, 82, 83] (by decide +kernel) (by decide +kernel)
set_option maxRecDepth 20000 in
theorem gX0_draw_X0_leastSum : GoodIn wsX0_draw (wsV RX0 31 RX0 yX0_leastSum wsX0_leastSum) := goodIn_app (goodIn_of _ (by decide +kernel)) ggX0_draw_X0_leastSum
set_option maxRecDepth 20000 in
theorem ggX0_draw_X0_bestNext : GoodIn wsX0_draw wsX0_bestNext := goodIn_r _ [56, 57, 58, 59, 60, 17, 19, 18, 12, 45, 46, 47, 8, 48, 11, 1, 4, 49, 50, 51, 52, 70, 71, 72, 73, 74, 75, 76, 77, 78, 79, 80, 81, 82, 83] (by decide +kernel) (by decide +kernel)
set_option maxRecDepth 20000 in
theorem gX0_draw_X0_bestNext : GoodIn wsX0_draw (wsV RX0 57 RX0 yX0_bestNext wsX0_bestNext) := goodIn_app (goodIn_of _ (by decide +kernel)) ggX0_draw_X0_bestNext
theorem dX0_draw_0 : decode cX0_draw 0 = .ok (.aload_n 0, 1) := by decide +kernel
theorem dX0_draw_1 : decode cX0_draw 1 = .ok (.aload_n 0, 1) := by decide +kernel
theorem dX0_draw_2 : decode cX0_draw 2 = .ok (.getfield 27, 3) := by decide +kernel
theorem dX0_draw_5 : decode cX0_draw 5 = .ok (.getfield 54, 3) := by decide +kernel
theorem dX0_draw_8 : decode cX0_draw 8 = .ok (.iconst 5, 1) := by decide +kernel
theorem dX0_draw_9 : decode cX0_draw 9 = .ok (.iaload, 1) := by decide +kernel
theorem dX0_draw_10 : decode cX0_draw 10 = .ok (.aload_n 0, 1) := by decide +kernel
theorem dX0_draw_11 : decode cX0_draw 11 = .ok (.getfield 27, 3) := by decide +kernel
theorem dX0_draw_14 : decode cX0_draw 14 = .ok (.getfield 54, 3) := by decide +kernel
theorem dX0_draw_17 : decode cX0_draw 17 = .ok (.bipush 6, 2) := by decide +kernel
theorem dX0_draw_19 : decode cX0_draw 19 = .ok (.iaload, 1) := by decide +kernel
theorem dX0_draw_20 : decode cX0_draw 20 = .ok (.invokevirtual 31, 3) := by decide +kernel
theorem dX0_draw_23 : decode cX0_draw 23 = .ok (.iconst (-1), 1) := by decide +kernel
theorem dX0_draw_24 : decode cX0_draw 24 = .ok (.if_icmp .ne 5, 3) := by decide +kernel
theorem dX0_draw_27 : decode cX0_draw 27 = .ok (.iconst 0, 1) := by decide +kernel
theorem dX0_draw_28 : decode cX0_draw 28 = .ok (.ireturn, 1) := by decide +kernel
theorem dX0_draw_29 : decode cX0_draw 29 = .ok (.aload_n 0, 1) := by decide +kernel
theorem dX0_draw_30 : decode cX0_draw 30 = .ok (.getfield 24, 3) := by decide +kernel
theorem dX0_draw_33 : decode cX0_draw 33 = .ok (.iconst 0, 1) := by decide +kernel
theorem dX0_draw_34 : decode cX0_draw 34 = .ok (.iconst 0, 1) := by decide +kernel
theorem dX0_draw_35 : decode cX0_draw 35 = .ok (.iastore, 1) := by decide +kernel
theorem dX0_draw_36 : decode cX0_draw 36 = .ok (.iconst 0, 1) := by decide +kernel
theorem dX0_draw_37 : decode cX0_draw 37 = .ok (.istore_n 1, 1) := by decide +kernel
theorem dX0_draw_38 : decode cX0_draw 38 = .ok (.iload_n 1, 1) := by decide +kernel
theorem dX0_draw_39 : decode cX0_draw 39 = .ok (.aload_n 0, 1) := by decide +kernel
theorem dX0_draw_40 : decode cX0_draw 40 = .ok (.getfield 27, 3) := by decide +kernel
theorem dX0_draw_43 : decode cX0_draw 43 = .ok (.getfield 35, 3) := by decide +kernel
theorem dX0_draw_46 : decode cX0_draw 46 = .ok (.if_icmp .ge 37, 3) := by decide +kernel
theorem dX0_draw_49 : decode cX0_draw 49 = .ok (.aload_n 0, 1) := by decide +kernel
theorem dX0_draw_50 : decode cX0_draw 50 = .ok (.iload_n 1, 1) := by decide +kernel
theorem dX0_draw_51 : decode cX0_draw 51 = .ok (.aload_n 0, 1) := by decide +kernel
theorem dX0_draw_52 : decode cX0_draw 52 = .ok (.getfield 24, 3) := by decide +kernel
theorem dX0_draw_55 : decode cX0_draw 55 = .ok (.iload_n 1, 1) := by decide +kernel
theorem dX0_draw_56 : decode cX0_draw 56 = .ok (.iaload, 1) := by decide +kernel
theorem dX0_draw_57 : decode cX0_draw 57 = .ok (.invokevirtual 57, 3) := by decide +kernel
theorem dX0_draw_60 : decode cX0_draw 60 = .ok (.istore_n 2, 1) := by decide +kernel
theorem dX0_draw_61 : decode cX0_draw 61 = .ok (.iload_n 2, 1) := by decide +kernel
theorem dX0_draw_62 : decode cX0_draw 62 = .ok (.iconst (-1), 1) := by decide +kernel
theorem dX0_draw_63 : decode cX0_draw 63 = .ok (.if_icmp .ne 5, 3) := by decide +kernel
theorem dX0_draw_66 : decode cX0_draw 66 = .ok (.iconst 0, 1) := by decide +kernel
theorem dX0_draw_67 : decode cX0_draw 67 = .ok (.ireturn, 1) := by decide +kernel
theorem dX0_draw_68 : decode cX0_draw 68 = .ok (.aload_n 0, 1) := by decide +kernel
theorem dX0_draw_69 : decode cX0_draw 69 = .ok (.getfield 24, 3) := by decide +kernel
theorem dX0_draw_72 : decode cX0_draw 72 = .ok (.iload_n 1, 1) := by decide +kernel
theorem dX0_draw_73 : decode cX0_draw 73 = .ok (.iconst 1, 1) := by decide +kernel
theorem dX0_draw_74 : decode cX0_draw 74 = .ok (.iadd, 1) := by decide +kernel
theorem dX0_draw_75 : decode cX0_draw 75 = .ok (.iload_n 2, 1) := by decide +kernel
theorem dX0_draw_76 : decode cX0_draw 76 = .ok (.iastore, 1) := by decide +kernel
theorem dX0_draw_77 : decode cX0_draw 77 = .ok (.iinc 1 1, 3) := by decide +kernel
theorem dX0_draw_80 : decode cX0_draw 80 = .ok (.goto (-42), 3) := by decide +kernel
theorem dX0_draw_83 : decode cX0_draw 83 = .ok (.iconst 1, 1) := by decide +kernel
theorem dX0_draw_84 : decode cX0_draw 84 = .ok (.ireturn, 1) := by decide +kernel
theorem dX0_budgetOf_0 : decode cX0_budgetOf 0 = .ok (.aload_n 0, 1) := by decide +kernel
theorem dX0_budgetOf_1 : decode cX0_budgetOf 1 = .ok (.getfield 11, 3) := by decide +kernel
theorem dX0_budgetOf_4 : decode cX0_budgetOf 4 = .ok (.aload_n 0, 1) := by decide +kernel
theorem dX0_budgetOf_5 : decode cX0_budgetOf 5 = .ok (.getfield 24, 3) := by decide +kernel
theorem dX0_budgetOf_8 : decode cX0_budgetOf 8 = .ok (.iload_n 1, 1) := by decide +kernel
theorem dX0_budgetOf_9 : decode cX0_budgetOf 9 = .ok (.iconst 1, 1) := by decide +kernel
theorem dX0_budgetOf_10 : decode cX0_budgetOf 10 = .ok (.iadd, 1) := by decide +kernel
theorem dX0_budgetOf_11 : decode cX0_budgetOf 11 = .ok (.iaload, 1) := by decide +kernel
theorem dX0_budgetOf_12 : decode cX0_budgetOf 12 = .ok (.iaload, 1) := by decide +kernel
theorem dX0_budgetOf_13 : decode cX0_budgetOf 13 = .ok (.aload_n 0, 1) := by decide +kernel
theorem dX0_budgetOf_14 : decode cX0_budgetOf 14 = .ok (.getfield 11, 3) := by decide +kernel
theorem dX0_budgetOf_17 : decode cX0_budgetOf 17 = .ok (.aload_n 0, 1) := by decide +kernel
theorem dX0_budgetOf_18 : decode cX0_budgetOf 18 = .ok (.getfield 24, 3) := by decide +kernel
theorem dX0_budgetOf_21 : decode cX0_budgetOf 21 = .ok (.iload_n 1, 1) := by decide +kernel
theorem dX0_budgetOf_22 : decode cX0_budgetOf 22 = .ok (.iaload, 1) := by decide +kernel
theorem dX0_budgetOf_23 : decode cX0_budgetOf 23 = .ok (.iaload, 1) := by decide +kernel
theorem dX0_budgetOf_24 : decode cX0_budgetOf 24 = .ok (.isub, 1) := by decide +kernel
theorem dX0_budgetOf_25 : decode cX0_budgetOf 25 = .ok (.ireturn, 1) := by decide +kernel
set_option maxRecDepth 20000 in
theorem ggX0_measure_X2_lengthOf : GoodIn wsX0_measure wsX2_lengthOf := goodIn_r _ [12, 13, 14, 15, 16, 17, 11, 18, 19, 20, 37, 38, 39, 40, 41, 42] (by decide +kernel) (by decide +kernel)
set_option maxRecDepth 20000 in
theorem gX0_measure_X2_lengthOf : GoodIn wsX0_measure (wsV RX0 60 RX2 yX2_lengthOf wsX2_lengthOf) := goodIn_app (goodIn_of _ (by decide +kernel)) ggX0_measure_X2_lengthOf
set_option maxRecDepth 20000 in
theorem ggX0_measure_X2_leastBudget : GoodIn wsX0_measure wsX2_leastBudget := goodIn_r _ [24, 14, 37, 38, 39, 40, 41, 42] (by decide +kernel) (by decide +kernel)
set_option maxRecDepth 20000 in
theorem gX0_measure_X2_leastBudget : GoodIn wsX0_measure (wsV RX0 64 RX2 yX2_leastBudget wsX2_leastBudget) := goodIn_app (goodIn_of _ (by decide +kernel)) ggX0_measure_X2_leastBudget
set_option maxRecDepth 20000 in
theorem ggX0_measure_X2_mostBudget : GoodIn wsX0_measure wsX2_mostBudget := goodIn_r _ [28, 14, 37, 38, 39, 40, 41, 42] (by decide +kernel) (by decide +kernel)
set_option maxRecDepth 20000 in
theorem gX0_measure_X2_mostBudget : GoodIn wsX0_measure (wsV RX0 67 RX2 yX2_mostBudget wsX2_mostBudget) := goodIn_app (goodIn_of _ (by decide +kernel)) ggX0_measure_X2_mostBudget
theorem dX0_measure_0 : decode cX0_measure 0 = .ok (.iconst 0, 1) := by decide +kernel
theorem dX0_measure_1 : decode cX0_measure 1 = .ok (.istore_n 1, 1) := by decide +kernel
theorem dX0_measure_2 : decode cX0_measure 2 = .ok (.iload_n 1, 1) := by decide +kernel
theorem dX0_measure_3 : decode cX0_measure 3 = .ok (.aload_n 0, 1) := by decide +kernel
theorem dX0_measure_4 : decode cX0_measure 4 = .ok (.getfield 44, 3) := by decide +kernel
theorem dX0_measure_7 : decode cX0_measure 7 = .ok (.if_icmp .gt 26, 3) := by decide +kernel
theorem dX0_measure_10 : decode cX0_measure 10 = .ok (.aload_n 0, 1) := by decide +kernel
theorem dX0_measure_11 : decode cX0_measure 11 = .ok (.getfield 11, 3) := by decide +kernel
theorem dX0_measure_14 : decode cX0_measure 14 = .ok (.iload_n 1, 1) := by decide +kernel
theorem dX0_measure_15 : decode cX0_measure 15 = .ok (.iload_n 1, 1) := by decide +kernel
theorem dX0_measure_16 : decode cX0_measure 16 = .ok (.aload_n 0, 1) := by decide +kernel
theorem dX0_measure_17 : decode cX0_measure 17 = .ok (.getfield 41, 3) := by decide +kernel
theorem dX0_measure_20 : decode cX0_measure 20 = .ok (.imul, 1) := by decide +kernel
theorem dX0_measure_21 : decode cX0_measure 21 = .ok (.aload_n 0, 1) := by decide +kernel
theorem dX0_measure_22 : decode cX0_measure 22 = .ok (.getfield 44, 3) := by decide +kernel
theorem dX0_measure_25 : decode cX0_measure 25 = .ok (.idiv, 1) := by decide +kernel
theorem dX0_measure_26 : decode cX0_measure 26 = .ok (.iastore, 1) := by decide +kernel
theorem dX0_measure_27 : decode cX0_measure 27 = .ok (.iinc 1 1, 3) := by decide +kernel
theorem dX0_measure_30 : decode cX0_measure 30 = .ok (.goto (-28), 3) := by decide +kernel
theorem dX0_measure_33 : decode cX0_measure 33 = .ok (.iconst 0, 1) := by decide +kernel
theorem dX0_measure_34 : decode cX0_measure 34 = .ok (.istore_n 1, 1) := by decide +kernel
theorem dX0_measure_35 : decode cX0_measure 35 = .ok (.iload_n 1, 1) := by decide +kernel
theorem dX0_measure_36 : decode cX0_measure 36 = .ok (.aload_n 0, 1) := by decide +kernel
theorem dX0_measure_37 : decode cX0_measure 37 = .ok (.getfield 27, 3) := by decide +kernel
theorem dX0_measure_40 : decode cX0_measure 40 = .ok (.getfield 35, 3) := by decide +kernel
theorem dX0_measure_43 : decode cX0_measure 43 = .ok (.if_icmp .ge 46, 3) := by decide +kernel
theorem dX0_measure_46 : decode cX0_measure 46 = .ok (.aload_n 0, 1) := by decide +kernel
theorem dX0_measure_47 : decode cX0_measure 47 = .ok (.getfield 27, 3) := by decide +kernel
theorem dX0_measure_50 : decode cX0_measure 50 = .ok (.iload_n 1, 1) := by decide +kernel
theorem dX0_measure_51 : decode cX0_measure 51 = .ok (.invokevirtual 60, 3) := by decide +kernel
theorem dX0_measure_54 : decode cX0_measure 54 = .ok (.istore_n 2, 1) := by decide +kernel
theorem dX0_measure_55 : decode cX0_measure 55 = .ok (.aload_n 0, 1) := by decide +kernel
theorem dX0_measure_56 : decode cX0_measure 56 = .ok (.getfield 15, 3) := by decide +kernel
theorem dX0_measure_59 : decode cX0_measure 59 = .ok (.iload_n 1, 1) := by decide +kernel
theorem dX0_measure_60 : decode cX0_measure 60 = .ok (.aload_n 0, 1) := by decide +kernel
theorem dX0_measure_61 : decode cX0_measure 61 = .ok (.getfield 27, 3) := by decide +kernel
theorem dX0_measure_64 : decode cX0_measure 64 = .ok (.iload_n 2, 1) := by decide +kernel
theorem dX0_measure_65 : decode cX0_measure 65 = .ok (.invokevirtual 64, 3) := by decide +kernel
theorem dX0_measure_68 : decode cX0_measure 68 = .ok (.iastore, 1) := by decide +kernel
theorem dX0_measure_69 : decode cX0_measure 69 = .ok (.aload_n 0, 1) := by decide +kernel
theorem dX0_measure_70 : decode cX0_measure 70 = .ok (.getfield 18, 3) := by decide +kernel
theorem dX0_measure_73 : decode cX0_measure 73 = .ok (.iload_n 1, 1) := by decide +kernel
theorem dX0_measure_74 : decode cX0_measure 74 = .ok (.aload_n 0, 1) := by decide +kernel
theorem dX0_measure_75 : decode cX0_measure 75 = .ok (.getfield 27, 3) := by decide +kernel
theorem dX0_measure_78 : decode cX0_measure 78 = .ok (.iload_n 2, 1) := by decide +kernel
theorem dX0_measure_79 : decode cX0_measure 79 = .ok (.invokevirtual 67, 3) := by decide +kernel
theorem dX0_measure_82 : decode cX0_measure 82 = .ok (.iastore, 1) := by decide +kernel
theorem dX0_measure_83 : decode cX0_measure 83 = .ok (.iinc 1 1, 3) := by decide +kernel
theorem dX0_measure_86 : decode cX0_measure 86 = .ok (.goto (-51), 3) := by decide +kernel
theorem dX0_measure_89 : decode cX0_measure 89 = .ok (.return_, 1) := by decide +kernel
set_option maxRecDepth 20000 in
theorem ggX0_fillSums_X0_lastStepOf : GoodIn wsX0_fillSums wsX0_lastStepOf := goodIn_r _ [6, 7, 8, 9, 35, 36, 37, 38, 39, 40, 41, 42, 43, 44, 45, 46, 47, 48] (by decide +kernel) (by decide +kernel)
set_option maxRecDepth 20000 in
theorem gX0_fillSums_X0_lastStepOf : GoodIn wsX0_fillSums (wsV RX0 70 RX0 yX0_lastStepOf wsX0_lastStepOf) := goodIn_app (goodIn_of _ (by decide +kernel)) ggX0_fillSums_X0_lastStepOf
set_option maxRecDepth 20000 in
theorem ggX0_fillSums_X0_firstStepOf : GoodIn wsX0_fillSums wsX0_firstStepOf := goodIn_r _ [13, 8, 9, 7, 35, 36, 37, 38, 39, 40, 41, 42, 43, 44, 45, 46, 47, 48] (by decide +kernel) (by decide +kernel)
set_option maxRecDepth 20000 in
theorem gX0_fillSums_X0_firstStepOf : GoodIn wsX0_fillSums (wsV RX0 73 RX0 yX0_firstStepOf wsX0_firstStepOf) := goodIn_app (goodIn_of _ (by decide +kernel)) ggX0_fillSums_X0_firstStepOf
set_option maxRecDepth 20000 in
theorem ggX0_fillSums_X0_bestNext : GoodIn wsX0_fillSums wsX0_bestNext := goodIn_r _ [17, 18, 19, 20, 21, 22, 23, 24, 1, 2, 3, 4, 5, 6, 7, 8, 9, 10, 11, 12, 13, 35, 36, 37, 38, 39, 40, 41, 42, 43, 44, 45, 46, 47, 48] (by decide +kernel) (by decide +kernel)
set_option maxRecDepth 20000 in
theorem gX0_fillSums_X0_bestNext : GoodIn wsX0_fillSums (wsV RX0 57 RX0 yX0_bestNext wsX0_bestNext) := goodIn_app (goodIn_of _ (by decide +kernel)) ggX0_fillSums_X0_bestNext
set_option maxRecDepth 20000 in
theorem ggX0_fillSums_X0_distance : GoodIn wsX0_fillSums wsX0_distance := goodIn_r _ [28, 22, 8, 29, 30, 31, 32, 33, 20, 34, 35, 36, 37, 38, 39, 40, 41, 42, 43, 44, 45, 46, 47, 48] (by decide +kernel) (by decide +kernel)
set_option maxRecDepth 20000 in
theorem gX0_fillSums_X0_distance : GoodIn wsX0_fillSums (wsV RX0 76 RX0 yX0_distance wsX0_distance) := goodIn_app (goodIn_of _ (by decide +kernel)) ggX0_fillSums_X0_distance
theorem dX0_fillSums_0 : decode cX0_fillSums 0 = .ok (.iconst 0, 1) := by decide +kernel
theorem dX0_fillSums_1 : decode cX0_fillSums 1 = .ok (.istore_n 2, 1) := by decide +kernel
theorem dX0_fillSums_2 : decode cX0_fillSums 2 = .ok (.aload_n 0, 1) := by decide +kernel
theorem dX0_fillSums_3 : decode cX0_fillSums 3 = .ok (.iload_n 1, 1) := by decide +kernel
theorem dX0_fillSums_4 : decode cX0_fillSums 4 = .ok (.invokevirtual 70, 3) := by decide +kernel
theorem dX0_fillSums_7 : decode cX0_fillSums 7 = .ok (.istore_n 3, 1) := by decide +kernel
theorem dX0_fillSums_8 : decode cX0_fillSums 8 = .ok (.aload_n 0, 1) := by decide +kernel
theorem dX0_fillSums_9 : decode cX0_fillSums 9 = .ok (.iload_n 1, 1) := by decide +kernel
theorem dX0_fillSums_10 : decode cX0_fillSums 10 = .ok (.invokevirtual 73, 3) := by decide +kernel
theorem dX0_fillSums_13 : decode cX0_fillSums 13 = .ok (.istore 4, 2) := by decide +kernel
theorem dX0_fillSums_15 : decode cX0_fillSums 15 = .ok (.iload 4, 2) := by decide +kernel
theorem dX0_fillSums_17 : decode cX0_fillSums 17 = .ok (.iload_n 3, 1) := by decide +kernel
theorem dX0_fillSums_18 : decode cX0_fillSums 18 = .ok (.if_icmp .gt 67, 3) := by decide +kernel
theorem dX0_fillSums_21 : decode cX0_fillSums 21 = .ok (.aload_n 0, 1) := by decide +kernel
theorem dX0_fillSums_22 : decode cX0_fillSums 22 = .ok (.iload_n 1, 1) := by decide +kernel
theorem dX0_fillSums_23 : decode cX0_fillSums 23 = .ok (.iload 4, 2) := by decide +kernel
theorem dX0_fillSums_25 : decode cX0_fillSums 25 = .ok (.invokevirtual 57, 3) := by decide +kernel
theorem dX0_fillSums_28 : decode cX0_fillSums 28 = .ok (.istore 5, 2) := by decide +kernel
theorem dX0_fillSums_30 : decode cX0_fillSums 30 = .ok (.iconst (-1), 1) := by decide +kernel
theorem dX0_fillSums_31 : decode cX0_fillSums 31 = .ok (.istore 6, 2) := by decide +kernel
theorem dX0_fillSums_33 : decode cX0_fillSums 33 = .ok (.iload 5, 2) := by decide +kernel
theorem dX0_fillSums_35 : decode cX0_fillSums 35 = .ok (.iconst (-1), 1) := by decide +kernel
theorem dX0_fillSums_36 : decode cX0_fillSums 36 = .ok (.if_icmp .eq 29, 3) := by decide +kernel
theorem dX0_fillSums_39 : decode cX0_fillSums 39 = .ok (.aload_n 0, 1) := by decide +kernel
theorem dX0_fillSums_40 : decode cX0_fillSums 40 = .ok (.getfield 21, 3) := by decide +kernel
theorem dX0_fillSums_43 : decode cX0_fillSums 43 = .ok (.iload_n 1, 1) := by decide +kernel
theorem dX0_fillSums_44 : decode cX0_fillSums 44 = .ok (.iconst 1, 1) := by decide +kernel
theorem dX0_fillSums_45 : decode cX0_fillSums 45 = .ok (.iadd, 1) := by decide +kernel
theorem dX0_fillSums_46 : decode cX0_fillSums 46 = .ok (.bipush 33, 2) := by decide +kernel
theorem dX0_fillSums_48 : decode cX0_fillSums 48 = .ok (.imul, 1) := by decide +kernel
theorem dX0_fillSums_49 : decode cX0_fillSums 49 = .ok (.iload 5, 2) := by decide +kernel
theorem dX0_fillSums_51 : decode cX0_fillSums 51 = .ok (.iadd, 1) := by decide +kernel
theorem dX0_fillSums_52 : decode cX0_fillSums 52 = .ok (.iaload, 1) := by decide +kernel
theorem dX0_fillSums_53 : decode cX0_fillSums 53 = .ok (.aload_n 0, 1) := by decide +kernel
theorem dX0_fillSums_54 : decode cX0_fillSums 54 = .ok (.iload_n 1, 1) := by decide +kernel
theorem dX0_fillSums_55 : decode cX0_fillSums 55 = .ok (.iload 4, 2) := by decide +kernel
theorem dX0_fillSums_57 : decode cX0_fillSums 57 = .ok (.invokevirtual 76, 3) := by decide +kernel
theorem dX0_fillSums_60 : decode cX0_fillSums 60 = .ok (.iadd, 1) := by decide +kernel
theorem dX0_fillSums_61 : decode cX0_fillSums 61 = .ok (.istore 6, 2) := by decide +kernel
theorem dX0_fillSums_63 : decode cX0_fillSums 63 = .ok (.iconst 1, 1) := by decide +kernel
theorem dX0_fillSums_64 : decode cX0_fillSums 64 = .ok (.istore_n 2, 1) := by decide +kernel
theorem dX0_fillSums_65 : decode cX0_fillSums 65 = .ok (.aload_n 0, 1) := by decide +kernel
theorem dX0_fillSums_66 : decode cX0_fillSums 66 = .ok (.getfield 21, 3) := by decide +kernel
theorem dX0_fillSums_69 : decode cX0_fillSums 69 = .ok (.iload_n 1, 1) := by decide +kernel
theorem dX0_fillSums_70 : decode cX0_fillSums 70 = .ok (.bipush 33, 2) := by decide +kernel
theorem dX0_fillSums_72 : decode cX0_fillSums 72 = .ok (.imul, 1) := by decide +kernel
theorem dX0_fillSums_73 : decode cX0_fillSums 73 = .ok (.iload 4, 2) := by decide +kernel
theorem dX0_fillSums_75 : decode cX0_fillSums 75 = .ok (.iadd, 1) := by decide +kernel
theorem dX0_fillSums_76 : decode cX0_fillSums 76 = .ok (.iload 6, 2) := by decide +kernel
theorem dX0_fillSums_78 : decode cX0_fillSums 78 = .ok (.iastore, 1) := by decide +kernel
theorem dX0_fillSums_79 : decode cX0_fillSums 79 = .ok (.iinc 4 1, 3) := by decide +kernel
theorem dX0_fillSums_82 : decode cX0_fillSums 82 = .ok (.goto (-67), 3) := by decide +kernel
theorem dX0_fillSums_85 : decode cX0_fillSums 85 = .ok (.iload_n 2, 1) := by decide +kernel
theorem dX0_fillSums_86 : decode cX0_fillSums 86 = .ok (.ireturn, 1) := by decide +kernel
set_option maxRecDepth 20000 in
theorem ggX0_bestNext_X0_lastStepOf : GoodIn wsX0_bestNext wsX0_lastStepOf := goodIn_r _ [13, 14, 15, 16, 21, 22, 23, 24, 25, 26, 27, 28, 29, 30, 31, 32, 33, 34] (by decide +kernel) (by decide +kernel)
set_option maxRecDepth 20000 in
theorem gX0_bestNext_X0_lastStepOf : GoodIn wsX0_bestNext (wsV RX0 70 RX0 yX0_lastStepOf wsX0_lastStepOf) := goodIn_app (goodIn_of _ (by decide +kernel)) ggX0_bestNext_X0_lastStepOf
set_option maxRecDepth 20000 in
theorem ggX0_bestNext_X0_firstStepOf : GoodIn wsX0_bestNext wsX0_firstStepOf := goodIn_r _ [20, 15, 16, 14, 21, 22, 23, 24, 25, 26, 27, 28, 29, 30, 31, 32, 33, 34] (by decide +kernel) (by decide +kernel)
set_option maxRecDepth 20000 in
theorem gX0_bestNext_X0_firstStepOf : GoodIn wsX0_bestNext (wsV RX0 73 RX0 yX0_firstStepOf wsX0_firstStepOf) := goodIn_app (goodIn_of _ (by decide +kernel)) ggX0_bestNext_X0_firstStepOf
theorem dX0_bestNext_0 : decode cX0_bestNext 0 = .ok (.iload_n 1, 1) := by decide +kernel
theorem dX0_bestNext_1 : decode cX0_bestNext 1 = .ok (.iconst 1, 1) := by decide +kernel
theorem dX0_bestNext_2 : decode cX0_bestNext 2 = .ok (.iadd, 1) := by decide +kernel
theorem dX0_bestNext_3 : decode cX0_bestNext 3 = .ok (.bipush 33, 2) := by decide +kernel
theorem dX0_bestNext_5 : decode cX0_bestNext 5 = .ok (.imul, 1) := by decide +kernel
theorem dX0_bestNext_6 : decode cX0_bestNext 6 = .ok (.istore_n 3, 1) := by decide +kernel
theorem dX0_bestNext_7 : decode cX0_bestNext 7 = .ok (.iconst (-1), 1) := by decide +kernel
theorem dX0_bestNext_8 : decode cX0_bestNext 8 = .ok (.istore 4, 2) := by decide +kernel
theorem dX0_bestNext_10 : decode cX0_bestNext 10 = .ok (.aload_n 0, 1) := by decide +kernel
theorem dX0_bestNext_11 : decode cX0_bestNext 11 = .ok (.iload_n 1, 1) := by decide +kernel
theorem dX0_bestNext_12 : decode cX0_bestNext 12 = .ok (.iconst 1, 1) := by decide +kernel
theorem dX0_bestNext_13 : decode cX0_bestNext 13 = .ok (.iadd, 1) := by decide +kernel
theorem dX0_bestNext_14 : decode cX0_bestNext 14 = .ok (.invokevirtual 70, 3) := by decide +kernel
theorem dX0_bestNext_17 : decode cX0_bestNext 17 = .ok (.istore 5, 2) := by decide +kernel
theorem dX0_bestNext_19 : decode cX0_bestNext 19 = .ok (.iload_n 2, 1) := by decide +kernel
theorem dX0_bestNext_20 : decode cX0_bestNext 20 = .ok (.iconst 1, 1) := by decide +kernel
theorem dX0_bestNext_21 : decode cX0_bestNext 21 = .ok (.iadd, 1) := by decide +kernel
theorem dX0_bestNext_22 : decode cX0_bestNext 22 = .ok (.aload_n 0, 1) := by decide +kernel
theorem dX0_bestNext_23 : decode cX0_bestNext 23 = .ok (.iload_n 1, 1) := by decide +kernel
theorem dX0_bestNext_24 : decode cX0_bestNext 24 = .ok (.iconst 1, 1) := by decide +kernel
theorem dX0_bestNext_25 : decode cX0_bestNext 25 = .ok (.iadd, 1) := by decide +kernel
theorem dX0_bestNext_26 : decode cX0_bestNext 26 = .ok (.invokevirtual 73, 3) := by decide +kernel
theorem dX0_bestNext_29 : decode cX0_bestNext 29 = .ok (.invokestatic 79, 3) := by decide +kernel
theorem dX0_bestNext_32 : decode cX0_bestNext 32 = .ok (.istore 6, 2) := by decide +kernel
theorem dX0_bestNext_34 : decode cX0_bestNext 34 = .ok (.iload 6, 2) := by decide +kernel
theorem dX0_bestNext_36 : decode cX0_bestNext 36 = .ok (.iload 5, 2) := by decide +kernel
theorem dX0_bestNext_38 : decode cX0_bestNext 38 = .ok (.if_icmp .gt 106, 3) := by decide +kernel
theorem dX0_bestNext_41 : decode cX0_bestNext 41 = .ok (.aload_n 0, 1) := by decide +kernel
theorem dX0_bestNext_42 : decode cX0_bestNext 42 = .ok (.getfield 11, 3) := by decide +kernel
theorem dX0_bestNext_45 : decode cX0_bestNext 45 = .ok (.iload 6, 2) := by decide +kernel
theorem dX0_bestNext_47 : decode cX0_bestNext 47 = .ok (.iaload, 1) := by decide +kernel
theorem dX0_bestNext_48 : decode cX0_bestNext 48 = .ok (.aload_n 0, 1) := by decide +kernel
theorem dX0_bestNext_49 : decode cX0_bestNext 49 = .ok (.getfield 11, 3) := by decide +kernel
theorem dX0_bestNext_52 : decode cX0_bestNext 52 = .ok (.iload_n 2, 1) := by decide +kernel
theorem dX0_bestNext_53 : decode cX0_bestNext 53 = .ok (.iaload, 1) := by decide +kernel
theorem dX0_bestNext_54 : decode cX0_bestNext 54 = .ok (.isub, 1) := by decide +kernel
theorem dX0_bestNext_55 : decode cX0_bestNext 55 = .ok (.istore 7, 2) := by decide +kernel
theorem dX0_bestNext_57 : decode cX0_bestNext 57 = .ok (.iload 7, 2) := by decide +kernel
theorem dX0_bestNext_59 : decode cX0_bestNext 59 = .ok (.aload_n 0, 1) := by decide +kernel
theorem dX0_bestNext_60 : decode cX0_bestNext 60 = .ok (.getfield 18, 3) := by decide +kernel
theorem dX0_bestNext_63 : decode cX0_bestNext 63 = .ok (.iload_n 1, 1) := by decide +kernel
theorem dX0_bestNext_64 : decode cX0_bestNext 64 = .ok (.iaload, 1) := by decide +kernel
theorem dX0_bestNext_65 : decode cX0_bestNext 65 = .ok (.if_icmp .le 6, 3) := by decide +kernel
theorem dX0_bestNext_68 : decode cX0_bestNext 68 = .ok (.iload 4, 2) := by decide +kernel
theorem dX0_bestNext_70 : decode cX0_bestNext 70 = .ok (.ireturn, 1) := by decide +kernel
theorem dX0_bestNext_71 : decode cX0_bestNext 71 = .ok (.iload 7, 2) := by decide +kernel
theorem dX0_bestNext_73 : decode cX0_bestNext 73 = .ok (.aload_n 0, 1) := by decide +kernel
theorem dX0_bestNext_74 : decode cX0_bestNext 74 = .ok (.getfield 15, 3) := by decide +kernel
theorem dX0_bestNext_77 : decode cX0_bestNext 77 = .ok (.iload_n 1, 1) := by decide +kernel
theorem dX0_bestNext_78 : decode cX0_bestNext 78 = .ok (.iaload, 1) := by decide +kernel
theorem dX0_bestNext_79 : decode cX0_bestNext 79 = .ok (.if_icmp .lt 20, 3) := by decide +kernel
theorem dX0_bestNext_82 : decode cX0_bestNext 82 = .ok (.aload_n 0, 1) := by decide +kernel
theorem dX0_bestNext_83 : decode cX0_bestNext 83 = .ok (.getfield 21, 3) := by decide +kernel
theorem dX0_bestNext_86 : decode cX0_bestNext 86 = .ok (.iload_n 3, 1) := by decide +kernel
theorem dX0_bestNext_87 : decode cX0_bestNext 87 = .ok (.iload 6, 2) := by decide +kernel
theorem dX0_bestNext_89 : decode cX0_bestNext 89 = .ok (.iadd, 1) := by decide +kernel
theorem dX0_bestNext_90 : decode cX0_bestNext 90 = .ok (.iaload, 1) := by decide +kernel
theorem dX0_bestNext_91 : decode cX0_bestNext 91 = .ok (.iconst (-1), 1) := by decide +kernel
theorem dX0_bestNext_92 : decode cX0_bestNext 92 = .ok (.if_icmp .eq 7, 3) := by decide +kernel
theorem dX0_bestNext_95 : decode cX0_bestNext 95 = .ok (.iconst 1, 1) := by decide +kernel
theorem dX0_bestNext_96 : decode cX0_bestNext 96 = .ok (.goto 4, 3) := by decide +kernel
theorem dX0_bestNext_99 : decode cX0_bestNext 99 = .ok (.iconst 0, 1) := by decide +kernel
theorem dX0_bestNext_100 : decode cX0_bestNext 100 = .ok (.istore 8, 2) := by decide +kernel
theorem dX0_bestNext_102 : decode cX0_bestNext 102 = .ok (.iload 8, 2) := by decide +kernel
theorem dX0_bestNext_104 : decode cX0_bestNext 104 = .ok (.ifCond .eq 34, 3) := by decide +kernel
theorem dX0_bestNext_107 : decode cX0_bestNext 107 = .ok (.iload 4, 2) := by decide +kernel
theorem dX0_bestNext_109 : decode cX0_bestNext 109 = .ok (.iconst (-1), 1) := by decide +kernel
theorem dX0_bestNext_110 : decode cX0_bestNext 110 = .ok (.if_icmp .eq 24, 3) := by decide +kernel
theorem dX0_bestNext_113 : decode cX0_bestNext 113 = .ok (.aload_n 0, 1) := by decide +kernel
theorem dX0_bestNext_114 : decode cX0_bestNext 114 = .ok (.getfield 21, 3) := by decide +kernel
theorem dX0_bestNext_117 : decode cX0_bestNext 117 = .ok (.iload_n 3, 1) := by decide +kernel
theorem dX0_bestNext_118 : decode cX0_bestNext 118 = .ok (.iload 6, 2) := by decide +kernel
theorem dX0_bestNext_120 : decode cX0_bestNext 120 = .ok (.iadd, 1) := by decide +kernel
theorem dX0_bestNext_121 : decode cX0_bestNext 121 = .ok (.iaload, 1) := by decide +kernel
theorem dX0_bestNext_122 : decode cX0_bestNext 122 = .ok (.aload_n 0, 1) := by decide +kernel
theorem dX0_bestNext_123 : decode cX0_bestNext 123 = .ok (.getfield 21, 3) := by decide +kernel
theorem dX0_bestNext_126 : decode cX0_bestNext 126 = .ok (.iload_n 3, 1) := by decide +kernel
theorem dX0_bestNext_127 : decode cX0_bestNext 127 = .ok (.iload 4, 2) := by decide +kernel
theorem dX0_bestNext_129 : decode cX0_bestNext 129 = .ok (.iadd, 1) := by decide +kernel
theorem dX0_bestNext_130 : decode cX0_bestNext 130 = .ok (.iaload, 1) := by decide +kernel
theorem dX0_bestNext_131 : decode cX0_bestNext 131 = .ok (.if_icmp .ge 7, 3) := by decide +kernel
theorem dX0_bestNext_134 : decode cX0_bestNext 134 = .ok (.iload 6, 2) := by decide +kernel
theorem dX0_bestNext_136 : decode cX0_bestNext 136 = .ok (.istore 4, 2) := by decide +kernel
theorem dX0_bestNext_138 : decode cX0_bestNext 138 = .ok (.iinc 6 1, 3) := by decide +kernel
theorem dX0_bestNext_141 : decode cX0_bestNext 141 = .ok (.goto (-107), 3) := by decide +kernel
theorem dX0_bestNext_144 : decode cX0_bestNext 144 = .ok (.iload 4, 2) := by decide +kernel
theorem dX0_bestNext_146 : decode cX0_bestNext 146 = .ok (.ireturn, 1) := by decide +kernel
theorem dX0_firstStepOf_0 : decode cX0_firstStepOf 0 = .ok (.iload_n 1, 1) := by decide +kernel
theorem dX0_firstStepOf_1 : decode cX0_firstStepOf 1 = .ok (.aload_n 0, 1) := by decide +kernel
theorem dX0_firstStepOf_2 : decode cX0_firstStepOf 2 = .ok (.getfield 27, 3) := by decide +kernel
theorem dX0_firstStepOf_5 : decode cX0_firstStepOf 5 = .ok (.getfield 35, 3) := by decide +kernel
theorem dX0_firstStepOf_8 : decode cX0_firstStepOf 8 = .ok (.if_icmp .ge 7, 3) := by decide +kernel
theorem dX0_firstStepOf_11 : decode cX0_firstStepOf 11 = .ok (.iload_n 1, 1) := by decide +kernel
theorem dX0_firstStepOf_12 : decode cX0_firstStepOf 12 = .ok (.goto 7, 3) := by decide +kernel
theorem dX0_firstStepOf_15 : decode cX0_firstStepOf 15 = .ok (.aload_n 0, 1) := by decide +kernel
theorem dX0_firstStepOf_16 : decode cX0_firstStepOf 16 = .ok (.getfield 44, 3) := by decide +kernel
theorem dX0_firstStepOf_19 : decode cX0_firstStepOf 19 = .ok (.ireturn, 1) := by decide +kernel
theorem dX0_lastStepOf_0 : decode cX0_lastStepOf 0 = .ok (.iload_n 1, 1) := by decide +kernel
theorem dX0_lastStepOf_1 : decode cX0_lastStepOf 1 = .ok (.ifCond .ne 7, 3) := by decide +kernel
theorem dX0_lastStepOf_4 : decode cX0_lastStepOf 4 = .ok (.iconst 0, 1) := by decide +kernel
theorem dX0_lastStepOf_5 : decode cX0_lastStepOf 5 = .ok (.goto 17, 3) := by decide +kernel
theorem dX0_lastStepOf_8 : decode cX0_lastStepOf 8 = .ok (.aload_n 0, 1) := by decide +kernel
theorem dX0_lastStepOf_9 : decode cX0_lastStepOf 9 = .ok (.getfield 44, 3) := by decide +kernel
theorem dX0_lastStepOf_12 : decode cX0_lastStepOf 12 = .ok (.aload_n 0, 1) := by decide +kernel
theorem dX0_lastStepOf_13 : decode cX0_lastStepOf 13 = .ok (.getfield 27, 3) := by decide +kernel
theorem dX0_lastStepOf_16 : decode cX0_lastStepOf 16 = .ok (.getfield 35, 3) := by decide +kernel
theorem dX0_lastStepOf_19 : decode cX0_lastStepOf 19 = .ok (.iload_n 1, 1) := by decide +kernel
theorem dX0_lastStepOf_20 : decode cX0_lastStepOf 20 = .ok (.isub, 1) := by decide +kernel
theorem dX0_lastStepOf_21 : decode cX0_lastStepOf 21 = .ok (.isub, 1) := by decide +kernel
theorem dX0_lastStepOf_22 : decode cX0_lastStepOf 22 = .ok (.ireturn, 1) := by decide +kernel
theorem dX0_distance_0 : decode cX0_distance 0 = .ok (.aload_n 0, 1) := by decide +kernel
theorem dX0_distance_1 : decode cX0_distance 1 = .ok (.getfield 11, 3) := by decide +kernel
theorem dX0_distance_4 : decode cX0_distance 4 = .ok (.iload_n 2, 1) := by decide +kernel
theorem dX0_distance_5 : decode cX0_distance 5 = .ok (.iaload, 1) := by decide +kernel
theorem dX0_distance_6 : decode cX0_distance 6 = .ok (.aload_n 0, 1) := by decide +kernel
theorem dX0_distance_7 : decode cX0_distance 7 = .ok (.getfield 27, 3) := by decide +kernel
theorem dX0_distance_10 : decode cX0_distance 10 = .ok (.getfield 84, 3) := by decide +kernel
theorem dX0_distance_13 : decode cX0_distance 13 = .ok (.imul, 1) := by decide +kernel
theorem dX0_distance_14 : decode cX0_distance 14 = .ok (.aload_n 0, 1) := by decide +kernel
theorem dX0_distance_15 : decode cX0_distance 15 = .ok (.getfield 27, 3) := by decide +kernel
theorem dX0_distance_18 : decode cX0_distance 18 = .ok (.getfield 87, 3) := by decide +kernel
theorem dX0_distance_21 : decode cX0_distance 21 = .ok (.iload_n 1, 1) := by decide +kernel
theorem dX0_distance_22 : decode cX0_distance 22 = .ok (.iaload, 1) := by decide +kernel
theorem dX0_distance_23 : decode cX0_distance 23 = .ok (.aload_n 0, 1) := by decide +kernel
theorem dX0_distance_24 : decode cX0_distance 24 = .ok (.getfield 41, 3) := by decide +kernel
theorem dX0_distance_27 : decode cX0_distance 27 = .ok (.imul, 1) := by decide +kernel
theorem dX0_distance_28 : decode cX0_distance 28 = .ok (.isub, 1) := by decide +kernel
theorem dX0_distance_29 : decode cX0_distance 29 = .ok (.invokestatic 90, 3) := by decide +kernel
theorem dX0_distance_32 : decode cX0_distance 32 = .ok (.ireturn, 1) := by decide +kernel
set_option maxRecDepth 20000 in
theorem ggX1_init_X2_init : GoodIn wsX1_init wsX2_init := goodIn_r _ [9, 10, 2, 3, 11, 12, 13, 14, 15, 16, 17, 18, 19, 20, 21, 22, 23, 27, 28, 29, 30, 31, 32] (by decide +kernel) (by decide +kernel)
set_option maxRecDepth 20000 in
theorem gX1_init_X2_init_n17 : GoodIn wsX1_init (wsX2_init) := ggX1_init_X2_init
theorem dX1_init_0 : decode cX1_init 0 = .ok (.aload_n 0, 1) := by decide +kernel
theorem dX1_init_1 : decode cX1_init 1 = .ok (.invokespecial 3, 3) := by decide +kernel
theorem dX1_init_4 : decode cX1_init 4 = .ok (.aload_n 0, 1) := by decide +kernel
theorem dX1_init_5 : decode cX1_init 5 = .ok (.bipush 8, 2) := by decide +kernel
theorem dX1_init_7 : decode cX1_init 7 = .ok (.anewarray 9, 3) := by decide +kernel
theorem dX1_init_10 : decode cX1_init 10 = .ok (.putfield 11, 3) := by decide +kernel
theorem dX1_init_13 : decode cX1_init 13 = .ok (.iconst 0, 1) := by decide +kernel
theorem dX1_init_14 : decode cX1_init 14 = .ok (.istore_n 1, 1) := by decide +kernel
theorem dX1_init_15 : decode cX1_init 15 = .ok (.iload_n 1, 1) := by decide +kernel
theorem dX1_init_16 : decode cX1_init 16 = .ok (.bipush 8, 2) := by decide +kernel
theorem dX1_init_18 : decode cX1_init 18 = .ok (.if_icmp .ge 22, 3) := by decide +kernel
theorem dX1_init_21 : decode cX1_init 21 = .ok (.aload_n 0, 1) := by decide +kernel
theorem dX1_init_22 : decode cX1_init 22 = .ok (.getfield 11, 3) := by decide +kernel
theorem dX1_init_25 : decode cX1_init 25 = .ok (.iload_n 1, 1) := by decide +kernel
theorem dX1_init_26 : decode cX1_init 26 = .ok (.new 9, 3) := by decide +kernel
theorem dX1_init_29 : decode cX1_init 29 = .ok (.dup, 1) := by decide +kernel
theorem dX1_init_30 : decode cX1_init 30 = .ok (.invokespecial 17, 3) := by decide +kernel
theorem dX1_init_33 : decode cX1_init 33 = .ok (.aastore, 1) := by decide +kernel
theorem dX1_init_34 : decode cX1_init 34 = .ok (.iinc 1 1, 3) := by decide +kernel
theorem dX1_init_37 : decode cX1_init 37 = .ok (.goto (-22), 3) := by decide +kernel
theorem dX1_init_40 : decode cX1_init 40 = .ok (.return_, 1) := by decide +kernel
set_option maxRecDepth 20000 in
theorem ggX1_push_X2_copy : GoodIn wsX1_push wsX2_copy := goodIn_r _ [8, 9, 10, 11, 12, 13, 14, 15, 16, 17, 18, 22, 23, 24, 25, 26, 27] (by decide +kernel) (by decide +kernel)
set_option maxRecDepth 20000 in
theorem gX1_push_X2_copy : GoodIn wsX1_push (wsV RX1 22 RX2 yX2_copy wsX2_copy) := goodIn_app (goodIn_of _ (by decide +kernel)) ggX1_push_X2_copy
theorem dX1_push_0 : decode cX1_push 0 = .ok (.aload_n 0, 1) := by decide +kernel
theorem dX1_push_1 : decode cX1_push 1 = .ok (.aload_n 0, 1) := by decide +kernel
theorem dX1_push_2 : decode cX1_push 2 = .ok (.getfield 18, 3) := by decide +kernel
theorem dX1_push_5 : decode cX1_push 5 = .ok (.iconst 1, 1) := by decide +kernel
theorem dX1_push_6 : decode cX1_push 6 = .ok (.iadd, 1) := by decide +kernel
theorem dX1_push_7 : decode cX1_push 7 = .ok (.bipush 8, 2) := by decide +kernel
theorem dX1_push_9 : decode cX1_push 9 = .ok (.if_icmp .ge 12, 3) := by decide +kernel
theorem dX1_push_12 : decode cX1_push 12 = .ok (.aload_n 0, 1) := by decide +kernel
theorem dX1_push_13 : decode cX1_push 13 = .ok (.getfield 18, 3) := by decide +kernel
theorem dX1_push_16 : decode cX1_push 16 = .ok (.iconst 1, 1) := by decide +kernel
theorem dX1_push_17 : decode cX1_push 17 = .ok (.iadd, 1) := by decide +kernel
theorem dX1_push_18 : decode cX1_push 18 = .ok (.goto 4, 3) := by decide +kernel
theorem dX1_push_21 : decode cX1_push 21 = .ok (.iconst 0, 1) := by decide +kernel
theorem dX1_push_22 : decode cX1_push 22 = .ok (.putfield 18, 3) := by decide +kernel
theorem dX1_push_25 : decode cX1_push 25 = .ok (.aload_n 0, 1) := by decide +kernel
theorem dX1_push_26 : decode cX1_push 26 = .ok (.getfield 11, 3) := by decide +kernel
theorem dX1_push_29 : decode cX1_push 29 = .ok (.aload_n 0, 1) := by decide +kernel
theorem dX1_push_30 : decode cX1_push 30 = .ok (.getfield 18, 3) := by decide +kernel
theorem dX1_push_33 : decode cX1_push 33 = .ok (.aaload, 1) := by decide +kernel
theorem dX1_push_34 : decode cX1_push 34 = .ok (.aload_n 1, 1) := by decide +kernel
theorem dX1_push_35 : decode cX1_push 35 = .ok (.invokevirtual 22, 3) := by decide +kernel
theorem dX1_push_38 : decode cX1_push 38 = .ok (.aload_n 0, 1) := by decide +kernel
theorem dX1_push_39 : decode cX1_push 39 = .ok (.aload_n 0, 1) := by decide +kernel
theorem dX1_push_40 : decode cX1_push 40 = .ok (.getfield 26, 3) := by decide +kernel
theorem dX1_push_43 : decode cX1_push 43 = .ok (.bipush 8, 2) := by decide +kernel
theorem dX1_push_45 : decode cX1_push 45 = .ok (.if_icmp .ge 12, 3) := by decide +kernel
theorem dX1_push_48 : decode cX1_push 48 = .ok (.aload_n 0, 1) := by decide +kernel
theorem dX1_push_49 : decode cX1_push 49 = .ok (.getfield 26, 3) := by decide +kernel
theorem dX1_push_52 : decode cX1_push 52 = .ok (.iconst 1, 1) := by decide +kernel
theorem dX1_push_53 : decode cX1_push 53 = .ok (.iadd, 1) := by decide +kernel
theorem dX1_push_54 : decode cX1_push 54 = .ok (.goto 7, 3) := by decide +kernel
theorem dX1_push_57 : decode cX1_push 57 = .ok (.aload_n 0, 1) := by decide +kernel
theorem dX1_push_58 : decode cX1_push 58 = .ok (.getfield 26, 3) := by decide +kernel
theorem dX1_push_61 : decode cX1_push 61 = .ok (.putfield 26, 3) := by decide +kernel
theorem dX1_push_64 : decode cX1_push 64 = .ok (.return_, 1) := by decide +kernel
set_option maxRecDepth 20000 in
theorem ggX1_pop_X2_copy : GoodIn wsX1_pop wsX2_copy := goodIn_r _ [8, 9, 10, 11, 12, 13, 14, 15, 16, 17, 18, 22, 23, 24, 25, 26, 27] (by decide +kernel) (by decide +kernel)
set_option maxRecDepth 20000 in
theorem gX1_pop_X2_copy : GoodIn wsX1_pop (wsV RX1 22 RX2 yX2_copy wsX2_copy) := goodIn_app (goodIn_of _ (by decide +kernel)) ggX1_pop_X2_copy
theorem dX1_pop_0 : decode cX1_pop 0 = .ok (.aload_n 1, 1) := by decide +kernel
theorem dX1_pop_1 : decode cX1_pop 1 = .ok (.aload_n 0, 1) := by decide +kernel
theorem dX1_pop_2 : decode cX1_pop 2 = .ok (.getfield 11, 3) := by decide +kernel
theorem dX1_pop_5 : decode cX1_pop 5 = .ok (.aload_n 0, 1) := by decide +kernel
theorem dX1_pop_6 : decode cX1_pop 6 = .ok (.getfield 18, 3) := by decide +kernel
theorem dX1_pop_9 : decode cX1_pop 9 = .ok (.aaload, 1) := by decide +kernel
theorem dX1_pop_10 : decode cX1_pop 10 = .ok (.invokevirtual 22, 3) := by decide +kernel
theorem dX1_pop_13 : decode cX1_pop 13 = .ok (.aload_n 0, 1) := by decide +kernel
theorem dX1_pop_14 : decode cX1_pop 14 = .ok (.aload_n 0, 1) := by decide +kernel
theorem dX1_pop_15 : decode cX1_pop 15 = .ok (.getfield 18, 3) := by decide +kernel
theorem dX1_pop_18 : decode cX1_pop 18 = .ok (.ifCond .le 12, 3) := by decide +kernel
theorem dX1_pop_21 : decode cX1_pop 21 = .ok (.aload_n 0, 1) := by decide +kernel
theorem dX1_pop_22 : decode cX1_pop 22 = .ok (.getfield 18, 3) := by decide +kernel
theorem dX1_pop_25 : decode cX1_pop 25 = .ok (.iconst 1, 1) := by decide +kernel
theorem dX1_pop_26 : decode cX1_pop 26 = .ok (.isub, 1) := by decide +kernel
theorem dX1_pop_27 : decode cX1_pop 27 = .ok (.goto 5, 3) := by decide +kernel
theorem dX1_pop_30 : decode cX1_pop 30 = .ok (.bipush 7, 2) := by decide +kernel
theorem dX1_pop_32 : decode cX1_pop 32 = .ok (.putfield 18, 3) := by decide +kernel
theorem dX1_pop_35 : decode cX1_pop 35 = .ok (.aload_n 0, 1) := by decide +kernel
theorem dX1_pop_36 : decode cX1_pop 36 = .ok (.dup, 1) := by decide +kernel
theorem dX1_pop_37 : decode cX1_pop 37 = .ok (.getfield 26, 3) := by decide +kernel
theorem dX1_pop_40 : decode cX1_pop 40 = .ok (.iconst 1, 1) := by decide +kernel
theorem dX1_pop_41 : decode cX1_pop 41 = .ok (.isub, 1) := by decide +kernel
theorem dX1_pop_42 : decode cX1_pop 42 = .ok (.putfield 26, 3) := by decide +kernel
theorem dX1_pop_45 : decode cX1_pop 45 = .ok (.return_, 1) := by decide +kernel
theorem dX2_init_0 : decode cX2_init 0 = .ok (.aload_n 0, 1) := by decide +kernel
theorem dX2_init_1 : decode cX2_init 1 = .ok (.invokespecial 3, 3) := by decide +kernel
theorem dX2_init_4 : decode cX2_init 4 = .ok (.aload_n 0, 1) := by decide +kernel
theorem dX2_init_5 : decode cX2_init 5 = .ok (.bipush 16, 2) := by decide +kernel
theorem dX2_init_7 : decode cX2_init 7 = .ok (.putfield 9, 3) := by decide +kernel
theorem dX2_init_10 : decode cX2_init 10 = .ok (.aload_n 0, 1) := by decide +kernel
theorem dX2_init_11 : decode cX2_init 11 = .ok (.iconst 1, 1) := by decide +kernel
theorem dX2_init_12 : decode cX2_init 12 = .ok (.putfield 15, 3) := by decide +kernel
theorem dX2_init_15 : decode cX2_init 15 = .ok (.aload_n 0, 1) := by decide +kernel
theorem dX2_init_16 : decode cX2_init 16 = .ok (.bipush 64, 2) := by decide +kernel
theorem dX2_init_18 : decode cX2_init 18 = .ok (.newarray .int, 2) := by decide +kernel
theorem dX2_init_20 : decode cX2_init 20 = .ok (.putfield 18, 3) := by decide +kernel
theorem dX2_init_23 : decode cX2_init 23 = .ok (.aload_n 0, 1) := by decide +kernel
theorem dX2_init_24 : decode cX2_init 24 = .ok (.getstatic 22, 3) := by decide +kernel
theorem dX2_init_27 : decode cX2_init 27 = .ok (.invokevirtual 25, 3) := by decide +kernel
theorem dX2_init_30 : decode cX2_init 30 = .ok (.checkcast 26, 3) := by decide +kernel
theorem dX2_init_33 : decode cX2_init 33 = .ok (.putfield 30, 3) := by decide +kernel
theorem dX2_init_36 : decode cX2_init 36 = .ok (.aload_n 0, 1) := by decide +kernel
theorem dX2_init_37 : decode cX2_init 37 = .ok (.bipush 16, 2) := by decide +kernel
theorem dX2_init_39 : decode cX2_init 39 = .ok (.newarray .int, 2) := by decide +kernel
theorem dX2_init_41 : decode cX2_init 41 = .ok (.putfield 33, 3) := by decide +kernel
theorem dX2_init_44 : decode cX2_init 44 = .ok (.aload_n 0, 1) := by decide +kernel
theorem dX2_init_45 : decode cX2_init 45 = .ok (.bipush 16, 2) := by decide +kernel
theorem dX2_init_47 : decode cX2_init 47 = .ok (.newarray .int, 2) := by decide +kernel
theorem dX2_init_49 : decode cX2_init 49 = .ok (.putfield 36, 3) := by decide +kernel
theorem dX2_init_52 : decode cX2_init 52 = .ok (.return_, 1) := by decide +kernel
theorem dX2_copy_0 : decode cX2_copy 0 = .ok (.aload_n 0, 1) := by decide +kernel
theorem dX2_copy_1 : decode cX2_copy 1 = .ok (.aload_n 1, 1) := by decide +kernel
theorem dX2_copy_2 : decode cX2_copy 2 = .ok (.getfield 9, 3) := by decide +kernel
theorem dX2_copy_5 : decode cX2_copy 5 = .ok (.putfield 9, 3) := by decide +kernel
theorem dX2_copy_8 : decode cX2_copy 8 = .ok (.aload_n 0, 1) := by decide +kernel
theorem dX2_copy_9 : decode cX2_copy 9 = .ok (.aload_n 1, 1) := by decide +kernel
theorem dX2_copy_10 : decode cX2_copy 10 = .ok (.getfield 15, 3) := by decide +kernel
theorem dX2_copy_13 : decode cX2_copy 13 = .ok (.putfield 15, 3) := by decide +kernel
theorem dX2_copy_16 : decode cX2_copy 16 = .ok (.aload_n 1, 1) := by decide +kernel
theorem dX2_copy_17 : decode cX2_copy 17 = .ok (.getfield 18, 3) := by decide +kernel
theorem dX2_copy_20 : decode cX2_copy 20 = .ok (.iconst 0, 1) := by decide +kernel
theorem dX2_copy_21 : decode cX2_copy 21 = .ok (.aload_n 0, 1) := by decide +kernel
theorem dX2_copy_22 : decode cX2_copy 22 = .ok (.getfield 18, 3) := by decide +kernel
theorem dX2_copy_25 : decode cX2_copy 25 = .ok (.iconst 0, 1) := by decide +kernel
theorem dX2_copy_26 : decode cX2_copy 26 = .ok (.bipush 64, 2) := by decide +kernel
theorem dX2_copy_28 : decode cX2_copy 28 = .ok (.invokestatic 39, 3) := by decide +kernel
theorem dX2_copy_31 : decode cX2_copy 31 = .ok (.aload_n 1, 1) := by decide +kernel
theorem dX2_copy_32 : decode cX2_copy 32 = .ok (.getfield 30, 3) := by decide +kernel
theorem dX2_copy_35 : decode cX2_copy 35 = .ok (.iconst 0, 1) := by decide +kernel
theorem dX2_copy_36 : decode cX2_copy 36 = .ok (.aload_n 0, 1) := by decide +kernel
theorem dX2_copy_37 : decode cX2_copy 37 = .ok (.getfield 30, 3) := by decide +kernel
theorem dX2_copy_40 : decode cX2_copy 40 = .ok (.iconst 0, 1) := by decide +kernel
theorem dX2_copy_41 : decode cX2_copy 41 = .ok (.bipush 9, 2) := by decide +kernel
theorem dX2_copy_43 : decode cX2_copy 43 = .ok (.invokestatic 39, 3) := by decide +kernel
theorem dX2_copy_46 : decode cX2_copy 46 = .ok (.aload_n 1, 1) := by decide +kernel
theorem dX2_copy_47 : decode cX2_copy 47 = .ok (.getfield 33, 3) := by decide +kernel
theorem dX2_copy_50 : decode cX2_copy 50 = .ok (.iconst 0, 1) := by decide +kernel
theorem dX2_copy_51 : decode cX2_copy 51 = .ok (.aload_n 0, 1) := by decide +kernel
theorem dX2_copy_52 : decode cX2_copy 52 = .ok (.getfield 33, 3) := by decide +kernel
theorem dX2_copy_55 : decode cX2_copy 55 = .ok (.iconst 0, 1) := by decide +kernel
theorem dX2_copy_56 : decode cX2_copy 56 = .ok (.bipush 16, 2) := by decide +kernel
theorem dX2_copy_58 : decode cX2_copy 58 = .ok (.invokestatic 39, 3) := by decide +kernel
theorem dX2_copy_61 : decode cX2_copy 61 = .ok (.aload_n 1, 1) := by decide +kernel
theorem dX2_copy_62 : decode cX2_copy 62 = .ok (.getfield 36, 3) := by decide +kernel
theorem dX2_copy_65 : decode cX2_copy 65 = .ok (.iconst 0, 1) := by decide +kernel
theorem dX2_copy_66 : decode cX2_copy 66 = .ok (.aload_n 0, 1) := by decide +kernel
theorem dX2_copy_67 : decode cX2_copy 67 = .ok (.getfield 36, 3) := by decide +kernel
theorem dX2_copy_70 : decode cX2_copy 70 = .ok (.iconst 0, 1) := by decide +kernel
theorem dX2_copy_71 : decode cX2_copy 71 = .ok (.bipush 16, 2) := by decide +kernel
theorem dX2_copy_73 : decode cX2_copy 73 = .ok (.invokestatic 39, 3) := by decide +kernel
theorem dX2_copy_76 : decode cX2_copy 76 = .ok (.return_, 1) := by decide +kernel
set_option maxRecDepth 20000 in
theorem ggX2_clear_X2_resetSequence : GoodIn wsX2_clear wsX2_resetSequence := goodIn_r _ [8, 9, 10, 11, 12, 13, 14, 15] (by decide +kernel) (by decide +kernel)
set_option maxRecDepth 20000 in
theorem gX2_clear_X2_resetSequence : GoodIn wsX2_clear (wsV RX2 45 RX2 yX2_resetSequence wsX2_resetSequence) := goodIn_app (goodIn_of _ (by decide +kernel)) ggX2_clear_X2_resetSequence
theorem dX2_clear_0 : decode cX2_clear 0 = .ok (.aload_n 0, 1) := by decide +kernel
theorem dX2_clear_1 : decode cX2_clear 1 = .ok (.iload_n 1, 1) := by decide +kernel
theorem dX2_clear_2 : decode cX2_clear 2 = .ok (.putfield 9, 3) := by decide +kernel
theorem dX2_clear_5 : decode cX2_clear 5 = .ok (.iconst 0, 1) := by decide +kernel
theorem dX2_clear_6 : decode cX2_clear 6 = .ok (.istore_n 2, 1) := by decide +kernel
theorem dX2_clear_7 : decode cX2_clear 7 = .ok (.iload_n 2, 1) := by decide +kernel
theorem dX2_clear_8 : decode cX2_clear 8 = .ok (.bipush 64, 2) := by decide +kernel
theorem dX2_clear_10 : decode cX2_clear 10 = .ok (.if_icmp .ge 16, 3) := by decide +kernel
theorem dX2_clear_13 : decode cX2_clear 13 = .ok (.aload_n 0, 1) := by decide +kernel
theorem dX2_clear_14 : decode cX2_clear 14 = .ok (.getfield 18, 3) := by decide +kernel
theorem dX2_clear_17 : decode cX2_clear 17 = .ok (.iload_n 2, 1) := by decide +kernel
theorem dX2_clear_18 : decode cX2_clear 18 = .ok (.iconst 0, 1) := by decide +kernel
theorem dX2_clear_19 : decode cX2_clear 19 = .ok (.iastore, 1) := by decide +kernel
theorem dX2_clear_20 : decode cX2_clear 20 = .ok (.iinc 2 1, 3) := by decide +kernel
theorem dX2_clear_23 : decode cX2_clear 23 = .ok (.goto (-16), 3) := by decide +kernel
theorem dX2_clear_26 : decode cX2_clear 26 = .ok (.aload_n 0, 1) := by decide +kernel
theorem dX2_clear_27 : decode cX2_clear 27 = .ok (.iconst 1, 1) := by decide +kernel
theorem dX2_clear_28 : decode cX2_clear 28 = .ok (.putfield 15, 3) := by decide +kernel
theorem dX2_clear_31 : decode cX2_clear 31 = .ok (.aload_n 0, 1) := by decide +kernel
theorem dX2_clear_32 : decode cX2_clear 32 = .ok (.invokevirtual 45, 3) := by decide +kernel
theorem dX2_clear_35 : decode cX2_clear 35 = .ok (.return_, 1) := by decide +kernel
theorem dX2_resetSequence_0 : decode cX2_resetSequence 0 = .ok (.iconst 0, 1) := by decide +kernel
theorem dX2_resetSequence_1 : decode cX2_resetSequence 1 = .ok (.istore_n 1, 1) := by decide +kernel
theorem dX2_resetSequence_2 : decode cX2_resetSequence 2 = .ok (.iload_n 1, 1) := by decide +kernel
theorem dX2_resetSequence_3 : decode cX2_resetSequence 3 = .ok (.bipush 16, 2) := by decide +kernel
theorem dX2_resetSequence_5 : decode cX2_resetSequence 5 = .ok (.if_icmp .ge 16, 3) := by decide +kernel
theorem dX2_resetSequence_8 : decode cX2_resetSequence 8 = .ok (.aload_n 0, 1) := by decide +kernel
theorem dX2_resetSequence_9 : decode cX2_resetSequence 9 = .ok (.getfield 36, 3) := by decide +kernel
theorem dX2_resetSequence_12 : decode cX2_resetSequence 12 = .ok (.iload_n 1, 1) := by decide +kernel
theorem dX2_resetSequence_13 : decode cX2_resetSequence 13 = .ok (.iload_n 1, 1) := by decide +kernel
theorem dX2_resetSequence_14 : decode cX2_resetSequence 14 = .ok (.iastore, 1) := by decide +kernel
theorem dX2_resetSequence_15 : decode cX2_resetSequence 15 = .ok (.iinc 1 1, 3) := by decide +kernel
theorem dX2_resetSequence_18 : decode cX2_resetSequence 18 = .ok (.goto (-16), 3) := by decide +kernel
theorem dX2_resetSequence_21 : decode cX2_resetSequence 21 = .ok (.return_, 1) := by decide +kernel
theorem dX2_isFrame_0 : decode cX2_isFrame 0 = .ok (.iload_n 1, 1) := by decide +kernel
theorem dX2_isFrame_1 : decode cX2_isFrame 1 = .ok (.ifCond .lt 15, 3) := by decide +kernel
theorem dX2_isFrame_4 : decode cX2_isFrame 4 = .ok (.iload_n 1, 1) := by decide +kernel
theorem dX2_isFrame_5 : decode cX2_isFrame 5 = .ok (.aload_n 0, 1) := by decide +kernel
theorem dX2_isFrame_6 : decode cX2_isFrame 6 = .ok (.getfield 9, 3) := by decide +kernel
theorem dX2_isFrame_9 : decode cX2_isFrame 9 = .ok (.if_icmp .ge 7, 3) := by decide +kernel
theorem dX2_isFrame_12 : decode cX2_isFrame 12 = .ok (.iconst 1, 1) := by decide +kernel
theorem dX2_isFrame_13 : decode cX2_isFrame 13 = .ok (.goto 4, 3) := by decide +kernel
theorem dX2_isFrame_16 : decode cX2_isFrame 16 = .ok (.iconst 0, 1) := by decide +kernel
theorem dX2_isFrame_17 : decode cX2_isFrame 17 = .ok (.ireturn, 1) := by decide +kernel
theorem dX2_isSlice_0 : decode cX2_isSlice 0 = .ok (.iload_n 1, 1) := by decide +kernel
theorem dX2_isSlice_1 : decode cX2_isSlice 1 = .ok (.ifCond .lt 15, 3) := by decide +kernel
theorem dX2_isSlice_4 : decode cX2_isSlice 4 = .ok (.iload_n 1, 1) := by decide +kernel
theorem dX2_isSlice_5 : decode cX2_isSlice 5 = .ok (.aload_n 0, 1) := by decide +kernel
theorem dX2_isSlice_6 : decode cX2_isSlice 6 = .ok (.getfield 15, 3) := by decide +kernel
theorem dX2_isSlice_9 : decode cX2_isSlice 9 = .ok (.if_icmp .ge 7, 3) := by decide +kernel
theorem dX2_isSlice_12 : decode cX2_isSlice 12 = .ok (.iconst 1, 1) := by decide +kernel
theorem dX2_isSlice_13 : decode cX2_isSlice 13 = .ok (.goto 4, 3) := by decide +kernel
theorem dX2_isSlice_16 : decode cX2_isSlice 16 = .ok (.iconst 0, 1) := by decide +kernel
theorem dX2_isSlice_17 : decode cX2_isSlice 17 = .ok (.ireturn, 1) := by decide +kernel
theorem dX2_isFree_0 : decode cX2_isFree 0 = .ok (.aload_n 0, 1) := by decide +kernel
theorem dX2_isFree_1 : decode cX2_isFree 1 = .ok (.getfield 30, 3) := by decide +kernel
theorem dX2_isFree_4 : decode cX2_isFree 4 = .ok (.bipush 7, 2) := by decide +kernel
theorem dX2_isFree_6 : decode cX2_isFree 6 = .ok (.iaload, 1) := by decide +kernel
theorem dX2_isFree_7 : decode cX2_isFree 7 = .ok (.ifCond .ne 7, 3) := by decide +kernel
theorem dX2_isFree_10 : decode cX2_isFree 10 = .ok (.iconst 1, 1) := by decide +kernel
theorem dX2_isFree_11 : decode cX2_isFree 11 = .ok (.goto 4, 3) := by decide +kernel
theorem dX2_isFree_14 : decode cX2_isFree 14 = .ok (.iconst 0, 1) := by decide +kernel
theorem dX2_isFree_15 : decode cX2_isFree 15 = .ok (.ireturn, 1) := by decide +kernel
theorem dX2_endFrame_0 : decode cX2_endFrame 0 = .ok (.iload_n 1, 1) := by decide +kernel
theorem dX2_endFrame_1 : decode cX2_endFrame 1 = .ok (.iconst 1, 1) := by decide +kernel
theorem dX2_endFrame_2 : decode cX2_endFrame 2 = .ok (.iadd, 1) := by decide +kernel
theorem dX2_endFrame_3 : decode cX2_endFrame 3 = .ok (.aload_n 0, 1) := by decide +kernel
theorem dX2_endFrame_4 : decode cX2_endFrame 4 = .ok (.getfield 15, 3) := by decide +kernel
theorem dX2_endFrame_7 : decode cX2_endFrame 7 = .ok (.if_icmp .ge 14, 3) := by decide +kernel
theorem dX2_endFrame_10 : decode cX2_endFrame 10 = .ok (.aload_n 0, 1) := by decide +kernel
theorem dX2_endFrame_11 : decode cX2_endFrame 11 = .ok (.getfield 33, 3) := by decide +kernel
theorem dX2_endFrame_14 : decode cX2_endFrame 14 = .ok (.iload_n 1, 1) := by decide +kernel
theorem dX2_endFrame_15 : decode cX2_endFrame 15 = .ok (.iconst 1, 1) := by decide +kernel
theorem dX2_endFrame_16 : decode cX2_endFrame 16 = .ok (.iadd, 1) := by decide +kernel
theorem dX2_endFrame_17 : decode cX2_endFrame 17 = .ok (.iaload, 1) := by decide +kernel
theorem dX2_endFrame_18 : decode cX2_endFrame 18 = .ok (.goto 7, 3) := by decide +kernel
theorem dX2_endFrame_21 : decode cX2_endFrame 21 = .ok (.aload_n 0, 1) := by decide +kernel
theorem dX2_endFrame_22 : decode cX2_endFrame 22 = .ok (.getfield 9, 3) := by decide +kernel
theorem dX2_endFrame_25 : decode cX2_endFrame 25 = .ok (.ireturn, 1) := by decide +kernel
set_option maxRecDepth 20000 in
theorem ggX2_lengthOf_X2_endFrame : GoodIn wsX2_lengthOf wsX2_endFrame := goodIn_r _ [7, 8, 1, 9, 10, 11, 12, 13, 14, 15] (by decide +kernel) (by decide +kernel)
set_option maxRecDepth 20000 in
theorem gX2_lengthOf_X2_endFrame : GoodIn wsX2_lengthOf (wsV RX2 48 RX2 yX2_endFrame wsX2_endFrame) := goodIn_app (goodIn_of _ (by decide +kernel)) ggX2_lengthOf_X2_endFrame
theorem dX2_lengthOf_0 : decode cX2_lengthOf 0 = .ok (.aload_n 0, 1) := by decide +kernel
theorem dX2_lengthOf_1 : decode cX2_lengthOf 1 = .ok (.iload_n 1, 1) := by decide +kernel
theorem dX2_lengthOf_2 : decode cX2_lengthOf 2 = .ok (.invokevirtual 48, 3) := by decide +kernel
theorem dX2_lengthOf_5 : decode cX2_lengthOf 5 = .ok (.aload_n 0, 1) := by decide +kernel
theorem dX2_lengthOf_6 : decode cX2_lengthOf 6 = .ok (.getfield 33, 3) := by decide +kernel
theorem dX2_lengthOf_9 : decode cX2_lengthOf 9 = .ok (.iload_n 1, 1) := by decide +kernel
theorem dX2_lengthOf_10 : decode cX2_lengthOf 10 = .ok (.iaload, 1) := by decide +kernel
theorem dX2_lengthOf_11 : decode cX2_lengthOf 11 = .ok (.isub, 1) := by decide +kernel
theorem dX2_lengthOf_12 : decode cX2_lengthOf 12 = .ok (.aload_n 0, 1) := by decide +kernel
theorem dX2_lengthOf_13 : decode cX2_lengthOf 13 = .ok (.getfield 30, 3) := by decide +kernel
theorem dX2_lengthOf_16 : decode cX2_lengthOf 16 = .ok (.iconst 0, 1) := by decide +kernel
theorem dX2_lengthOf_17 : decode cX2_lengthOf 17 = .ok (.iaload, 1) := by decide +kernel
theorem dX2_lengthOf_18 : decode cX2_lengthOf 18 = .ok (.imul, 1) := by decide +kernel
theorem dX2_lengthOf_19 : decode cX2_lengthOf 19 = .ok (.ireturn, 1) := by decide +kernel
theorem dX2_leastBudget_0 : decode cX2_leastBudget 0 = .ok (.iload_n 1, 1) := by decide +kernel
theorem dX2_leastBudget_1 : decode cX2_leastBudget 1 = .ok (.aload_n 0, 1) := by decide +kernel
theorem dX2_leastBudget_2 : decode cX2_leastBudget 2 = .ok (.getfield 30, 3) := by decide +kernel
theorem dX2_leastBudget_5 : decode cX2_leastBudget 5 = .ok (.iconst 3, 1) := by decide +kernel
theorem dX2_leastBudget_6 : decode cX2_leastBudget 6 = .ok (.iaload, 1) := by decide +kernel
theorem dX2_leastBudget_7 : decode cX2_leastBudget 7 = .ok (.imul, 1) := by decide +kernel
theorem dX2_leastBudget_8 : decode cX2_leastBudget 8 = .ok (.bipush 100, 2) := by decide +kernel
theorem dX2_leastBudget_10 : decode cX2_leastBudget 10 = .ok (.idiv, 1) := by decide +kernel
theorem dX2_leastBudget_11 : decode cX2_leastBudget 11 = .ok (.ireturn, 1) := by decide +kernel
theorem dX2_mostBudget_0 : decode cX2_mostBudget 0 = .ok (.iload_n 1, 1) := by decide +kernel
theorem dX2_mostBudget_1 : decode cX2_mostBudget 1 = .ok (.aload_n 0, 1) := by decide +kernel
theorem dX2_mostBudget_2 : decode cX2_mostBudget 2 = .ok (.getfield 30, 3) := by decide +kernel
theorem dX2_mostBudget_5 : decode cX2_mostBudget 5 = .ok (.iconst 4, 1) := by decide +kernel
theorem dX2_mostBudget_6 : decode cX2_mostBudget 6 = .ok (.iaload, 1) := by decide +kernel
theorem dX2_mostBudget_7 : decode cX2_mostBudget 7 = .ok (.imul, 1) := by decide +kernel
theorem dX2_mostBudget_8 : decode cX2_mostBudget 8 = .ok (.bipush 100, 2) := by decide +kernel
theorem dX2_mostBudget_10 : decode cX2_mostBudget 10 = .ok (.idiv, 1) := by decide +kernel
theorem dX2_mostBudget_11 : decode cX2_mostBudget 11 = .ok (.ireturn, 1) := by decide +kernel
set_option maxRecDepth 20000 in
theorem ggX2_loudestFrame_X2_endFrame : GoodIn wsX2_loudestFrame wsX2_endFrame := goodIn_r _ [7, 8, 1, 9, 10, 11, 12, 13, 14, 15] (by decide +kernel) (by decide +kernel)
set_option maxRecDepth 20000 in
theorem gX2_loudestFrame_X2_endFrame : GoodIn wsX2_loudestFrame (wsV RX2 48 RX2 yX2_endFrame wsX2_endFrame) := goodIn_app (goodIn_of _ (by decide +kernel)) ggX2_loudestFrame_X2_endFrame
theorem dX2_loudestFrame_0 : decode cX2_loudestFrame 0 = .ok (.aload_n 0, 1) := by decide +kernel
theorem dX2_loudestFrame_1 : decode cX2_loudestFrame 1 = .ok (.getfield 33, 3) := by decide +kernel
theorem dX2_loudestFrame_4 : decode cX2_loudestFrame 4 = .ok (.iload_n 1, 1) := by decide +kernel
theorem dX2_loudestFrame_5 : decode cX2_loudestFrame 5 = .ok (.iaload, 1) := by decide +kernel
theorem dX2_loudestFrame_6 : decode cX2_loudestFrame 6 = .ok (.istore_n 2, 1) := by decide +kernel
theorem dX2_loudestFrame_7 : decode cX2_loudestFrame 7 = .ok (.aload_n 0, 1) := by decide +kernel
theorem dX2_loudestFrame_8 : decode cX2_loudestFrame 8 = .ok (.iload_n 1, 1) := by decide +kernel
theorem dX2_loudestFrame_9 : decode cX2_loudestFrame 9 = .ok (.invokevirtual 48, 3) := by decide +kernel
theorem dX2_loudestFrame_12 : decode cX2_loudestFrame 12 = .ok (.istore_n 3, 1) := by decide +kernel
theorem dX2_loudestFrame_13 : decode cX2_loudestFrame 13 = .ok (.iload_n 2, 1) := by decide +kernel
theorem dX2_loudestFrame_14 : decode cX2_loudestFrame 14 = .ok (.iconst 1, 1) := by decide +kernel
theorem dX2_loudestFrame_15 : decode cX2_loudestFrame 15 = .ok (.iadd, 1) := by decide +kernel
theorem dX2_loudestFrame_16 : decode cX2_loudestFrame 16 = .ok (.istore 4, 2) := by decide +kernel
theorem dX2_loudestFrame_18 : decode cX2_loudestFrame 18 = .ok (.iload 4, 2) := by decide +kernel
theorem dX2_loudestFrame_20 : decode cX2_loudestFrame 20 = .ok (.iload_n 3, 1) := by decide +kernel
theorem dX2_loudestFrame_21 : decode cX2_loudestFrame 21 = .ok (.if_icmp .ge 28, 3) := by decide +kernel
theorem dX2_loudestFrame_24 : decode cX2_loudestFrame 24 = .ok (.aload_n 0, 1) := by decide +kernel
theorem dX2_loudestFrame_25 : decode cX2_loudestFrame 25 = .ok (.getfield 18, 3) := by decide +kernel
theorem dX2_loudestFrame_28 : decode cX2_loudestFrame 28 = .ok (.iload 4, 2) := by decide +kernel
theorem dX2_loudestFrame_30 : decode cX2_loudestFrame 30 = .ok (.iaload, 1) := by decide +kernel
theorem dX2_loudestFrame_31 : decode cX2_loudestFrame 31 = .ok (.aload_n 0, 1) := by decide +kernel
theorem dX2_loudestFrame_32 : decode cX2_loudestFrame 32 = .ok (.getfield 18, 3) := by decide +kernel
theorem dX2_loudestFrame_35 : decode cX2_loudestFrame 35 = .ok (.iload_n 2, 1) := by decide +kernel
theorem dX2_loudestFrame_36 : decode cX2_loudestFrame 36 = .ok (.iaload, 1) := by decide +kernel
theorem dX2_loudestFrame_37 : decode cX2_loudestFrame 37 = .ok (.if_icmp .le 6, 3) := by decide +kernel
theorem dX2_loudestFrame_40 : decode cX2_loudestFrame 40 = .ok (.iload 4, 2) := by decide +kernel
theorem dX2_loudestFrame_42 : decode cX2_loudestFrame 42 = .ok (.istore_n 2, 1) := by decide +kernel
theorem dX2_loudestFrame_43 : decode cX2_loudestFrame 43 = .ok (.iinc 4 1, 3) := by decide +kernel
theorem dX2_loudestFrame_46 : decode cX2_loudestFrame 46 = .ok (.goto (-28), 3) := by decide +kernel
theorem dX2_loudestFrame_49 : decode cX2_loudestFrame 49 = .ok (.iload_n 2, 1) := by decide +kernel
theorem dX2_loudestFrame_50 : decode cX2_loudestFrame 50 = .ok (.ireturn, 1) := by decide +kernel
theorem dX2_placeOf_0 : decode cX2_placeOf 0 = .ok (.iconst 0, 1) := by decide +kernel
theorem dX2_placeOf_1 : decode cX2_placeOf 1 = .ok (.istore_n 2, 1) := by decide +kernel
theorem dX2_placeOf_2 : decode cX2_placeOf 2 = .ok (.iload_n 2, 1) := by decide +kernel
theorem dX2_placeOf_3 : decode cX2_placeOf 3 = .ok (.aload_n 0, 1) := by decide +kernel
theorem dX2_placeOf_4 : decode cX2_placeOf 4 = .ok (.getfield 15, 3) := by decide +kernel
theorem dX2_placeOf_7 : decode cX2_placeOf 7 = .ok (.iconst 1, 1) := by decide +kernel
theorem dX2_placeOf_8 : decode cX2_placeOf 8 = .ok (.isub, 1) := by decide +kernel
theorem dX2_placeOf_9 : decode cX2_placeOf 9 = .ok (.if_icmp .ge 19, 3) := by decide +kernel
theorem dX2_placeOf_12 : decode cX2_placeOf 12 = .ok (.aload_n 0, 1) := by decide +kernel
theorem dX2_placeOf_13 : decode cX2_placeOf 13 = .ok (.getfield 36, 3) := by decide +kernel
theorem dX2_placeOf_16 : decode cX2_placeOf 16 = .ok (.iload_n 2, 1) := by decide +kernel
theorem dX2_placeOf_17 : decode cX2_placeOf 17 = .ok (.iaload, 1) := by decide +kernel
theorem dX2_placeOf_18 : decode cX2_placeOf 18 = .ok (.iload_n 1, 1) := by decide +kernel
theorem dX2_placeOf_19 : decode cX2_placeOf 19 = .ok (.if_icmp .eq 9, 3) := by decide +kernel
theorem dX2_placeOf_22 : decode cX2_placeOf 22 = .ok (.iinc 2 1, 3) := by decide +kernel
theorem dX2_placeOf_25 : decode cX2_placeOf 25 = .ok (.goto (-23), 3) := by decide +kernel
theorem dX2_placeOf_28 : decode cX2_placeOf 28 = .ok (.iload_n 2, 1) := by decide +kernel
theorem dX2_placeOf_29 : decode cX2_placeOf 29 = .ok (.ireturn, 1) := by decide +kernel
theorem dX2_exchange_0 : decode cX2_exchange 0 = .ok (.aload_n 0, 1) := by decide +kernel
theorem dX2_exchange_1 : decode cX2_exchange 1 = .ok (.getfield 36, 3) := by decide +kernel
theorem dX2_exchange_4 : decode cX2_exchange 4 = .ok (.iload_n 1, 1) := by decide +kernel
theorem dX2_exchange_5 : decode cX2_exchange 5 = .ok (.iaload, 1) := by decide +kernel
theorem dX2_exchange_6 : decode cX2_exchange 6 = .ok (.istore_n 3, 1) := by decide +kernel
theorem dX2_exchange_7 : decode cX2_exchange 7 = .ok (.aload_n 0, 1) := by decide +kernel
theorem dX2_exchange_8 : decode cX2_exchange 8 = .ok (.getfield 36, 3) := by decide +kernel
theorem dX2_exchange_11 : decode cX2_exchange 11 = .ok (.iload_n 1, 1) := by decide +kernel
theorem dX2_exchange_12 : decode cX2_exchange 12 = .ok (.aload_n 0, 1) := by decide +kernel
theorem dX2_exchange_13 : decode cX2_exchange 13 = .ok (.getfield 36, 3) := by decide +kernel
theorem dX2_exchange_16 : decode cX2_exchange 16 = .ok (.iload_n 2, 1) := by decide +kernel
theorem dX2_exchange_17 : decode cX2_exchange 17 = .ok (.iaload, 1) := by decide +kernel
theorem dX2_exchange_18 : decode cX2_exchange 18 = .ok (.iastore, 1) := by decide +kernel
theorem dX2_exchange_19 : decode cX2_exchange 19 = .ok (.aload_n 0, 1) := by decide +kernel
theorem dX2_exchange_20 : decode cX2_exchange 20 = .ok (.getfield 36, 3) := by decide +kernel
theorem dX2_exchange_23 : decode cX2_exchange 23 = .ok (.iload_n 2, 1) := by decide +kernel
theorem dX2_exchange_24 : decode cX2_exchange 24 = .ok (.iload_n 3, 1) := by decide +kernel
theorem dX2_exchange_25 : decode cX2_exchange 25 = .ok (.iastore, 1) := by decide +kernel
theorem dX2_exchange_26 : decode cX2_exchange 26 = .ok (.return_, 1) := by decide +kernel
theorem dX2_marksBefore_0 : decode cX2_marksBefore 0 = .ok (.iconst 0, 1) := by decide +kernel
theorem dX2_marksBefore_1 : decode cX2_marksBefore 1 = .ok (.istore_n 2, 1) := by decide +kernel
theorem dX2_marksBefore_2 : decode cX2_marksBefore 2 = .ok (.iload_n 2, 1) := by decide +kernel
theorem dX2_marksBefore_3 : decode cX2_marksBefore 3 = .ok (.aload_n 0, 1) := by decide +kernel
theorem dX2_marksBefore_4 : decode cX2_marksBefore 4 = .ok (.getfield 15, 3) := by decide +kernel
theorem dX2_marksBefore_7 : decode cX2_marksBefore 7 = .ok (.if_icmp .ge 19, 3) := by decide +kernel
theorem dX2_marksBefore_10 : decode cX2_marksBefore 10 = .ok (.aload_n 0, 1) := by decide +kernel
theorem dX2_marksBefore_11 : decode cX2_marksBefore 11 = .ok (.getfield 33, 3) := by decide +kernel
theorem dX2_marksBefore_14 : decode cX2_marksBefore 14 = .ok (.iload_n 2, 1) := by decide +kernel
theorem dX2_marksBefore_15 : decode cX2_marksBefore 15 = .ok (.iaload, 1) := by decide +kernel
theorem dX2_marksBefore_16 : decode cX2_marksBefore 16 = .ok (.iload_n 1, 1) := by decide +kernel
theorem dX2_marksBefore_17 : decode cX2_marksBefore 17 = .ok (.if_icmp .ge 9, 3) := by decide +kernel
theorem dX2_marksBefore_20 : decode cX2_marksBefore 20 = .ok (.iinc 2 1, 3) := by decide +kernel
theorem dX2_marksBefore_23 : decode cX2_marksBefore 23 = .ok (.goto (-21), 3) := by decide +kernel
theorem dX2_marksBefore_26 : decode cX2_marksBefore 26 = .ok (.iload_n 2, 1) := by decide +kernel
theorem dX2_marksBefore_27 : decode cX2_marksBefore 27 = .ok (.ireturn, 1) := by decide +kernel
set_option maxRecDepth 20000 in
theorem ggX2_insertMark_X2_resetSequence : GoodIn wsX2_insertMark wsX2_resetSequence := goodIn_r _ [7, 8, 9, 10, 11, 12, 13, 14] (by decide +kernel) (by decide +kernel)
set_option maxRecDepth 20000 in
theorem gX2_insertMark_X2_resetSequence : GoodIn wsX2_insertMark (wsV RX2 45 RX2 yX2_resetSequence wsX2_resetSequence) := goodIn_app (goodIn_of _ (by decide +kernel)) ggX2_insertMark_X2_resetSequence
theorem dX2_insertMark_0 : decode cX2_insertMark 0 = .ok (.aload_n 0, 1) := by decide +kernel
theorem dX2_insertMark_1 : decode cX2_insertMark 1 = .ok (.getfield 15, 3) := by decide +kernel
theorem dX2_insertMark_4 : decode cX2_insertMark 4 = .ok (.istore_n 3, 1) := by decide +kernel
theorem dX2_insertMark_5 : decode cX2_insertMark 5 = .ok (.iload_n 3, 1) := by decide +kernel
theorem dX2_insertMark_6 : decode cX2_insertMark 6 = .ok (.iload_n 1, 1) := by decide +kernel
theorem dX2_insertMark_7 : decode cX2_insertMark 7 = .ok (.if_icmp .le 23, 3) := by decide +kernel
theorem dX2_insertMark_10 : decode cX2_insertMark 10 = .ok (.aload_n 0, 1) := by decide +kernel
theorem dX2_insertMark_11 : decode cX2_insertMark 11 = .ok (.getfield 33, 3) := by decide +kernel
theorem dX2_insertMark_14 : decode cX2_insertMark 14 = .ok (.iload_n 3, 1) := by decide +kernel
theorem dX2_insertMark_15 : decode cX2_insertMark 15 = .ok (.aload_n 0, 1) := by decide +kernel
theorem dX2_insertMark_16 : decode cX2_insertMark 16 = .ok (.getfield 33, 3) := by decide +kernel
theorem dX2_insertMark_19 : decode cX2_insertMark 19 = .ok (.iload_n 3, 1) := by decide +kernel
theorem dX2_insertMark_20 : decode cX2_insertMark 20 = .ok (.iconst 1, 1) := by decide +kernel
theorem dX2_insertMark_21 : decode cX2_insertMark 21 = .ok (.isub, 1) := by decide +kernel
theorem dX2_insertMark_22 : decode cX2_insertMark 22 = .ok (.iaload, 1) := by decide +kernel
theorem dX2_insertMark_23 : decode cX2_insertMark 23 = .ok (.iastore, 1) := by decide +kernel
theorem dX2_insertMark_24 : decode cX2_insertMark 24 = .ok (.iinc 3 (-1), 3) := by decide +kernel
theorem dX2_insertMark_27 : decode cX2_insertMark 27 = .ok (.goto (-22), 3) := by decide +kernel
theorem dX2_insertMark_30 : decode cX2_insertMark 30 = .ok (.aload_n 0, 1) := by decide +kernel
theorem dX2_insertMark_31 : decode cX2_insertMark 31 = .ok (.getfield 33, 3) := by decide +kernel
theorem dX2_insertMark_34 : decode cX2_insertMark 34 = .ok (.iload_n 1, 1) := by decide +kernel
theorem dX2_insertMark_35 : decode cX2_insertMark 35 = .ok (.iload_n 2, 1) := by decide +kernel
theorem dX2_insertMark_36 : decode cX2_insertMark 36 = .ok (.iastore, 1) := by decide +kernel
theorem dX2_insertMark_37 : decode cX2_insertMark 37 = .ok (.aload_n 0, 1) := by decide +kernel
theorem dX2_insertMark_38 : decode cX2_insertMark 38 = .ok (.dup, 1) := by decide +kernel
theorem dX2_insertMark_39 : decode cX2_insertMark 39 = .ok (.getfield 15, 3) := by decide +kernel
theorem dX2_insertMark_42 : decode cX2_insertMark 42 = .ok (.iconst 1, 1) := by decide +kernel
theorem dX2_insertMark_43 : decode cX2_insertMark 43 = .ok (.iadd, 1) := by decide +kernel
theorem dX2_insertMark_44 : decode cX2_insertMark 44 = .ok (.putfield 15, 3) := by decide +kernel
theorem dX2_insertMark_47 : decode cX2_insertMark 47 = .ok (.aload_n 0, 1) := by decide +kernel
theorem dX2_insertMark_48 : decode cX2_insertMark 48 = .ok (.invokevirtual 45, 3) := by decide +kernel
theorem dX2_insertMark_51 : decode cX2_insertMark 51 = .ok (.return_, 1) := by decide +kernel
set_option maxRecDepth 20000 in
theorem ggX2_removeMark_X2_resetSequence : GoodIn wsX2_removeMark wsX2_resetSequence := goodIn_r _ [7, 8, 9, 10, 11, 12, 13, 14] (by decide +kernel) (by decide +kernel)
set_option maxRecDepth 20000 in
theorem gX2_removeMark_X2_resetSequence : GoodIn wsX2_removeMark (wsV RX2 45 RX2 yX2_resetSequence wsX2_resetSequence) := goodIn_app (goodIn_of _ (by decide +kernel)) ggX2_removeMark_X2_resetSequence
theorem dX2_removeMark_0 : decode cX2_removeMark 0 = .ok (.iload_n 1, 1) := by decide +kernel
theorem dX2_removeMark_1 : decode cX2_removeMark 1 = .ok (.istore_n 2, 1) := by decide +kernel
theorem dX2_removeMark_2 : decode cX2_removeMark 2 = .ok (.iload_n 2, 1) := by decide +kernel
theorem dX2_removeMark_3 : decode cX2_removeMark 3 = .ok (.aload_n 0, 1) := by decide +kernel
theorem dX2_removeMark_4 : decode cX2_removeMark 4 = .ok (.getfield 15, 3) := by decide +kernel
theorem dX2_removeMark_7 : decode cX2_removeMark 7 = .ok (.iconst 1, 1) := by decide +kernel
theorem dX2_removeMark_8 : decode cX2_removeMark 8 = .ok (.isub, 1) := by decide +kernel
theorem dX2_removeMark_9 : decode cX2_removeMark 9 = .ok (.if_icmp .ge 23, 3) := by decide +kernel
theorem dX2_removeMark_12 : decode cX2_removeMark 12 = .ok (.aload_n 0, 1) := by decide +kernel
theorem dX2_removeMark_13 : decode cX2_removeMark 13 = .ok (.getfield 33, 3) := by decide +kernel
theorem dX2_removeMark_16 : decode cX2_removeMark 16 = .ok (.iload_n 2, 1) := by decide +kernel
theorem dX2_removeMark_17 : decode cX2_removeMark 17 = .ok (.aload_n 0, 1) := by decide +kernel
theorem dX2_removeMark_18 : decode cX2_removeMark 18 = .ok (.getfield 33, 3) := by decide +kernel
theorem dX2_removeMark_21 : decode cX2_removeMark 21 = .ok (.iload_n 2, 1) := by decide +kernel
theorem dX2_removeMark_22 : decode cX2_removeMark 22 = .ok (.iconst 1, 1) := by decide +kernel
theorem dX2_removeMark_23 : decode cX2_removeMark 23 = .ok (.iadd, 1) := by decide +kernel
theorem dX2_removeMark_24 : decode cX2_removeMark 24 = .ok (.iaload, 1) := by decide +kernel
theorem dX2_removeMark_25 : decode cX2_removeMark 25 = .ok (.iastore, 1) := by decide +kernel
theorem dX2_removeMark_26 : decode cX2_removeMark 26 = .ok (.iinc 2 1, 3) := by decide +kernel
theorem dX2_removeMark_29 : decode cX2_removeMark 29 = .ok (.goto (-27), 3) := by decide +kernel
theorem dX2_removeMark_32 : decode cX2_removeMark 32 = .ok (.aload_n 0, 1) := by decide +kernel
theorem dX2_removeMark_33 : decode cX2_removeMark 33 = .ok (.dup, 1) := by decide +kernel
theorem dX2_removeMark_34 : decode cX2_removeMark 34 = .ok (.getfield 15, 3) := by decide +kernel
theorem dX2_removeMark_37 : decode cX2_removeMark 37 = .ok (.iconst 1, 1) := by decide +kernel
theorem dX2_removeMark_38 : decode cX2_removeMark 38 = .ok (.isub, 1) := by decide +kernel
theorem dX2_removeMark_39 : decode cX2_removeMark 39 = .ok (.putfield 15, 3) := by decide +kernel
theorem dX2_removeMark_42 : decode cX2_removeMark 42 = .ok (.aload_n 0, 1) := by decide +kernel
theorem dX2_removeMark_43 : decode cX2_removeMark 43 = .ok (.invokevirtual 45, 3) := by decide +kernel
theorem dX2_removeMark_46 : decode cX2_removeMark 46 = .ok (.return_, 1) := by decide +kernel
theorem dX2_findRises_0 : decode cX2_findRises 0 = .ok (.aload_n 2, 1) := by decide +kernel
theorem dX2_findRises_1 : decode cX2_findRises 1 = .ok (.iconst 0, 1) := by decide +kernel
theorem dX2_findRises_2 : decode cX2_findRises 2 = .ok (.iconst 0, 1) := by decide +kernel
theorem dX2_findRises_3 : decode cX2_findRises 3 = .ok (.iastore, 1) := by decide +kernel
theorem dX2_findRises_4 : decode cX2_findRises 4 = .ok (.iconst 1, 1) := by decide +kernel
theorem dX2_findRises_5 : decode cX2_findRises 5 = .ok (.istore_n 3, 1) := by decide +kernel
theorem dX2_findRises_6 : decode cX2_findRises 6 = .ok (.iconst 1, 1) := by decide +kernel
theorem dX2_findRises_7 : decode cX2_findRises 7 = .ok (.istore 4, 2) := by decide +kernel
theorem dX2_findRises_9 : decode cX2_findRises 9 = .ok (.iload 4, 2) := by decide +kernel
theorem dX2_findRises_11 : decode cX2_findRises 11 = .ok (.aload_n 0, 1) := by decide +kernel
theorem dX2_findRises_12 : decode cX2_findRises 12 = .ok (.getfield 9, 3) := by decide +kernel
theorem dX2_findRises_15 : decode cX2_findRises 15 = .ok (.if_icmp .ge 65, 3) := by decide +kernel
theorem dX2_findRises_18 : decode cX2_findRises 18 = .ok (.iload_n 3, 1) := by decide +kernel
theorem dX2_findRises_19 : decode cX2_findRises 19 = .ok (.bipush 16, 2) := by decide +kernel
theorem dX2_findRises_21 : decode cX2_findRises 21 = .ok (.if_icmp .ge 59, 3) := by decide +kernel
theorem dX2_findRises_24 : decode cX2_findRises 24 = .ok (.aload_n 0, 1) := by decide +kernel
theorem dX2_findRises_25 : decode cX2_findRises 25 = .ok (.getfield 18, 3) := by decide +kernel
theorem dX2_findRises_28 : decode cX2_findRises 28 = .ok (.iload 4, 2) := by decide +kernel
theorem dX2_findRises_30 : decode cX2_findRises 30 = .ok (.iaload, 1) := by decide +kernel
theorem dX2_findRises_31 : decode cX2_findRises 31 = .ok (.aload_n 0, 1) := by decide +kernel
theorem dX2_findRises_32 : decode cX2_findRises 32 = .ok (.getfield 18, 3) := by decide +kernel
theorem dX2_findRises_35 : decode cX2_findRises 35 = .ok (.iload 4, 2) := by decide +kernel
theorem dX2_findRises_37 : decode cX2_findRises 37 = .ok (.iconst 1, 1) := by decide +kernel
theorem dX2_findRises_38 : decode cX2_findRises 38 = .ok (.isub, 1) := by decide +kernel
theorem dX2_findRises_39 : decode cX2_findRises 39 = .ok (.iaload, 1) := by decide +kernel
theorem dX2_findRises_40 : decode cX2_findRises 40 = .ok (.isub, 1) := by decide +kernel
theorem dX2_findRises_41 : decode cX2_findRises 41 = .ok (.istore 5, 2) := by decide +kernel
theorem dX2_findRises_43 : decode cX2_findRises 43 = .ok (.iload 5, 2) := by decide +kernel
theorem dX2_findRises_45 : decode cX2_findRises 45 = .ok (.iload_n 1, 1) := by decide +kernel
theorem dX2_findRises_46 : decode cX2_findRises 46 = .ok (.if_icmp .lt 28, 3) := by decide +kernel
theorem dX2_findRises_49 : decode cX2_findRises 49 = .ok (.iload 4, 2) := by decide +kernel
theorem dX2_findRises_51 : decode cX2_findRises 51 = .ok (.aload_n 2, 1) := by decide +kernel
theorem dX2_findRises_52 : decode cX2_findRises 52 = .ok (.iload_n 3, 1) := by decide +kernel
theorem dX2_findRises_53 : decode cX2_findRises 53 = .ok (.iconst 1, 1) := by decide +kernel
theorem dX2_findRises_54 : decode cX2_findRises 54 = .ok (.isub, 1) := by decide +kernel
theorem dX2_findRises_55 : decode cX2_findRises 55 = .ok (.iaload, 1) := by decide +kernel
theorem dX2_findRises_56 : decode cX2_findRises 56 = .ok (.isub, 1) := by decide +kernel
theorem dX2_findRises_57 : decode cX2_findRises 57 = .ok (.aload_n 0, 1) := by decide +kernel
theorem dX2_findRises_58 : decode cX2_findRises 58 = .ok (.getfield 30, 3) := by decide +kernel
theorem dX2_findRises_61 : decode cX2_findRises 61 = .ok (.iconst 2, 1) := by decide +kernel
theorem dX2_findRises_62 : decode cX2_findRises 62 = .ok (.iaload, 1) := by decide +kernel
theorem dX2_findRises_63 : decode cX2_findRises 63 = .ok (.if_icmp .lt 11, 3) := by decide +kernel
theorem dX2_findRises_66 : decode cX2_findRises 66 = .ok (.aload_n 2, 1) := by decide +kernel
theorem dX2_findRises_67 : decode cX2_findRises 67 = .ok (.iload_n 3, 1) := by decide +kernel
theorem dX2_findRises_68 : decode cX2_findRises 68 = .ok (.iload 4, 2) := by decide +kernel
theorem dX2_findRises_70 : decode cX2_findRises 70 = .ok (.iastore, 1) := by decide +kernel
theorem dX2_findRises_71 : decode cX2_findRises 71 = .ok (.iinc 3 1, 3) := by decide +kernel
theorem dX2_findRises_74 : decode cX2_findRises 74 = .ok (.iinc 4 1, 3) := by decide +kernel
theorem dX2_findRises_77 : decode cX2_findRises 77 = .ok (.goto (-68), 3) := by decide +kernel
theorem dX2_findRises_80 : decode cX2_findRises 80 = .ok (.iload_n 3, 1) := by decide +kernel
theorem dX2_findRises_81 : decode cX2_findRises 81 = .ok (.ireturn, 1) := by decide +kernel
theorem dX3_init_0 : decode cX3_init 0 = .ok (.aload_n 0, 1) := by decide +kernel
theorem dX3_init_1 : decode cX3_init 1 = .ok (.invokespecial 3, 3) := by decide +kernel
theorem dX3_init_4 : decode cX3_init 4 = .ok (.aload_n 0, 1) := by decide +kernel
theorem dX3_init_5 : decode cX3_init 5 = .ok (.bipush 16, 2) := by decide +kernel
theorem dX3_init_7 : decode cX3_init 7 = .ok (.newarray .int, 2) := by decide +kernel
theorem dX3_init_9 : decode cX3_init 9 = .ok (.putfield 9, 3) := by decide +kernel
theorem dX3_init_12 : decode cX3_init 12 = .ok (.aload_n 0, 1) := by decide +kernel
theorem dX3_init_13 : decode cX3_init 13 = .ok (.bipush 16, 2) := by decide +kernel
theorem dX3_init_15 : decode cX3_init 15 = .ok (.newarray .long, 2) := by decide +kernel
theorem dX3_init_17 : decode cX3_init 17 = .ok (.putfield 15, 3) := by decide +kernel
theorem dX3_init_20 : decode cX3_init 20 = .ok (.aload_n 0, 1) := by decide +kernel
theorem dX3_init_21 : decode cX3_init 21 = .ok (.aload_n 1, 1) := by decide +kernel
theorem dX3_init_22 : decode cX3_init 22 = .ok (.putfield 19, 3) := by decide +kernel
theorem dX3_init_25 : decode cX3_init 25 = .ok (.aload_n 0, 1) := by decide +kernel
theorem dX3_init_26 : decode cX3_init 26 = .ok (.aload_n 2, 1) := by decide +kernel
theorem dX3_init_27 : decode cX3_init 27 = .ok (.putfield 23, 3) := by decide +kernel
theorem dX3_init_30 : decode cX3_init 30 = .ok (.return_, 1) := by decide +kernel
set_option maxRecDepth 20000 in
theorem ggX3_lay_X2_isFree : GoodIn wsX3_lay wsX2_isFree := goodIn_r _ [9, 10, 104, 105, 106, 107, 108, 109] (by decide +kernel) (by decide +kernel)
set_option maxRecDepth 20000 in
theorem gX3_lay_X2_isFree : GoodIn wsX3_lay (wsV RX3 27 RX2 yX2_isFree wsX2_isFree) := goodIn_app (goodIn_of _ (by decide +kernel)) ggX3_lay_X2_isFree
set_option maxRecDepth 20000 in
theorem ggX3_lay_X3_shareFreely : GoodIn wsX3_lay wsX3_shareFreely := goodIn_r _ [15, 1, 16, 17, 3, 4, 18, 19, 20, 21, 8, 22, 23, 10, 24, 25, 26, 27, 28, 29, 30, 31, 32, 14, 33, 34, 100, 101, 102, 103, 104, 105, 106, 107, 108, 109] (by decide +kernel) (by decide +kernel)
set_option maxRecDepth 20000 in
theorem gX3_lay_X3_shareFreely : GoodIn wsX3_lay (wsV RX3 33 RX3 yX3_shareFreely wsX3_shareFreely) := goodIn_app (goodIn_of _ (by decide +kernel)) ggX3_lay_X3_shareFreely
set_option maxRecDepth 20000 in
theorem ggX3_lay_X0_draw : GoodIn wsX3_lay wsX0_draw := goodIn_r _ [39, 40, 41, 42, 43, 44, 45, 46, 38, 47, 48, 49, 50, 51, 52, 53, 54, 55, 56, 57, 58, 20, 21, 8, 22, 23, 10, 24, 25, 26, 27, 28, 29, 59, 60, 61, 62, 63, 64, 65, 66, 67, 68, 69, 70, 71, 72, 73, 74, 75, 76, 77, 78, 79, 80, 81, 82, 83, 84, 85, 86, 87, 88, 89, 90, 91, 92, 93, 94, 95, 110, 111, 112, 113, 114, 115, 116, 117, 104, 105, 106, 107, 108, 109] (by decide +kernel) (by decide +kernel)
set_option maxRecDepth 20000 in
theorem gX3_lay_X0_draw : GoodIn wsX3_lay (wsV RX3 36 RX0 yX0_draw wsX0_draw) := goodIn_app (goodIn_of _ (by decide +kernel)) ggX3_lay_X0_draw
set_option maxRecDepth 20000 in
theorem ggX3_lay_X0_budgetOf : GoodIn wsX3_lay wsX0_budgetOf := goodIn_r _ [99, 55, 42, 110, 111, 112, 113, 114, 115, 116, 117] (by decide +kernel) (by decide +kernel)
set_option maxRecDepth 20000 in
theorem gX3_lay_X0_budgetOf : GoodIn wsX3_lay (wsV RX3 45 RX0 yX0_budgetOf wsX0_budgetOf) := goodIn_app (goodIn_of _ (by decide +kernel)) ggX3_lay_X0_budgetOf
theorem dX3_lay_0 : decode cX3_lay 0 = .ok (.aload_n 0, 1) := by decide +kernel
theorem dX3_lay_1 : decode cX3_lay 1 = .ok (.getfield 19, 3) := by decide +kernel
theorem dX3_lay_4 : decode cX3_lay 4 = .ok (.invokevirtual 27, 3) := by decide +kernel
theorem dX3_lay_7 : decode cX3_lay 7 = .ok (.ifCond .eq 9, 3) := by decide +kernel
theorem dX3_lay_10 : decode cX3_lay 10 = .ok (.aload_n 0, 1) := by decide +kernel
theorem dX3_lay_11 : decode cX3_lay 11 = .ok (.invokevirtual 33, 3) := by decide +kernel
theorem dX3_lay_14 : decode cX3_lay 14 = .ok (.iconst 1, 1) := by decide +kernel
theorem dX3_lay_15 : decode cX3_lay 15 = .ok (.ireturn, 1) := by decide +kernel
theorem dX3_lay_16 : decode cX3_lay 16 = .ok (.aload_n 0, 1) := by decide +kernel
theorem dX3_lay_17 : decode cX3_lay 17 = .ok (.getfield 23, 3) := by decide +kernel
theorem dX3_lay_20 : decode cX3_lay 20 = .ok (.invokevirtual 36, 3) := by decide +kernel
theorem dX3_lay_23 : decode cX3_lay 23 = .ok (.ifCond .ne 5, 3) := by decide +kernel
theorem dX3_lay_26 : decode cX3_lay 26 = .ok (.iconst 0, 1) := by decide +kernel
theorem dX3_lay_27 : decode cX3_lay 27 = .ok (.ireturn, 1) := by decide +kernel
theorem dX3_lay_28 : decode cX3_lay 28 = .ok (.iconst 0, 1) := by decide +kernel
theorem dX3_lay_29 : decode cX3_lay 29 = .ok (.istore_n 1, 1) := by decide +kernel
theorem dX3_lay_30 : decode cX3_lay 30 = .ok (.iload_n 1, 1) := by decide +kernel
theorem dX3_lay_31 : decode cX3_lay 31 = .ok (.aload_n 0, 1) := by decide +kernel
theorem dX3_lay_32 : decode cX3_lay 32 = .ok (.getfield 19, 3) := by decide +kernel
theorem dX3_lay_35 : decode cX3_lay 35 = .ok (.getfield 41, 3) := by decide +kernel
theorem dX3_lay_38 : decode cX3_lay 38 = .ok (.if_icmp .ge 23, 3) := by decide +kernel
theorem dX3_lay_41 : decode cX3_lay 41 = .ok (.aload_n 0, 1) := by decide +kernel
theorem dX3_lay_42 : decode cX3_lay 42 = .ok (.getfield 9, 3) := by decide +kernel
theorem dX3_lay_45 : decode cX3_lay 45 = .ok (.iload_n 1, 1) := by decide +kernel
theorem dX3_lay_46 : decode cX3_lay 46 = .ok (.aload_n 0, 1) := by decide +kernel
theorem dX3_lay_47 : decode cX3_lay 47 = .ok (.getfield 23, 3) := by decide +kernel
theorem dX3_lay_50 : decode cX3_lay 50 = .ok (.iload_n 1, 1) := by decide +kernel
theorem dX3_lay_51 : decode cX3_lay 51 = .ok (.invokevirtual 45, 3) := by decide +kernel
theorem dX3_lay_54 : decode cX3_lay 54 = .ok (.iastore, 1) := by decide +kernel
theorem dX3_lay_55 : decode cX3_lay 55 = .ok (.iinc 1 1, 3) := by decide +kernel
theorem dX3_lay_58 : decode cX3_lay 58 = .ok (.goto (-28), 3) := by decide +kernel
theorem dX3_lay_61 : decode cX3_lay 61 = .ok (.iconst 1, 1) := by decide +kernel
theorem dX3_lay_62 : decode cX3_lay 62 = .ok (.ireturn, 1) := by decide +kernel
set_option maxRecDepth 20000 in
theorem ggX3_shareFreely_X2_lengthOf : GoodIn wsX3_shareFreely wsX2_lengthOf := goodIn_r _ [11, 12, 13, 14, 15, 16, 10, 17, 18, 19, 30, 31, 32, 33, 34, 35] (by decide +kernel) (by decide +kernel)
set_option maxRecDepth 20000 in
theorem gX3_shareFreely_X2_lengthOf : GoodIn wsX3_shareFreely (wsV RX3 55 RX2 yX2_lengthOf wsX2_lengthOf) := goodIn_app (goodIn_of _ (by decide +kernel)) ggX3_shareFreely_X2_lengthOf
set_option maxRecDepth 20000 in
theorem ggX3_shareFreely_X3_giveOne : GoodIn wsX3_shareFreely wsX3_giveOne := goodIn_r _ [24, 1, 4, 6, 5, 25, 26, 27, 28, 29, 30, 31, 32, 33, 34, 35] (by decide +kernel) (by decide +kernel)
set_option maxRecDepth 20000 in
theorem gX3_shareFreely_X3_giveOne : GoodIn wsX3_shareFreely (wsV RX3 58 RX3 yX3_giveOne wsX3_giveOne) := goodIn_app (goodIn_of _ (by decide +kernel)) ggX3_shareFreely_X3_giveOne
theorem dX3_shareFreely_0 : decode cX3_shareFreely 0 = .ok (.aload_n 0, 1) := by decide +kernel
theorem dX3_shareFreely_1 : decode cX3_shareFreely 1 = .ok (.getfield 19, 3) := by decide +kernel
theorem dX3_shareFreely_4 : decode cX3_shareFreely 4 = .ok (.getfield 49, 3) := by decide +kernel
theorem dX3_shareFreely_7 : decode cX3_shareFreely 7 = .ok (.iconst 5, 1) := by decide +kernel
theorem dX3_shareFreely_8 : decode cX3_shareFreely 8 = .ok (.iaload, 1) := by decide +kernel
theorem dX3_shareFreely_9 : decode cX3_shareFreely 9 = .ok (.i2l, 1) := by decide +kernel
theorem dX3_shareFreely_10 : decode cX3_shareFreely 10 = .ok (.lstore_n 1, 1) := by decide +kernel
theorem dX3_shareFreely_11 : decode cX3_shareFreely 11 = .ok (.aload_n 0, 1) := by decide +kernel
theorem dX3_shareFreely_12 : decode cX3_shareFreely 12 = .ok (.getfield 19, 3) := by decide +kernel
theorem dX3_shareFreely_15 : decode cX3_shareFreely 15 = .ok (.getfield 52, 3) := by decide +kernel
theorem dX3_shareFreely_18 : decode cX3_shareFreely 18 = .ok (.i2l, 1) := by decide +kernel
theorem dX3_shareFreely_19 : decode cX3_shareFreely 19 = .ok (.aload_n 0, 1) := by decide +kernel
theorem dX3_shareFreely_20 : decode cX3_shareFreely 20 = .ok (.getfield 19, 3) := by decide +kernel
theorem dX3_shareFreely_23 : decode cX3_shareFreely 23 = .ok (.getfield 49, 3) := by decide +kernel
theorem dX3_shareFreely_26 : decode cX3_shareFreely 26 = .ok (.iconst 0, 1) := by decide +kernel
theorem dX3_shareFreely_27 : decode cX3_shareFreely 27 = .ok (.iaload, 1) := by decide +kernel
theorem dX3_shareFreely_28 : decode cX3_shareFreely 28 = .ok (.i2l, 1) := by decide +kernel
theorem dX3_shareFreely_29 : decode cX3_shareFreely 29 = .ok (.lmul, 1) := by decide +kernel
theorem dX3_shareFreely_30 : decode cX3_shareFreely 30 = .ok (.lstore_n 3, 1) := by decide +kernel
theorem dX3_shareFreely_31 : decode cX3_shareFreely 31 = .ok (.aload_n 0, 1) := by decide +kernel
theorem dX3_shareFreely_32 : decode cX3_shareFreely 32 = .ok (.getfield 19, 3) := by decide +kernel
theorem dX3_shareFreely_35 : decode cX3_shareFreely 35 = .ok (.getfield 49, 3) := by decide +kernel
theorem dX3_shareFreely_38 : decode cX3_shareFreely 38 = .ok (.iconst 5, 1) := by decide +kernel
theorem dX3_shareFreely_39 : decode cX3_shareFreely 39 = .ok (.iaload, 1) := by decide +kernel
theorem dX3_shareFreely_40 : decode cX3_shareFreely 40 = .ok (.istore 5, 2) := by decide +kernel
theorem dX3_shareFreely_42 : decode cX3_shareFreely 42 = .ok (.iconst 0, 1) := by decide +kernel
theorem dX3_shareFreely_43 : decode cX3_shareFreely 43 = .ok (.istore 6, 2) := by decide +kernel
theorem dX3_shareFreely_45 : decode cX3_shareFreely 45 = .ok (.iload 6, 2) := by decide +kernel
theorem dX3_shareFreely_47 : decode cX3_shareFreely 47 = .ok (.aload_n 0, 1) := by decide +kernel
theorem dX3_shareFreely_48 : decode cX3_shareFreely 48 = .ok (.getfield 19, 3) := by decide +kernel
theorem dX3_shareFreely_51 : decode cX3_shareFreely 51 = .ok (.getfield 41, 3) := by decide +kernel
theorem dX3_shareFreely_54 : decode cX3_shareFreely 54 = .ok (.if_icmp .ge 58, 3) := by decide +kernel
theorem dX3_shareFreely_57 : decode cX3_shareFreely 57 = .ok (.aload_n 0, 1) := by decide +kernel
theorem dX3_shareFreely_58 : decode cX3_shareFreely 58 = .ok (.getfield 19, 3) := by decide +kernel
theorem dX3_shareFreely_61 : decode cX3_shareFreely 61 = .ok (.iload 6, 2) := by decide +kernel
theorem dX3_shareFreely_63 : decode cX3_shareFreely 63 = .ok (.invokevirtual 55, 3) := by decide +kernel
theorem dX3_shareFreely_66 : decode cX3_shareFreely 66 = .ok (.i2l, 1) := by decide +kernel
theorem dX3_shareFreely_67 : decode cX3_shareFreely 67 = .ok (.lload_n 1, 1) := by decide +kernel
theorem dX3_shareFreely_68 : decode cX3_shareFreely 68 = .ok (.lmul, 1) := by decide +kernel
theorem dX3_shareFreely_69 : decode cX3_shareFreely 69 = .ok (.lstore 7, 2) := by decide +kernel
theorem dX3_shareFreely_71 : decode cX3_shareFreely 71 = .ok (.aload_n 0, 1) := by decide +kernel
theorem dX3_shareFreely_72 : decode cX3_shareFreely 72 = .ok (.getfield 9, 3) := by decide +kernel
theorem dX3_shareFreely_75 : decode cX3_shareFreely 75 = .ok (.iload 6, 2) := by decide +kernel
theorem dX3_shareFreely_77 : decode cX3_shareFreely 77 = .ok (.lload 7, 2) := by decide +kernel
theorem dX3_shareFreely_79 : decode cX3_shareFreely 79 = .ok (.lload_n 3, 1) := by decide +kernel
theorem dX3_shareFreely_80 : decode cX3_shareFreely 80 = .ok (.ldiv, 1) := by decide +kernel
theorem dX3_shareFreely_81 : decode cX3_shareFreely 81 = .ok (.l2i, 1) := by decide +kernel
theorem dX3_shareFreely_82 : decode cX3_shareFreely 82 = .ok (.iastore, 1) := by decide +kernel
theorem dX3_shareFreely_83 : decode cX3_shareFreely 83 = .ok (.aload_n 0, 1) := by decide +kernel
theorem dX3_shareFreely_84 : decode cX3_shareFreely 84 = .ok (.getfield 15, 3) := by decide +kernel
theorem dX3_shareFreely_87 : decode cX3_shareFreely 87 = .ok (.iload 6, 2) := by decide +kernel
theorem dX3_shareFreely_89 : decode cX3_shareFreely 89 = .ok (.lload 7, 2) := by decide +kernel
theorem dX3_shareFreely_91 : decode cX3_shareFreely 91 = .ok (.lload_n 3, 1) := by decide +kernel
theorem dX3_shareFreely_92 : decode cX3_shareFreely 92 = .ok (.lrem, 1) := by decide +kernel
theorem dX3_shareFreely_93 : decode cX3_shareFreely 93 = .ok (.lastore, 1) := by decide +kernel
theorem dX3_shareFreely_94 : decode cX3_shareFreely 94 = .ok (.iload 5, 2) := by decide +kernel
theorem dX3_shareFreely_96 : decode cX3_shareFreely 96 = .ok (.aload_n 0, 1) := by decide +kernel
theorem dX3_shareFreely_97 : decode cX3_shareFreely 97 = .ok (.getfield 9, 3) := by decide +kernel
theorem dX3_shareFreely_100 : decode cX3_shareFreely 100 = .ok (.iload 6, 2) := by decide +kernel
theorem dX3_shareFreely_102 : decode cX3_shareFreely 102 = .ok (.iaload, 1) := by decide +kernel
theorem dX3_shareFreely_103 : decode cX3_shareFreely 103 = .ok (.isub, 1) := by decide +kernel
theorem dX3_shareFreely_104 : decode cX3_shareFreely 104 = .ok (.istore 5, 2) := by decide +kernel
theorem dX3_shareFreely_106 : decode cX3_shareFreely 106 = .ok (.iinc 6 1, 3) := by decide +kernel
theorem dX3_shareFreely_109 : decode cX3_shareFreely 109 = .ok (.goto (-64), 3) := by decide +kernel
theorem dX3_shareFreely_112 : decode cX3_shareFreely 112 = .ok (.iload 5, 2) := by decide +kernel
theorem dX3_shareFreely_114 : decode cX3_shareFreely 114 = .ok (.ifCond .le 13, 3) := by decide +kernel
theorem dX3_shareFreely_117 : decode cX3_shareFreely 117 = .ok (.aload_n 0, 1) := by decide +kernel
theorem dX3_shareFreely_118 : decode cX3_shareFreely 118 = .ok (.invokevirtual 58, 3) := by decide +kernel
theorem dX3_shareFreely_121 : decode cX3_shareFreely 121 = .ok (.iinc 5 (-1), 3) := by decide +kernel
theorem dX3_shareFreely_124 : decode cX3_shareFreely 124 = .ok (.goto (-12), 3) := by decide +kernel
theorem dX3_shareFreely_127 : decode cX3_shareFreely 127 = .ok (.return_, 1) := by decide +kernel
theorem dX3_giveOne_0 : decode cX3_giveOne 0 = .ok (.iconst 0, 1) := by decide +kernel
theorem dX3_giveOne_1 : decode cX3_giveOne 1 = .ok (.istore_n 1, 1) := by decide +kernel
theorem dX3_giveOne_2 : decode cX3_giveOne 2 = .ok (.iconst 1, 1) := by decide +kernel
theorem dX3_giveOne_3 : decode cX3_giveOne 3 = .ok (.istore_n 2, 1) := by decide +kernel
theorem dX3_giveOne_4 : decode cX3_giveOne 4 = .ok (.iload_n 2, 1) := by decide +kernel
theorem dX3_giveOne_5 : decode cX3_giveOne 5 = .ok (.aload_n 0, 1) := by decide +kernel
theorem dX3_giveOne_6 : decode cX3_giveOne 6 = .ok (.getfield 19, 3) := by decide +kernel
theorem dX3_giveOne_9 : decode cX3_giveOne 9 = .ok (.getfield 41, 3) := by decide +kernel
theorem dX3_giveOne_12 : decode cX3_giveOne 12 = .ok (.if_icmp .ge 27, 3) := by decide +kernel
theorem dX3_giveOne_15 : decode cX3_giveOne 15 = .ok (.aload_n 0, 1) := by decide +kernel
theorem dX3_giveOne_16 : decode cX3_giveOne 16 = .ok (.getfield 15, 3) := by decide +kernel
theorem dX3_giveOne_19 : decode cX3_giveOne 19 = .ok (.iload_n 2, 1) := by decide +kernel
theorem dX3_giveOne_20 : decode cX3_giveOne 20 = .ok (.laload, 1) := by decide +kernel
theorem dX3_giveOne_21 : decode cX3_giveOne 21 = .ok (.aload_n 0, 1) := by decide +kernel
theorem dX3_giveOne_22 : decode cX3_giveOne 22 = .ok (.getfield 15, 3) := by decide +kernel
theorem dX3_giveOne_25 : decode cX3_giveOne 25 = .ok (.iload_n 1, 1) := by decide +kernel
theorem dX3_giveOne_26 : decode cX3_giveOne 26 = .ok (.laload, 1) := by decide +kernel
theorem dX3_giveOne_27 : decode cX3_giveOne 27 = .ok (.lcmp, 1) := by decide +kernel
theorem dX3_giveOne_28 : decode cX3_giveOne 28 = .ok (.ifCond .le 5, 3) := by decide +kernel
theorem dX3_giveOne_31 : decode cX3_giveOne 31 = .ok (.iload_n 2, 1) := by decide +kernel
theorem dX3_giveOne_32 : decode cX3_giveOne 32 = .ok (.istore_n 1, 1) := by decide +kernel
theorem dX3_giveOne_33 : decode cX3_giveOne 33 = .ok (.iinc 2 1, 3) := by decide +kernel
theorem dX3_giveOne_36 : decode cX3_giveOne 36 = .ok (.goto (-32), 3) := by decide +kernel
theorem dX3_giveOne_39 : decode cX3_giveOne 39 = .ok (.aload_n 0, 1) := by decide +kernel
theorem dX3_giveOne_40 : decode cX3_giveOne 40 = .ok (.getfield 9, 3) := by decide +kernel
theorem dX3_giveOne_43 : decode cX3_giveOne 43 = .ok (.iload_n 1, 1) := by decide +kernel
theorem dX3_giveOne_44 : decode cX3_giveOne 44 = .ok (.dup2, 1) := by decide +kernel
theorem dX3_giveOne_45 : decode cX3_giveOne 45 = .ok (.iaload, 1) := by decide +kernel
theorem dX3_giveOne_46 : decode cX3_giveOne 46 = .ok (.iconst 1, 1) := by decide +kernel
theorem dX3_giveOne_47 : decode cX3_giveOne 47 = .ok (.iadd, 1) := by decide +kernel
theorem dX3_giveOne_48 : decode cX3_giveOne 48 = .ok (.iastore, 1) := by decide +kernel
theorem dX3_giveOne_49 : decode cX3_giveOne 49 = .ok (.aload_n 0, 1) := by decide +kernel
theorem dX3_giveOne_50 : decode cX3_giveOne 50 = .ok (.getfield 15, 3) := by decide +kernel
theorem dX3_giveOne_53 : decode cX3_giveOne 53 = .ok (.iload_n 1, 1) := by decide +kernel
theorem dX3_giveOne_54 : decode cX3_giveOne 54 = .ok (.ldc2_w 61, 3) := by decide +kernel
theorem dX3_giveOne_57 : decode cX3_giveOne 57 = .ok (.lastore, 1) := by decide +kernel
theorem dX3_giveOne_58 : decode cX3_giveOne 58 = .ok (.return_, 1) := by decide +kernel
set_option maxRecDepth 20000 in
theorem ggX3_countBeyondLimits_X2_lengthOf : GoodIn wsX3_countBeyondLimits wsX2_lengthOf := goodIn_r _ [8, 9, 10, 11, 12, 13, 7, 14, 15, 16, 29, 30, 31, 32, 33, 34] (by decide +kernel) (by decide +kernel)
set_option maxRecDepth 20000 in
theorem gX3_countBeyondLimits_X2_lengthOf : GoodIn wsX3_countBeyondLimits (wsV RX3 55 RX2 yX2_lengthOf wsX2_lengthOf) := goodIn_app (goodIn_of _ (by decide +kernel)) ggX3_countBeyondLimits_X2_lengthOf
set_option maxRecDepth 20000 in
theorem ggX3_countBeyondLimits_X2_leastBudget : GoodIn wsX3_countBeyondLimits wsX2_leastBudget := goodIn_r _ [20, 10, 29, 30, 31, 32, 33, 34] (by decide +kernel) (by decide +kernel)
set_option maxRecDepth 20000 in
theorem gX3_countBeyondLimits_X2_leastBudget : GoodIn wsX3_countBeyondLimits (wsV RX3 63 RX2 yX2_leastBudget wsX2_leastBudget) := goodIn_app (goodIn_of _ (by decide +kernel)) ggX3_countBeyondLimits_X2_leastBudget
set_option maxRecDepth 20000 in
theorem ggX3_countBeyondLimits_X2_mostBudget : GoodIn wsX3_countBeyondLimits wsX2_mostBudget := goodIn_r _ [24, 10, 29, 30, 31, 32, 33, 34] (by decide +kernel) (by decide +kernel)
set_option maxRecDepth 20000 in
theorem gX3_countBeyondLimits_X2_mostBudget : GoodIn wsX3_countBeyondLimits (wsV RX3 66 RX2 yX2_mostBudget wsX2_mostBudget) := goodIn_app (goodIn_of _ (by decide +kernel)) ggX3_countBeyondLimits_X2_mostBudget
theorem dX3_countBeyondLimits_0 : decode cX3_countBeyondLimits 0 = .ok (.iconst 0, 1) := by decide +kernel
theorem dX3_countBeyondLimits_1 : decode cX3_countBeyondLimits 1 = .ok (.istore_n 1, 1) := by decide +kernel
theorem dX3_countBeyondLimits_2 : decode cX3_countBeyondLimits 2 = .ok (.iconst 0, 1) := by decide +kernel
theorem dX3_countBeyondLimits_3 : decode cX3_countBeyondLimits 3 = .ok (.istore_n 2, 1) := by decide +kernel
theorem dX3_countBeyondLimits_4 : decode cX3_countBeyondLimits 4 = .ok (.iload_n 2, 1) := by decide +kernel
theorem dX3_countBeyondLimits_5 : decode cX3_countBeyondLimits 5 = .ok (.aload_n 0, 1) := by decide +kernel
theorem dX3_countBeyondLimits_6 : decode cX3_countBeyondLimits 6 = .ok (.getfield 19, 3) := by decide +kernel
theorem dX3_countBeyondLimits_9 : decode cX3_countBeyondLimits 9 = .ok (.getfield 41, 3) := by decide +kernel
theorem dX3_countBeyondLimits_12 : decode cX3_countBeyondLimits 12 = .ok (.if_icmp .ge 67, 3) := by decide +kernel
theorem dX3_countBeyondLimits_15 : decode cX3_countBeyondLimits 15 = .ok (.aload_n 0, 1) := by decide +kernel
theorem dX3_countBeyondLimits_16 : decode cX3_countBeyondLimits 16 = .ok (.getfield 19, 3) := by decide +kernel
theorem dX3_countBeyondLimits_19 : decode cX3_countBeyondLimits 19 = .ok (.iload_n 2, 1) := by decide +kernel
theorem dX3_countBeyondLimits_20 : decode cX3_countBeyondLimits 20 = .ok (.invokevirtual 55, 3) := by decide +kernel
theorem dX3_countBeyondLimits_23 : decode cX3_countBeyondLimits 23 = .ok (.istore_n 3, 1) := by decide +kernel
theorem dX3_countBeyondLimits_24 : decode cX3_countBeyondLimits 24 = .ok (.aload_n 0, 1) := by decide +kernel
theorem dX3_countBeyondLimits_25 : decode cX3_countBeyondLimits 25 = .ok (.getfield 9, 3) := by decide +kernel
theorem dX3_countBeyondLimits_28 : decode cX3_countBeyondLimits 28 = .ok (.iload_n 2, 1) := by decide +kernel
theorem dX3_countBeyondLimits_29 : decode cX3_countBeyondLimits 29 = .ok (.iaload, 1) := by decide +kernel
theorem dX3_countBeyondLimits_30 : decode cX3_countBeyondLimits 30 = .ok (.aload_n 0, 1) := by decide +kernel
theorem dX3_countBeyondLimits_31 : decode cX3_countBeyondLimits 31 = .ok (.getfield 19, 3) := by decide +kernel
theorem dX3_countBeyondLimits_34 : decode cX3_countBeyondLimits 34 = .ok (.iload_n 3, 1) := by decide +kernel
theorem dX3_countBeyondLimits_35 : decode cX3_countBeyondLimits 35 = .ok (.invokevirtual 63, 3) := by decide +kernel
theorem dX3_countBeyondLimits_38 : decode cX3_countBeyondLimits 38 = .ok (.if_icmp .ge 7, 3) := by decide +kernel
theorem dX3_countBeyondLimits_41 : decode cX3_countBeyondLimits 41 = .ok (.iconst 1, 1) := by decide +kernel
theorem dX3_countBeyondLimits_42 : decode cX3_countBeyondLimits 42 = .ok (.goto 4, 3) := by decide +kernel
theorem dX3_countBeyondLimits_45 : decode cX3_countBeyondLimits 45 = .ok (.iconst 0, 1) := by decide +kernel
theorem dX3_countBeyondLimits_46 : decode cX3_countBeyondLimits 46 = .ok (.istore 4, 2) := by decide +kernel
theorem dX3_countBeyondLimits_48 : decode cX3_countBeyondLimits 48 = .ok (.iload 4, 2) := by decide +kernel
theorem dX3_countBeyondLimits_50 : decode cX3_countBeyondLimits 50 = .ok (.ifCond .ne 20, 3) := by decide +kernel
theorem dX3_countBeyondLimits_53 : decode cX3_countBeyondLimits 53 = .ok (.aload_n 0, 1) := by decide +kernel
theorem dX3_countBeyondLimits_54 : decode cX3_countBeyondLimits 54 = .ok (.getfield 9, 3) := by decide +kernel
theorem dX3_countBeyondLimits_57 : decode cX3_countBeyondLimits 57 = .ok (.iload_n 2, 1) := by decide +kernel
theorem dX3_countBeyondLimits_58 : decode cX3_countBeyondLimits 58 = .ok (.iaload, 1) := by decide +kernel
theorem dX3_countBeyondLimits_59 : decode cX3_countBeyondLimits 59 = .ok (.aload_n 0, 1) := by decide +kernel
theorem dX3_countBeyondLimits_60 : decode cX3_countBeyondLimits 60 = .ok (.getfield 19, 3) := by decide +kernel
theorem dX3_countBeyondLimits_63 : decode cX3_countBeyondLimits 63 = .ok (.iload_n 3, 1) := by decide +kernel
theorem dX3_countBeyondLimits_64 : decode cX3_countBeyondLimits 64 = .ok (.invokevirtual 66, 3) := by decide +kernel
theorem dX3_countBeyondLimits_67 : decode cX3_countBeyondLimits 67 = .ok (.if_icmp .le 6, 3) := by decide +kernel
theorem dX3_countBeyondLimits_70 : decode cX3_countBeyondLimits 70 = .ok (.iinc 1 1, 3) := by decide +kernel
theorem dX3_countBeyondLimits_73 : decode cX3_countBeyondLimits 73 = .ok (.iinc 2 1, 3) := by decide +kernel
theorem dX3_countBeyondLimits_76 : decode cX3_countBeyondLimits 76 = .ok (.goto (-72), 3) := by decide +kernel
theorem dX3_countBeyondLimits_79 : decode cX3_countBeyondLimits 79 = .ok (.iload_n 1, 1) := by decide +kernel
theorem dX3_countBeyondLimits_80 : decode cX3_countBeyondLimits 80 = .ok (.ireturn, 1) := by decide +kernel
set_option maxRecDepth 20000 in
theorem ggX3_sumFades_X3_fadeAt : GoodIn wsX3_sumFades wsX3_fadeAt := goodIn_r _ [7, 1, 2, 8, 9, 10, 11, 12, 13, 14, 15, 16, 17, 18, 19, 20, 21, 22, 23, 24] (by decide +kernel) (by decide +kernel)
set_option maxRecDepth 20000 in
theorem gX3_sumFades_X3_fadeAt : GoodIn wsX3_sumFades (wsV RX3 69 RX3 yX3_fadeAt wsX3_fadeAt) := goodIn_app (goodIn_of _ (by decide +kernel)) ggX3_sumFades_X3_fadeAt
theorem dX3_sumFades_0 : decode cX3_sumFades 0 = .ok (.iconst 0, 1) := by decide +kernel
theorem dX3_sumFades_1 : decode cX3_sumFades 1 = .ok (.istore_n 1, 1) := by decide +kernel
theorem dX3_sumFades_2 : decode cX3_sumFades 2 = .ok (.iconst 0, 1) := by decide +kernel
theorem dX3_sumFades_3 : decode cX3_sumFades 3 = .ok (.istore_n 2, 1) := by decide +kernel
theorem dX3_sumFades_4 : decode cX3_sumFades 4 = .ok (.iload_n 2, 1) := by decide +kernel
theorem dX3_sumFades_5 : decode cX3_sumFades 5 = .ok (.aload_n 0, 1) := by decide +kernel
theorem dX3_sumFades_6 : decode cX3_sumFades 6 = .ok (.getfield 19, 3) := by decide +kernel
theorem dX3_sumFades_9 : decode cX3_sumFades 9 = .ok (.getfield 41, 3) := by decide +kernel
theorem dX3_sumFades_12 : decode cX3_sumFades 12 = .ok (.if_icmp .ge 17, 3) := by decide +kernel
theorem dX3_sumFades_15 : decode cX3_sumFades 15 = .ok (.iload_n 1, 1) := by decide +kernel
theorem dX3_sumFades_16 : decode cX3_sumFades 16 = .ok (.aload_n 0, 1) := by decide +kernel
theorem dX3_sumFades_17 : decode cX3_sumFades 17 = .ok (.iload_n 2, 1) := by decide +kernel
theorem dX3_sumFades_18 : decode cX3_sumFades 18 = .ok (.invokevirtual 69, 3) := by decide +kernel
theorem dX3_sumFades_21 : decode cX3_sumFades 21 = .ok (.iadd, 1) := by decide +kernel
theorem dX3_sumFades_22 : decode cX3_sumFades 22 = .ok (.istore_n 1, 1) := by decide +kernel
theorem dX3_sumFades_23 : decode cX3_sumFades 23 = .ok (.iinc 2 1, 3) := by decide +kernel
theorem dX3_sumFades_26 : decode cX3_sumFades 26 = .ok (.goto (-22), 3) := by decide +kernel
theorem dX3_sumFades_29 : decode cX3_sumFades 29 = .ok (.iload_n 1, 1) := by decide +kernel
theorem dX3_sumFades_30 : decode cX3_sumFades 30 = .ok (.ireturn, 1) := by decide +kernel
theorem dX3_fadeAt_0 : decode cX3_fadeAt 0 = .ok (.iload_n 1, 1) := by decide +kernel
theorem dX3_fadeAt_1 : decode cX3_fadeAt 1 = .ok (.iconst 1, 1) := by decide +kernel
theorem dX3_fadeAt_2 : decode cX3_fadeAt 2 = .ok (.iadd, 1) := by decide +kernel
theorem dX3_fadeAt_3 : decode cX3_fadeAt 3 = .ok (.aload_n 0, 1) := by decide +kernel
theorem dX3_fadeAt_4 : decode cX3_fadeAt 4 = .ok (.getfield 19, 3) := by decide +kernel
theorem dX3_fadeAt_7 : decode cX3_fadeAt 7 = .ok (.getfield 41, 3) := by decide +kernel
theorem dX3_fadeAt_10 : decode cX3_fadeAt 10 = .ok (.if_icmp .ge 9, 3) := by decide +kernel
theorem dX3_fadeAt_13 : decode cX3_fadeAt 13 = .ok (.iload_n 1, 1) := by decide +kernel
theorem dX3_fadeAt_14 : decode cX3_fadeAt 14 = .ok (.iconst 1, 1) := by decide +kernel
theorem dX3_fadeAt_15 : decode cX3_fadeAt 15 = .ok (.iadd, 1) := by decide +kernel
theorem dX3_fadeAt_16 : decode cX3_fadeAt 16 = .ok (.goto 4, 3) := by decide +kernel
theorem dX3_fadeAt_19 : decode cX3_fadeAt 19 = .ok (.iconst 0, 1) := by decide +kernel
theorem dX3_fadeAt_20 : decode cX3_fadeAt 20 = .ok (.istore_n 2, 1) := by decide +kernel
theorem dX3_fadeAt_21 : decode cX3_fadeAt 21 = .ok (.aload_n 0, 1) := by decide +kernel
theorem dX3_fadeAt_22 : decode cX3_fadeAt 22 = .ok (.getfield 9, 3) := by decide +kernel
theorem dX3_fadeAt_25 : decode cX3_fadeAt 25 = .ok (.aload_n 0, 1) := by decide +kernel
theorem dX3_fadeAt_26 : decode cX3_fadeAt 26 = .ok (.getfield 19, 3) := by decide +kernel
theorem dX3_fadeAt_29 : decode cX3_fadeAt 29 = .ok (.getfield 72, 3) := by decide +kernel
theorem dX3_fadeAt_32 : decode cX3_fadeAt 32 = .ok (.iload_n 1, 1) := by decide +kernel
theorem dX3_fadeAt_33 : decode cX3_fadeAt 33 = .ok (.iaload, 1) := by decide +kernel
theorem dX3_fadeAt_34 : decode cX3_fadeAt 34 = .ok (.iaload, 1) := by decide +kernel
theorem dX3_fadeAt_35 : decode cX3_fadeAt 35 = .ok (.iconst 4, 1) := by decide +kernel
theorem dX3_fadeAt_36 : decode cX3_fadeAt 36 = .ok (.idiv, 1) := by decide +kernel
theorem dX3_fadeAt_37 : decode cX3_fadeAt 37 = .ok (.istore_n 3, 1) := by decide +kernel
theorem dX3_fadeAt_38 : decode cX3_fadeAt 38 = .ok (.aload_n 0, 1) := by decide +kernel
theorem dX3_fadeAt_39 : decode cX3_fadeAt 39 = .ok (.getfield 9, 3) := by decide +kernel
theorem dX3_fadeAt_42 : decode cX3_fadeAt 42 = .ok (.aload_n 0, 1) := by decide +kernel
theorem dX3_fadeAt_43 : decode cX3_fadeAt 43 = .ok (.getfield 19, 3) := by decide +kernel
theorem dX3_fadeAt_46 : decode cX3_fadeAt 46 = .ok (.getfield 72, 3) := by decide +kernel
theorem dX3_fadeAt_49 : decode cX3_fadeAt 49 = .ok (.iload_n 2, 1) := by decide +kernel
theorem dX3_fadeAt_50 : decode cX3_fadeAt 50 = .ok (.iaload, 1) := by decide +kernel
theorem dX3_fadeAt_51 : decode cX3_fadeAt 51 = .ok (.iaload, 1) := by decide +kernel
theorem dX3_fadeAt_52 : decode cX3_fadeAt 52 = .ok (.iconst 4, 1) := by decide +kernel
theorem dX3_fadeAt_53 : decode cX3_fadeAt 53 = .ok (.idiv, 1) := by decide +kernel
theorem dX3_fadeAt_54 : decode cX3_fadeAt 54 = .ok (.istore 4, 2) := by decide +kernel
theorem dX3_fadeAt_56 : decode cX3_fadeAt 56 = .ok (.aload_n 0, 1) := by decide +kernel
theorem dX3_fadeAt_57 : decode cX3_fadeAt 57 = .ok (.getfield 19, 3) := by decide +kernel
theorem dX3_fadeAt_60 : decode cX3_fadeAt 60 = .ok (.getfield 49, 3) := by decide +kernel
theorem dX3_fadeAt_63 : decode cX3_fadeAt 63 = .ok (.bipush 8, 2) := by decide +kernel
theorem dX3_fadeAt_65 : decode cX3_fadeAt 65 = .ok (.iaload, 1) := by decide +kernel
theorem dX3_fadeAt_66 : decode cX3_fadeAt 66 = .ok (.iload_n 3, 1) := by decide +kernel
theorem dX3_fadeAt_67 : decode cX3_fadeAt 67 = .ok (.iload 4, 2) := by decide +kernel
theorem dX3_fadeAt_69 : decode cX3_fadeAt 69 = .ok (.invokestatic 75, 3) := by decide +kernel
theorem dX3_fadeAt_72 : decode cX3_fadeAt 72 = .ok (.invokestatic 75, 3) := by decide +kernel
theorem dX3_fadeAt_75 : decode cX3_fadeAt 75 = .ok (.ireturn, 1) := by decide +kernel
set_option maxRecDepth 20000 in
theorem ggX3_beginOf_X2_placeOf : GoodIn wsX3_beginOf wsX2_placeOf := goodIn_r _ [8, 9, 10, 15, 16, 17, 18, 19, 20] (by decide +kernel) (by decide +kernel)
set_option maxRecDepth 20000 in
theorem gX3_beginOf_X2_placeOf : GoodIn wsX3_beginOf (wsV RX3 81 RX2 yX2_placeOf wsX2_placeOf) := goodIn_app (goodIn_of _ (by decide +kernel)) ggX3_beginOf_X2_placeOf
theorem dX3_beginOf_0 : decode cX3_beginOf 0 = .ok (.iconst 0, 1) := by decide +kernel
theorem dX3_beginOf_1 : decode cX3_beginOf 1 = .ok (.istore_n 2, 1) := by decide +kernel
theorem dX3_beginOf_2 : decode cX3_beginOf 2 = .ok (.aload_n 0, 1) := by decide +kernel
theorem dX3_beginOf_3 : decode cX3_beginOf 3 = .ok (.getfield 19, 3) := by decide +kernel
theorem dX3_beginOf_6 : decode cX3_beginOf 6 = .ok (.iload_n 1, 1) := by decide +kernel
theorem dX3_beginOf_7 : decode cX3_beginOf 7 = .ok (.invokevirtual 81, 3) := by decide +kernel
theorem dX3_beginOf_10 : decode cX3_beginOf 10 = .ok (.istore_n 3, 1) := by decide +kernel
theorem dX3_beginOf_11 : decode cX3_beginOf 11 = .ok (.iconst 0, 1) := by decide +kernel
theorem dX3_beginOf_12 : decode cX3_beginOf 12 = .ok (.istore 4, 2) := by decide +kernel
theorem dX3_beginOf_14 : decode cX3_beginOf 14 = .ok (.iload 4, 2) := by decide +kernel
theorem dX3_beginOf_16 : decode cX3_beginOf 16 = .ok (.iload_n 3, 1) := by decide +kernel
theorem dX3_beginOf_17 : decode cX3_beginOf 17 = .ok (.if_icmp .ge 27, 3) := by decide +kernel
theorem dX3_beginOf_20 : decode cX3_beginOf 20 = .ok (.iload_n 2, 1) := by decide +kernel
theorem dX3_beginOf_21 : decode cX3_beginOf 21 = .ok (.aload_n 0, 1) := by decide +kernel
theorem dX3_beginOf_22 : decode cX3_beginOf 22 = .ok (.getfield 9, 3) := by decide +kernel
theorem dX3_beginOf_25 : decode cX3_beginOf 25 = .ok (.aload_n 0, 1) := by decide +kernel
theorem dX3_beginOf_26 : decode cX3_beginOf 26 = .ok (.getfield 19, 3) := by decide +kernel
theorem dX3_beginOf_29 : decode cX3_beginOf 29 = .ok (.getfield 72, 3) := by decide +kernel
theorem dX3_beginOf_32 : decode cX3_beginOf 32 = .ok (.iload 4, 2) := by decide +kernel
theorem dX3_beginOf_34 : decode cX3_beginOf 34 = .ok (.iaload, 1) := by decide +kernel
theorem dX3_beginOf_35 : decode cX3_beginOf 35 = .ok (.iaload, 1) := by decide +kernel
theorem dX3_beginOf_36 : decode cX3_beginOf 36 = .ok (.iadd, 1) := by decide +kernel
theorem dX3_beginOf_37 : decode cX3_beginOf 37 = .ok (.istore_n 2, 1) := by decide +kernel
theorem dX3_beginOf_38 : decode cX3_beginOf 38 = .ok (.iinc 4 1, 3) := by decide +kernel
theorem dX3_beginOf_41 : decode cX3_beginOf 41 = .ok (.goto (-27), 3) := by decide +kernel
theorem dX3_beginOf_44 : decode cX3_beginOf 44 = .ok (.iload_n 2, 1) := by decide +kernel
theorem dX3_beginOf_45 : decode cX3_beginOf 45 = .ok (.ireturn, 1) := by decide +kernel
set_option maxRecDepth 20000 in
theorem ggX3_originOf_X3_loopSample : GoodIn wsX3_originOf wsX3_loopSample := goodIn_r _ [10, 1, 5, 11, 12, 13, 14, 15, 16, 17, 18, 19, 20, 21, 22, 23, 33, 34, 35, 36, 37, 38, 39, 40, 41, 42] (by decide +kernel) (by decide +kernel)
set_option maxRecDepth 20000 in
theorem gX3_originOf_X3_loopSample : GoodIn wsX3_originOf (wsV RX3 87 RX3 yX3_loopSample wsX3_loopSample) := goodIn_app (goodIn_of _ (by decide +kernel)) ggX3_originOf_X3_loopSample
set_option maxRecDepth 20000 in
theorem ggX3_originOf_X3_fadeAt : GoodIn wsX3_originOf wsX3_fadeAt := goodIn_r _ [27, 1, 28, 5, 2, 4, 29, 30, 31, 32, 33, 34, 35, 36, 37, 38, 39, 40, 41, 42] (by decide +kernel) (by decide +kernel)
set_option maxRecDepth 20000 in
theorem gX3_originOf_X3_fadeAt : GoodIn wsX3_originOf (wsV RX3 69 RX3 yX3_fadeAt wsX3_fadeAt) := goodIn_app (goodIn_of _ (by decide +kernel)) ggX3_originOf_X3_fadeAt
theorem dX3_originOf_0 : decode cX3_originOf 0 = .ok (.aload_n 0, 1) := by decide +kernel
theorem dX3_originOf_1 : decode cX3_originOf 1 = .ok (.getfield 19, 3) := by decide +kernel
theorem dX3_originOf_4 : decode cX3_originOf 4 = .ok (.getfield 72, 3) := by decide +kernel
theorem dX3_originOf_7 : decode cX3_originOf 7 = .ok (.iload_n 1, 1) := by decide +kernel
theorem dX3_originOf_8 : decode cX3_originOf 8 = .ok (.iaload, 1) := by decide +kernel
theorem dX3_originOf_9 : decode cX3_originOf 9 = .ok (.istore 4, 2) := by decide +kernel
theorem dX3_originOf_11 : decode cX3_originOf 11 = .ok (.iload_n 3, 1) := by decide +kernel
theorem dX3_originOf_12 : decode cX3_originOf 12 = .ok (.ifCond .ne 6, 3) := by decide +kernel
theorem dX3_originOf_15 : decode cX3_originOf 15 = .ok (.iload 4, 2) := by decide +kernel
theorem dX3_originOf_17 : decode cX3_originOf 17 = .ok (.ireturn, 1) := by decide +kernel
theorem dX3_originOf_18 : decode cX3_originOf 18 = .ok (.iload_n 3, 1) := by decide +kernel
theorem dX3_originOf_19 : decode cX3_originOf 19 = .ok (.iconst 1, 1) := by decide +kernel
theorem dX3_originOf_20 : decode cX3_originOf 20 = .ok (.if_icmp .ne 32, 3) := by decide +kernel
theorem dX3_originOf_23 : decode cX3_originOf 23 = .ok (.aload_n 0, 1) := by decide +kernel
theorem dX3_originOf_24 : decode cX3_originOf 24 = .ok (.getfield 19, 3) := by decide +kernel
theorem dX3_originOf_27 : decode cX3_originOf 27 = .ok (.getfield 84, 3) := by decide +kernel
theorem dX3_originOf_30 : decode cX3_originOf 30 = .ok (.iload 4, 2) := by decide +kernel
theorem dX3_originOf_32 : decode cX3_originOf 32 = .ok (.iaload, 1) := by decide +kernel
theorem dX3_originOf_33 : decode cX3_originOf 33 = .ok (.aload_n 0, 1) := by decide +kernel
theorem dX3_originOf_34 : decode cX3_originOf 34 = .ok (.getfield 19, 3) := by decide +kernel
theorem dX3_originOf_37 : decode cX3_originOf 37 = .ok (.getfield 49, 3) := by decide +kernel
theorem dX3_originOf_40 : decode cX3_originOf 40 = .ok (.iconst 0, 1) := by decide +kernel
theorem dX3_originOf_41 : decode cX3_originOf 41 = .ok (.iaload, 1) := by decide +kernel
theorem dX3_originOf_42 : decode cX3_originOf 42 = .ok (.imul, 1) := by decide +kernel
theorem dX3_originOf_43 : decode cX3_originOf 43 = .ok (.aload_n 0, 1) := by decide +kernel
theorem dX3_originOf_44 : decode cX3_originOf 44 = .ok (.iload 4, 2) := by decide +kernel
theorem dX3_originOf_46 : decode cX3_originOf 46 = .ok (.iload_n 2, 1) := by decide +kernel
theorem dX3_originOf_47 : decode cX3_originOf 47 = .ok (.invokevirtual 87, 3) := by decide +kernel
theorem dX3_originOf_50 : decode cX3_originOf 50 = .ok (.iadd, 1) := by decide +kernel
theorem dX3_originOf_51 : decode cX3_originOf 51 = .ok (.ireturn, 1) := by decide +kernel
theorem dX3_originOf_52 : decode cX3_originOf 52 = .ok (.iload_n 2, 1) := by decide +kernel
theorem dX3_originOf_53 : decode cX3_originOf 53 = .ok (.aload_n 0, 1) := by decide +kernel
theorem dX3_originOf_54 : decode cX3_originOf 54 = .ok (.getfield 9, 3) := by decide +kernel
theorem dX3_originOf_57 : decode cX3_originOf 57 = .ok (.iload 4, 2) := by decide +kernel
theorem dX3_originOf_59 : decode cX3_originOf 59 = .ok (.iaload, 1) := by decide +kernel
theorem dX3_originOf_60 : decode cX3_originOf 60 = .ok (.aload_n 0, 1) := by decide +kernel
theorem dX3_originOf_61 : decode cX3_originOf 61 = .ok (.iload_n 1, 1) := by decide +kernel
theorem dX3_originOf_62 : decode cX3_originOf 62 = .ok (.invokevirtual 69, 3) := by decide +kernel
theorem dX3_originOf_65 : decode cX3_originOf 65 = .ok (.isub, 1) := by decide +kernel
theorem dX3_originOf_66 : decode cX3_originOf 66 = .ok (.if_icmp .lt 7, 3) := by decide +kernel
theorem dX3_originOf_69 : decode cX3_originOf 69 = .ok (.iconst 1, 1) := by decide +kernel
theorem dX3_originOf_70 : decode cX3_originOf 70 = .ok (.goto 4, 3) := by decide +kernel
theorem dX3_originOf_73 : decode cX3_originOf 73 = .ok (.iconst 0, 1) := by decide +kernel
theorem dX3_originOf_74 : decode cX3_originOf 74 = .ok (.ireturn, 1) := by decide +kernel
set_option maxRecDepth 20000 in
theorem ggX3_loopSample_X2_lengthOf : GoodIn wsX3_loopSample wsX2_lengthOf := goodIn_r _ [7, 8, 9, 10, 11, 12, 6, 13, 14, 15, 20, 21, 22, 23, 24, 25] (by decide +kernel) (by decide +kernel)
set_option maxRecDepth 20000 in
theorem gX3_loopSample_X2_lengthOf : GoodIn wsX3_loopSample (wsV RX3 55 RX2 yX2_lengthOf wsX2_lengthOf) := goodIn_app (goodIn_of _ (by decide +kernel)) ggX3_loopSample_X2_lengthOf
theorem dX3_loopSample_0 : decode cX3_loopSample 0 = .ok (.iload_n 2, 1) := by decide +kernel
theorem dX3_loopSample_1 : decode cX3_loopSample 1 = .ok (.i2l, 1) := by decide +kernel
theorem dX3_loopSample_2 : decode cX3_loopSample 2 = .ok (.aload_n 0, 1) := by decide +kernel
theorem dX3_loopSample_3 : decode cX3_loopSample 3 = .ok (.getfield 19, 3) := by decide +kernel
theorem dX3_loopSample_6 : decode cX3_loopSample 6 = .ok (.iload_n 1, 1) := by decide +kernel
theorem dX3_loopSample_7 : decode cX3_loopSample 7 = .ok (.invokevirtual 55, 3) := by decide +kernel
theorem dX3_loopSample_10 : decode cX3_loopSample 10 = .ok (.i2l, 1) := by decide +kernel
theorem dX3_loopSample_11 : decode cX3_loopSample 11 = .ok (.lmul, 1) := by decide +kernel
theorem dX3_loopSample_12 : decode cX3_loopSample 12 = .ok (.lstore_n 3, 1) := by decide +kernel
theorem dX3_loopSample_13 : decode cX3_loopSample 13 = .ok (.aload_n 0, 1) := by decide +kernel
theorem dX3_loopSample_14 : decode cX3_loopSample 14 = .ok (.getfield 9, 3) := by decide +kernel
theorem dX3_loopSample_17 : decode cX3_loopSample 17 = .ok (.iload_n 1, 1) := by decide +kernel
theorem dX3_loopSample_18 : decode cX3_loopSample 18 = .ok (.iaload, 1) := by decide +kernel
theorem dX3_loopSample_19 : decode cX3_loopSample 19 = .ok (.ifCond .le 16, 3) := by decide +kernel
theorem dX3_loopSample_22 : decode cX3_loopSample 22 = .ok (.lload_n 3, 1) := by decide +kernel
theorem dX3_loopSample_23 : decode cX3_loopSample 23 = .ok (.aload_n 0, 1) := by decide +kernel
theorem dX3_loopSample_24 : decode cX3_loopSample 24 = .ok (.getfield 9, 3) := by decide +kernel
theorem dX3_loopSample_27 : decode cX3_loopSample 27 = .ok (.iload_n 1, 1) := by decide +kernel
theorem dX3_loopSample_28 : decode cX3_loopSample 28 = .ok (.iaload, 1) := by decide +kernel
theorem dX3_loopSample_29 : decode cX3_loopSample 29 = .ok (.i2l, 1) := by decide +kernel
theorem dX3_loopSample_30 : decode cX3_loopSample 30 = .ok (.ldiv, 1) := by decide +kernel
theorem dX3_loopSample_31 : decode cX3_loopSample 31 = .ok (.l2i, 1) := by decide +kernel
theorem dX3_loopSample_32 : decode cX3_loopSample 32 = .ok (.goto 4, 3) := by decide +kernel
theorem dX3_loopSample_35 : decode cX3_loopSample 35 = .ok (.iconst 0, 1) := by decide +kernel
theorem dX3_loopSample_36 : decode cX3_loopSample 36 = .ok (.ireturn, 1) := by decide +kernel
end
section
set_option maxRecDepth 20000 in
theorem ggX4_init_X2_init : GoodIn wsX4_init wsX2_init := goodIn_r _ [26, 27, 2, 3, 28, 29, 23, 30, 31, 32, 33, 34, 35, 36, 37, 38, 39, 65, 66, 67, 68, 69, 70] (by decide +kernel) (by decide +kernel)
set_option maxRecDepth 20000 in
theorem gX4_init_X2_init_n9 : GoodIn wsX4_init (wsX2_init) := ggX4_init_X2_init
set_option maxRecDepth 20000 in
theorem ggX4_init_X0_init : GoodIn wsX4_init wsX0_init := goodIn_r _ [42, 43, 2, 3, 23, 44, 45, 46, 47, 48, 49, 78, 79, 80, 81, 82, 83, 84, 85] (by decide +kernel) (by decide +kernel)
set_option maxRecDepth 20000 in
theorem gX4_init_X0_init : GoodIn wsX4_init (wsX0_init) := ggX4_init_X0_init
set_option maxRecDepth 20000 in
theorem ggX4_init_X3_init : GoodIn wsX4_init wsX3_init := goodIn_r _ [52, 53, 2, 3, 23, 54, 55, 56, 57, 58, 86, 87, 88, 89] (by decide +kernel) (by decide +kernel)
set_option maxRecDepth 20000 in
theorem gX4_init_X3_init : GoodIn wsX4_init (wsX3_init) := ggX4_init_X3_init
set_option maxRecDepth 20000 in
theorem ggX4_init_X1_init : GoodIn wsX4_init wsX1_init := goodIn_r _ [61, 62, 2, 3, 63, 64, 5, 6, 25, 26, 27, 28, 29, 23, 30, 31, 32, 33, 34, 35, 36, 37, 38, 39, 90, 91, 92, 65, 66, 67, 68, 69, 70] (by decide +kernel) (by decide +kernel)
set_option maxRecDepth 20000 in
theorem gX4_init_X1_init : GoodIn wsX4_init (wsX1_init) := ggX4_init_X1_init
theorem dX4_init_0 : decode cX4_init 0 = .ok (.aload_n 0, 1) := by decide +kernel
theorem dX4_init_1 : decode cX4_init 1 = .ok (.invokespecial 1, 3) := by decide +kernel
theorem dX4_init_4 : decode cX4_init 4 = .ok (.aload_n 0, 1) := by decide +kernel
theorem dX4_init_5 : decode cX4_init 5 = .ok (.new 7, 3) := by decide +kernel
theorem dX4_init_8 : decode cX4_init 8 = .ok (.dup, 1) := by decide +kernel
theorem dX4_init_9 : decode cX4_init 9 = .ok (.invokespecial 9, 3) := by decide +kernel
theorem dX4_init_12 : decode cX4_init 12 = .ok (.putfield 10, 3) := by decide +kernel
theorem dX4_init_15 : decode cX4_init 15 = .ok (.aload_n 0, 1) := by decide +kernel
theorem dX4_init_16 : decode cX4_init 16 = .ok (.new 16, 3) := by decide +kernel
theorem dX4_init_19 : decode cX4_init 19 = .ok (.dup, 1) := by decide +kernel
theorem dX4_init_20 : decode cX4_init 20 = .ok (.aload_n 0, 1) := by decide +kernel
theorem dX4_init_21 : decode cX4_init 21 = .ok (.getfield 10, 3) := by decide +kernel
theorem dX4_init_24 : decode cX4_init 24 = .ok (.invokespecial 18, 3) := by decide +kernel
theorem dX4_init_27 : decode cX4_init 27 = .ok (.putfield 21, 3) := by decide +kernel
theorem dX4_init_30 : decode cX4_init 30 = .ok (.aload_n 0, 1) := by decide +kernel
theorem dX4_init_31 : decode cX4_init 31 = .ok (.new 25, 3) := by decide +kernel
theorem dX4_init_34 : decode cX4_init 34 = .ok (.dup, 1) := by decide +kernel
theorem dX4_init_35 : decode cX4_init 35 = .ok (.aload_n 0, 1) := by decide +kernel
theorem dX4_init_36 : decode cX4_init 36 = .ok (.getfield 10, 3) := by decide +kernel
theorem dX4_init_39 : decode cX4_init 39 = .ok (.aload_n 0, 1) := by decide +kernel
theorem dX4_init_40 : decode cX4_init 40 = .ok (.getfield 21, 3) := by decide +kernel
theorem dX4_init_43 : decode cX4_init 43 = .ok (.invokespecial 27, 3) := by decide +kernel
theorem dX4_init_46 : decode cX4_init 46 = .ok (.putfield 30, 3) := by decide +kernel
theorem dX4_init_49 : decode cX4_init 49 = .ok (.aload_n 0, 1) := by decide +kernel
theorem dX4_init_50 : decode cX4_init 50 = .ok (.new 34, 3) := by decide +kernel
theorem dX4_init_53 : decode cX4_init 53 = .ok (.dup, 1) := by decide +kernel
theorem dX4_init_54 : decode cX4_init 54 = .ok (.invokespecial 36, 3) := by decide +kernel
theorem dX4_init_57 : decode cX4_init 57 = .ok (.putfield 37, 3) := by decide +kernel
theorem dX4_init_60 : decode cX4_init 60 = .ok (.aload_n 0, 1) := by decide +kernel
theorem dX4_init_61 : decode cX4_init 61 = .ok (.iconst 2, 1) := by decide +kernel
theorem dX4_init_62 : decode cX4_init 62 = .ok (.anewarray 7, 3) := by decide +kernel
theorem dX4_init_65 : decode cX4_init 65 = .ok (.putfield 41, 3) := by decide +kernel
theorem dX4_init_68 : decode cX4_init 68 = .ok (.aload_n 0, 1) := by decide +kernel
theorem dX4_init_69 : decode cX4_init 69 = .ok (.iconst 2, 1) := by decide +kernel
theorem dX4_init_70 : decode cX4_init 70 = .ok (.newarray .boolean, 2) := by decide +kernel
theorem dX4_init_72 : decode cX4_init 72 = .ok (.putfield 45, 3) := by decide +kernel
theorem dX4_init_75 : decode cX4_init 75 = .ok (.aload_n 0, 1) := by decide +kernel
theorem dX4_init_76 : decode cX4_init 76 = .ok (.bipush 16, 2) := by decide +kernel
theorem dX4_init_78 : decode cX4_init 78 = .ok (.newarray .int, 2) := by decide +kernel
theorem dX4_init_80 : decode cX4_init 80 = .ok (.putfield 49, 3) := by decide +kernel
theorem dX4_init_83 : decode cX4_init 83 = .ok (.iconst 0, 1) := by decide +kernel
theorem dX4_init_84 : decode cX4_init 84 = .ok (.istore_n 1, 1) := by decide +kernel
theorem dX4_init_85 : decode cX4_init 85 = .ok (.iload_n 1, 1) := by decide +kernel
theorem dX4_init_86 : decode cX4_init 86 = .ok (.iconst 2, 1) := by decide +kernel
theorem dX4_init_87 : decode cX4_init 87 = .ok (.if_icmp .ge 22, 3) := by decide +kernel
theorem dX4_init_90 : decode cX4_init 90 = .ok (.aload_n 0, 1) := by decide +kernel
theorem dX4_init_91 : decode cX4_init 91 = .ok (.getfield 41, 3) := by decide +kernel
theorem dX4_init_94 : decode cX4_init 94 = .ok (.iload_n 1, 1) := by decide +kernel
theorem dX4_init_95 : decode cX4_init 95 = .ok (.new 7, 3) := by decide +kernel
theorem dX4_init_98 : decode cX4_init 98 = .ok (.dup, 1) := by decide +kernel
theorem dX4_init_99 : decode cX4_init 99 = .ok (.invokespecial 9, 3) := by decide +kernel
theorem dX4_init_102 : decode cX4_init 102 = .ok (.aastore, 1) := by decide +kernel
theorem dX4_init_103 : decode cX4_init 103 = .ok (.iinc 1 1, 3) := by decide +kernel
theorem dX4_init_106 : decode cX4_init 106 = .ok (.goto (-21), 3) := by decide +kernel
theorem dX4_init_109 : decode cX4_init 109 = .ok (.return_, 1) := by decide +kernel
set_option maxRecDepth 20000 in
theorem ggX4_begin_X1_push : GoodIn wsX4_begin wsX1_push := goodIn_r _ [8, 9, 10, 11, 12, 13, 14, 15, 16, 17, 18, 19, 20, 21, 22, 23, 24, 25, 26, 48, 49, 50, 42, 43, 44, 45, 46, 47] (by decide +kernel) (by decide +kernel)
set_option maxRecDepth 20000 in
theorem gX4_begin_X1_push : GoodIn wsX4_begin (wsV RX4 53 RX1 yX1_push wsX1_push) := goodIn_app (goodIn_of _ (by decide +kernel)) ggX4_begin_X1_push
set_option maxRecDepth 20000 in
theorem ggX4_begin_X2_clear : GoodIn wsX4_begin wsX2_clear := goodIn_r _ [30, 17, 19, 18, 31, 32, 33, 15, 34, 26, 42, 43, 44, 45, 46, 47] (by decide +kernel) (by decide +kernel)
set_option maxRecDepth 20000 in
theorem gX4_begin_X2_clear : GoodIn wsX4_begin (wsV RX4 60 RX2 yX2_clear wsX2_clear) := goodIn_app (goodIn_of _ (by decide +kernel)) ggX4_begin_X2_clear
theorem dX4_begin_0 : decode cX4_begin 0 = .ok (.iload_n 1, 1) := by decide +kernel
theorem dX4_begin_1 : decode cX4_begin 1 = .ok (.iconst 1, 1) := by decide +kernel
theorem dX4_begin_2 : decode cX4_begin 2 = .ok (.if_icmp .lt 9, 3) := by decide +kernel
theorem dX4_begin_5 : decode cX4_begin 5 = .ok (.iload_n 1, 1) := by decide +kernel
theorem dX4_begin_6 : decode cX4_begin 6 = .ok (.bipush 64, 2) := by decide +kernel
theorem dX4_begin_8 : decode cX4_begin 8 = .ok (.if_icmp .le 5, 3) := by decide +kernel
theorem dX4_begin_11 : decode cX4_begin 11 = .ok (.iconst (-1), 1) := by decide +kernel
theorem dX4_begin_12 : decode cX4_begin 12 = .ok (.ireturn, 1) := by decide +kernel
theorem dX4_begin_13 : decode cX4_begin 13 = .ok (.aload_n 0, 1) := by decide +kernel
theorem dX4_begin_14 : decode cX4_begin 14 = .ok (.getfield 37, 3) := by decide +kernel
theorem dX4_begin_17 : decode cX4_begin 17 = .ok (.aload_n 0, 1) := by decide +kernel
theorem dX4_begin_18 : decode cX4_begin 18 = .ok (.getfield 10, 3) := by decide +kernel
theorem dX4_begin_21 : decode cX4_begin 21 = .ok (.invokevirtual 53, 3) := by decide +kernel
theorem dX4_begin_24 : decode cX4_begin 24 = .ok (.aload_n 0, 1) := by decide +kernel
theorem dX4_begin_25 : decode cX4_begin 25 = .ok (.getfield 10, 3) := by decide +kernel
theorem dX4_begin_28 : decode cX4_begin 28 = .ok (.getfield 56, 3) := by decide +kernel
theorem dX4_begin_31 : decode cX4_begin 31 = .ok (.istore_n 2, 1) := by decide +kernel
theorem dX4_begin_32 : decode cX4_begin 32 = .ok (.aload_n 0, 1) := by decide +kernel
theorem dX4_begin_33 : decode cX4_begin 33 = .ok (.getfield 10, 3) := by decide +kernel
theorem dX4_begin_36 : decode cX4_begin 36 = .ok (.iload_n 1, 1) := by decide +kernel
theorem dX4_begin_37 : decode cX4_begin 37 = .ok (.invokevirtual 60, 3) := by decide +kernel
theorem dX4_begin_40 : decode cX4_begin 40 = .ok (.iload_n 2, 1) := by decide +kernel
theorem dX4_begin_41 : decode cX4_begin 41 = .ok (.ireturn, 1) := by decide +kernel
set_option maxRecDepth 20000 in
theorem ggX4_sound_X2_isFrame : GoodIn wsX4_sound wsX2_isFrame := goodIn_r _ [8, 9, 38, 39, 40, 41, 42, 43] (by decide +kernel) (by decide +kernel)
set_option maxRecDepth 20000 in
theorem gX4_sound_X2_isFrame : GoodIn wsX4_sound (wsV RX4 64 RX2 yX2_isFrame wsX2_isFrame) := goodIn_app (goodIn_of _ (by decide +kernel)) ggX4_sound_X2_isFrame
set_option maxRecDepth 20000 in
theorem ggX4_sound_X1_push : GoodIn wsX4_sound wsX1_push := goodIn_r _ [14, 15, 16, 17, 18, 19, 20, 7, 21, 9, 22, 23, 24, 25, 26, 27, 28, 29, 30, 44, 45, 46, 38, 39, 40, 41, 42, 43] (by decide +kernel) (by decide +kernel)
set_option maxRecDepth 20000 in
theorem gX4_sound_X1_push : GoodIn wsX4_sound (wsV RX4 53 RX1 yX1_push wsX1_push) := goodIn_app (goodIn_of _ (by decide +kernel)) ggX4_sound_X1_push
theorem dX4_sound_0 : decode cX4_sound 0 = .ok (.aload_n 0, 1) := by decide +kernel
theorem dX4_sound_1 : decode cX4_sound 1 = .ok (.getfield 10, 3) := by decide +kernel
theorem dX4_sound_4 : decode cX4_sound 4 = .ok (.iload_n 1, 1) := by decide +kernel
theorem dX4_sound_5 : decode cX4_sound 5 = .ok (.invokevirtual 64, 3) := by decide +kernel
theorem dX4_sound_8 : decode cX4_sound 8 = .ok (.ifCond .eq 19, 3) := by decide +kernel
theorem dX4_sound_11 : decode cX4_sound 11 = .ok (.aload_n 0, 1) := by decide +kernel
theorem dX4_sound_12 : decode cX4_sound 12 = .ok (.getfield 10, 3) := by decide +kernel
theorem dX4_sound_15 : decode cX4_sound 15 = .ok (.iload_n 2, 1) := by decide +kernel
theorem dX4_sound_16 : decode cX4_sound 16 = .ok (.invokevirtual 64, 3) := by decide +kernel
theorem dX4_sound_19 : decode cX4_sound 19 = .ok (.ifCond .eq 8, 3) := by decide +kernel
theorem dX4_sound_22 : decode cX4_sound 22 = .ok (.iload_n 2, 1) := by decide +kernel
theorem dX4_sound_23 : decode cX4_sound 23 = .ok (.iload_n 1, 1) := by decide +kernel
theorem dX4_sound_24 : decode cX4_sound 24 = .ok (.if_icmp .ge 5, 3) := by decide +kernel
theorem dX4_sound_27 : decode cX4_sound 27 = .ok (.iconst (-1), 1) := by decide +kernel
theorem dX4_sound_28 : decode cX4_sound 28 = .ok (.ireturn, 1) := by decide +kernel
theorem dX4_sound_29 : decode cX4_sound 29 = .ok (.iload_n 3, 1) := by decide +kernel
theorem dX4_sound_30 : decode cX4_sound 30 = .ok (.ifCond .lt 10, 3) := by decide +kernel
theorem dX4_sound_33 : decode cX4_sound 33 = .ok (.iload_n 3, 1) := by decide +kernel
theorem dX4_sound_34 : decode cX4_sound 34 = .ok (.sipush 999, 3) := by decide +kernel
theorem dX4_sound_37 : decode cX4_sound 37 = .ok (.if_icmp .le 5, 3) := by decide +kernel
theorem dX4_sound_40 : decode cX4_sound 40 = .ok (.iconst (-1), 1) := by decide +kernel
theorem dX4_sound_41 : decode cX4_sound 41 = .ok (.ireturn, 1) := by decide +kernel
theorem dX4_sound_42 : decode cX4_sound 42 = .ok (.aload_n 0, 1) := by decide +kernel
theorem dX4_sound_43 : decode cX4_sound 43 = .ok (.getfield 37, 3) := by decide +kernel
theorem dX4_sound_46 : decode cX4_sound 46 = .ok (.aload_n 0, 1) := by decide +kernel
theorem dX4_sound_47 : decode cX4_sound 47 = .ok (.getfield 10, 3) := by decide +kernel
theorem dX4_sound_50 : decode cX4_sound 50 = .ok (.invokevirtual 53, 3) := by decide +kernel
theorem dX4_sound_53 : decode cX4_sound 53 = .ok (.iconst 0, 1) := by decide +kernel
theorem dX4_sound_54 : decode cX4_sound 54 = .ok (.istore 4, 2) := by decide +kernel
theorem dX4_sound_56 : decode cX4_sound 56 = .ok (.iload_n 1, 1) := by decide +kernel
theorem dX4_sound_57 : decode cX4_sound 57 = .ok (.istore 5, 2) := by decide +kernel
theorem dX4_sound_59 : decode cX4_sound 59 = .ok (.iload 5, 2) := by decide +kernel
theorem dX4_sound_61 : decode cX4_sound 61 = .ok (.iload_n 2, 1) := by decide +kernel
theorem dX4_sound_62 : decode cX4_sound 62 = .ok (.if_icmp .gt 35, 3) := by decide +kernel
theorem dX4_sound_65 : decode cX4_sound 65 = .ok (.iload 4, 2) := by decide +kernel
theorem dX4_sound_67 : decode cX4_sound 67 = .ok (.aload_n 0, 1) := by decide +kernel
theorem dX4_sound_68 : decode cX4_sound 68 = .ok (.getfield 10, 3) := by decide +kernel
theorem dX4_sound_71 : decode cX4_sound 71 = .ok (.getfield 68, 3) := by decide +kernel
theorem dX4_sound_74 : decode cX4_sound 74 = .ok (.iload 5, 2) := by decide +kernel
theorem dX4_sound_76 : decode cX4_sound 76 = .ok (.iaload, 1) := by decide +kernel
theorem dX4_sound_77 : decode cX4_sound 77 = .ok (.iadd, 1) := by decide +kernel
theorem dX4_sound_78 : decode cX4_sound 78 = .ok (.istore 4, 2) := by decide +kernel
theorem dX4_sound_80 : decode cX4_sound 80 = .ok (.aload_n 0, 1) := by decide +kernel
theorem dX4_sound_81 : decode cX4_sound 81 = .ok (.getfield 10, 3) := by decide +kernel
theorem dX4_sound_84 : decode cX4_sound 84 = .ok (.getfield 68, 3) := by decide +kernel
theorem dX4_sound_87 : decode cX4_sound 87 = .ok (.iload 5, 2) := by decide +kernel
theorem dX4_sound_89 : decode cX4_sound 89 = .ok (.iload_n 3, 1) := by decide +kernel
theorem dX4_sound_90 : decode cX4_sound 90 = .ok (.iastore, 1) := by decide +kernel
theorem dX4_sound_91 : decode cX4_sound 91 = .ok (.iinc 5 1, 3) := by decide +kernel
theorem dX4_sound_94 : decode cX4_sound 94 = .ok (.goto (-35), 3) := by decide +kernel
theorem dX4_sound_97 : decode cX4_sound 97 = .ok (.iload 4, 2) := by decide +kernel
theorem dX4_sound_99 : decode cX4_sound 99 = .ok (.ireturn, 1) := by decide +kernel
set_option maxRecDepth 20000 in
theorem ggX4_set_X4_isSetting : GoodIn wsX4_set wsX4_isSetting := goodIn_r _ [9] (by decide +kernel) (by decide +kernel)
set_option maxRecDepth 20000 in
theorem gX4_set_X4_isSetting : GoodIn wsX4_set (va_wsS RX4 71 yX4_isSetting wsX4_isSetting) := goodIn_app (goodIn_of _ (by decide +kernel)) ggX4_set_X4_isSetting
set_option maxRecDepth 20000 in
theorem ggX4_set_X1_push : GoodIn wsX4_set wsX1_push := goodIn_r _ [14, 15, 16, 17, 18, 19, 20, 21, 22, 23, 24, 25, 26, 27, 28, 29, 30, 31, 32, 46, 47, 48, 40, 41, 42, 43, 44, 45] (by decide +kernel) (by decide +kernel)
set_option maxRecDepth 20000 in
theorem gX4_set_X1_push : GoodIn wsX4_set (wsV RX4 53 RX1 yX1_push wsX1_push) := goodIn_app (goodIn_of _ (by decide +kernel)) ggX4_set_X1_push
theorem dX4_set_0 : decode cX4_set 0 = .ok (.iload_n 1, 1) := by decide +kernel
theorem dX4_set_1 : decode cX4_set 1 = .ok (.invokestatic 71, 3) := by decide +kernel
theorem dX4_set_4 : decode cX4_set 4 = .ok (.ifCond .ne 5, 3) := by decide +kernel
theorem dX4_set_7 : decode cX4_set 7 = .ok (.iconst (-1), 1) := by decide +kernel
theorem dX4_set_8 : decode cX4_set 8 = .ok (.ireturn, 1) := by decide +kernel
theorem dX4_set_9 : decode cX4_set 9 = .ok (.iload_n 2, 1) := by decide +kernel
theorem dX4_set_10 : decode cX4_set 10 = .ok (.getstatic 74, 3) := by decide +kernel
theorem dX4_set_13 : decode cX4_set 13 = .ok (.iload_n 1, 1) := by decide +kernel
theorem dX4_set_14 : decode cX4_set 14 = .ok (.iaload, 1) := by decide +kernel
theorem dX4_set_15 : decode cX4_set 15 = .ok (.if_icmp .lt 12, 3) := by decide +kernel
theorem dX4_set_18 : decode cX4_set 18 = .ok (.iload_n 2, 1) := by decide +kernel
theorem dX4_set_19 : decode cX4_set 19 = .ok (.getstatic 77, 3) := by decide +kernel
theorem dX4_set_22 : decode cX4_set 22 = .ok (.iload_n 1, 1) := by decide +kernel
theorem dX4_set_23 : decode cX4_set 23 = .ok (.iaload, 1) := by decide +kernel
theorem dX4_set_24 : decode cX4_set 24 = .ok (.if_icmp .le 5, 3) := by decide +kernel
theorem dX4_set_27 : decode cX4_set 27 = .ok (.iconst (-1), 1) := by decide +kernel
theorem dX4_set_28 : decode cX4_set 28 = .ok (.ireturn, 1) := by decide +kernel
theorem dX4_set_29 : decode cX4_set 29 = .ok (.aload_n 0, 1) := by decide +kernel
theorem dX4_set_30 : decode cX4_set 30 = .ok (.getfield 37, 3) := by decide +kernel
theorem dX4_set_33 : decode cX4_set 33 = .ok (.aload_n 0, 1) := by decide +kernel
theorem dX4_set_34 : decode cX4_set 34 = .ok (.getfield 10, 3) := by decide +kernel
theorem dX4_set_37 : decode cX4_set 37 = .ok (.invokevirtual 53, 3) := by decide +kernel
theorem dX4_set_40 : decode cX4_set 40 = .ok (.aload_n 0, 1) := by decide +kernel
theorem dX4_set_41 : decode cX4_set 41 = .ok (.getfield 10, 3) := by decide +kernel
theorem dX4_set_44 : decode cX4_set 44 = .ok (.getfield 80, 3) := by decide +kernel
theorem dX4_set_47 : decode cX4_set 47 = .ok (.iload_n 1, 1) := by decide +kernel
theorem dX4_set_48 : decode cX4_set 48 = .ok (.iaload, 1) := by decide +kernel
theorem dX4_set_49 : decode cX4_set 49 = .ok (.istore_n 3, 1) := by decide +kernel
theorem dX4_set_50 : decode cX4_set 50 = .ok (.aload_n 0, 1) := by decide +kernel
theorem dX4_set_51 : decode cX4_set 51 = .ok (.getfield 10, 3) := by decide +kernel
theorem dX4_set_54 : decode cX4_set 54 = .ok (.getfield 80, 3) := by decide +kernel
theorem dX4_set_57 : decode cX4_set 57 = .ok (.iload_n 1, 1) := by decide +kernel
theorem dX4_set_58 : decode cX4_set 58 = .ok (.iload_n 2, 1) := by decide +kernel
theorem dX4_set_59 : decode cX4_set 59 = .ok (.iastore, 1) := by decide +kernel
theorem dX4_set_60 : decode cX4_set 60 = .ok (.iload_n 3, 1) := by decide +kernel
theorem dX4_set_61 : decode cX4_set 61 = .ok (.ireturn, 1) := by decide +kernel
set_option maxRecDepth 20000 in
theorem ggX4_find_X1_push : GoodIn wsX4_find wsX1_push := goodIn_r _ [10, 11, 12, 13, 14, 15, 16, 17, 18, 19, 20, 21, 22, 23, 24, 25, 26, 27, 28, 50, 51, 52, 44, 45, 46, 47, 48, 49] (by decide +kernel) (by decide +kernel)
set_option maxRecDepth 20000 in
theorem gX4_find_X1_push : GoodIn wsX4_find (wsV RX4 53 RX1 yX1_push wsX1_push) := goodIn_app (goodIn_of _ (by decide +kernel)) ggX4_find_X1_push
set_option maxRecDepth 20000 in
theorem ggX4_find_X2_findRises : GoodIn wsX4_find wsX2_findRises := goodIn_r _ [32, 19, 21, 26, 44, 45, 46, 47, 48, 49] (by decide +kernel) (by decide +kernel)
set_option maxRecDepth 20000 in
theorem gX4_find_X2_findRises : GoodIn wsX4_find (wsV RX4 86 RX2 yX2_findRises wsX2_findRises) := goodIn_app (goodIn_of _ (by decide +kernel)) ggX4_find_X2_findRises
set_option maxRecDepth 20000 in
theorem ggX4_find_X2_resetSequence : GoodIn wsX4_find wsX2_resetSequence := goodIn_r _ [36, 28, 44, 45, 46, 47, 48, 49] (by decide +kernel) (by decide +kernel)
set_option maxRecDepth 20000 in
theorem gX4_find_X2_resetSequence : GoodIn wsX4_find (wsV RX4 93 RX2 yX2_resetSequence wsX2_resetSequence) := goodIn_app (goodIn_of _ (by decide +kernel)) ggX4_find_X2_resetSequence
theorem dX4_find_0 : decode cX4_find 0 = .ok (.aload_n 0, 1) := by decide +kernel
theorem dX4_find_1 : decode cX4_find 1 = .ok (.getfield 37, 3) := by decide +kernel
theorem dX4_find_4 : decode cX4_find 4 = .ok (.aload_n 0, 1) := by decide +kernel
theorem dX4_find_5 : decode cX4_find 5 = .ok (.getfield 10, 3) := by decide +kernel
theorem dX4_find_8 : decode cX4_find 8 = .ok (.invokevirtual 53, 3) := by decide +kernel
theorem dX4_find_11 : decode cX4_find 11 = .ok (.aload_n 0, 1) := by decide +kernel
theorem dX4_find_12 : decode cX4_find 12 = .ok (.getfield 10, 3) := by decide +kernel
theorem dX4_find_15 : decode cX4_find 15 = .ok (.aload_n 0, 1) := by decide +kernel
theorem dX4_find_16 : decode cX4_find 16 = .ok (.getfield 10, 3) := by decide +kernel
theorem dX4_find_19 : decode cX4_find 19 = .ok (.aload_n 0, 1) := by decide +kernel
theorem dX4_find_20 : decode cX4_find 20 = .ok (.getfield 10, 3) := by decide +kernel
theorem dX4_find_23 : decode cX4_find 23 = .ok (.getfield 80, 3) := by decide +kernel
theorem dX4_find_26 : decode cX4_find 26 = .ok (.iconst 1, 1) := by decide +kernel
theorem dX4_find_27 : decode cX4_find 27 = .ok (.iaload, 1) := by decide +kernel
theorem dX4_find_28 : decode cX4_find 28 = .ok (.aload_n 0, 1) := by decide +kernel
theorem dX4_find_29 : decode cX4_find 29 = .ok (.getfield 10, 3) := by decide +kernel
theorem dX4_find_32 : decode cX4_find 32 = .ok (.getfield 83, 3) := by decide +kernel
theorem dX4_find_35 : decode cX4_find 35 = .ok (.invokevirtual 86, 3) := by decide +kernel
theorem dX4_find_38 : decode cX4_find 38 = .ok (.putfield 90, 3) := by decide +kernel
theorem dX4_find_41 : decode cX4_find 41 = .ok (.aload_n 0, 1) := by decide +kernel
theorem dX4_find_42 : decode cX4_find 42 = .ok (.getfield 10, 3) := by decide +kernel
theorem dX4_find_45 : decode cX4_find 45 = .ok (.invokevirtual 93, 3) := by decide +kernel
theorem dX4_find_48 : decode cX4_find 48 = .ok (.aload_n 0, 1) := by decide +kernel
theorem dX4_find_49 : decode cX4_find 49 = .ok (.getfield 10, 3) := by decide +kernel
theorem dX4_find_52 : decode cX4_find 52 = .ok (.getfield 90, 3) := by decide +kernel
theorem dX4_find_55 : decode cX4_find 55 = .ok (.ireturn, 1) := by decide +kernel
set_option maxRecDepth 20000 in
theorem ggX4_mark_X2_isFrame : GoodIn wsX4_mark wsX2_isFrame := goodIn_r _ [9, 10, 55, 56, 57, 58, 59, 60] (by decide +kernel) (by decide +kernel)
set_option maxRecDepth 20000 in
theorem gX4_mark_X2_isFrame : GoodIn wsX4_mark (wsV RX4 64 RX2 yX2_isFrame wsX2_isFrame) := goodIn_app (goodIn_of _ (by decide +kernel)) ggX4_mark_X2_isFrame
set_option maxRecDepth 20000 in
theorem ggX4_mark_X2_marksBefore : GoodIn wsX4_mark wsX2_marksBefore := goodIn_r _ [14, 15, 16, 55, 56, 57, 58, 59, 60] (by decide +kernel) (by decide +kernel)
set_option maxRecDepth 20000 in
theorem gX4_mark_X2_marksBefore : GoodIn wsX4_mark (wsV RX4 96 RX2 yX2_marksBefore wsX2_marksBefore) := goodIn_app (goodIn_of _ (by decide +kernel)) ggX4_mark_X2_marksBefore
set_option maxRecDepth 20000 in
theorem ggX4_mark_X2_isSlice : GoodIn wsX4_mark wsX2_isSlice := goodIn_r _ [20, 15, 55, 56, 57, 58, 59, 60] (by decide +kernel) (by decide +kernel)
set_option maxRecDepth 20000 in
theorem gX4_mark_X2_isSlice : GoodIn wsX4_mark (wsV RX4 100 RX2 yX2_isSlice wsX2_isSlice) := goodIn_app (goodIn_of _ (by decide +kernel)) ggX4_mark_X2_isSlice
set_option maxRecDepth 20000 in
theorem ggX4_mark_X1_push : GoodIn wsX4_mark wsX1_push := goodIn_r _ [25, 26, 27, 28, 29, 30, 31, 8, 32, 10, 15, 33, 34, 35, 36, 37, 38, 16, 39, 61, 62, 63, 55, 56, 57, 58, 59, 60] (by decide +kernel) (by decide +kernel)
set_option maxRecDepth 20000 in
theorem gX4_mark_X1_push : GoodIn wsX4_mark (wsV RX4 53 RX1 yX1_push wsX1_push) := goodIn_app (goodIn_of _ (by decide +kernel)) ggX4_mark_X1_push
set_option maxRecDepth 20000 in
theorem ggX4_mark_X2_insertMark : GoodIn wsX4_mark wsX2_insertMark := goodIn_r _ [43, 15, 16, 44, 45, 46, 8, 47, 39, 55, 56, 57, 58, 59, 60] (by decide +kernel) (by decide +kernel)
set_option maxRecDepth 20000 in
theorem gX4_mark_X2_insertMark : GoodIn wsX4_mark (wsV RX4 103 RX2 yX2_insertMark wsX2_insertMark) := goodIn_app (goodIn_of _ (by decide +kernel)) ggX4_mark_X2_insertMark
theorem dX4_mark_0 : decode cX4_mark 0 = .ok (.aload_n 0, 1) := by decide +kernel
theorem dX4_mark_1 : decode cX4_mark 1 = .ok (.getfield 10, 3) := by decide +kernel
theorem dX4_mark_4 : decode cX4_mark 4 = .ok (.iload_n 1, 1) := by decide +kernel
theorem dX4_mark_5 : decode cX4_mark 5 = .ok (.invokevirtual 64, 3) := by decide +kernel
theorem dX4_mark_8 : decode cX4_mark 8 = .ok (.ifCond .ne 5, 3) := by decide +kernel
theorem dX4_mark_11 : decode cX4_mark 11 = .ok (.iconst (-1), 1) := by decide +kernel
theorem dX4_mark_12 : decode cX4_mark 12 = .ok (.ireturn, 1) := by decide +kernel
theorem dX4_mark_13 : decode cX4_mark 13 = .ok (.aload_n 0, 1) := by decide +kernel
theorem dX4_mark_14 : decode cX4_mark 14 = .ok (.getfield 10, 3) := by decide +kernel
theorem dX4_mark_17 : decode cX4_mark 17 = .ok (.iload_n 1, 1) := by decide +kernel
theorem dX4_mark_18 : decode cX4_mark 18 = .ok (.invokevirtual 96, 3) := by decide +kernel
theorem dX4_mark_21 : decode cX4_mark 21 = .ok (.istore_n 2, 1) := by decide +kernel
theorem dX4_mark_22 : decode cX4_mark 22 = .ok (.aload_n 0, 1) := by decide +kernel
theorem dX4_mark_23 : decode cX4_mark 23 = .ok (.getfield 10, 3) := by decide +kernel
theorem dX4_mark_26 : decode cX4_mark 26 = .ok (.iload_n 2, 1) := by decide +kernel
theorem dX4_mark_27 : decode cX4_mark 27 = .ok (.invokevirtual 100, 3) := by decide +kernel
theorem dX4_mark_30 : decode cX4_mark 30 = .ok (.ifCond .eq 19, 3) := by decide +kernel
theorem dX4_mark_33 : decode cX4_mark 33 = .ok (.aload_n 0, 1) := by decide +kernel
theorem dX4_mark_34 : decode cX4_mark 34 = .ok (.getfield 10, 3) := by decide +kernel
theorem dX4_mark_37 : decode cX4_mark 37 = .ok (.getfield 83, 3) := by decide +kernel
theorem dX4_mark_40 : decode cX4_mark 40 = .ok (.iload_n 2, 1) := by decide +kernel
theorem dX4_mark_41 : decode cX4_mark 41 = .ok (.iaload, 1) := by decide +kernel
theorem dX4_mark_42 : decode cX4_mark 42 = .ok (.iload_n 1, 1) := by decide +kernel
theorem dX4_mark_43 : decode cX4_mark 43 = .ok (.if_icmp .ne 6, 3) := by decide +kernel
theorem dX4_mark_46 : decode cX4_mark 46 = .ok (.bipush (-2), 2) := by decide +kernel
theorem dX4_mark_48 : decode cX4_mark 48 = .ok (.ireturn, 1) := by decide +kernel
theorem dX4_mark_49 : decode cX4_mark 49 = .ok (.aload_n 0, 1) := by decide +kernel
theorem dX4_mark_50 : decode cX4_mark 50 = .ok (.getfield 10, 3) := by decide +kernel
theorem dX4_mark_53 : decode cX4_mark 53 = .ok (.getfield 90, 3) := by decide +kernel
theorem dX4_mark_56 : decode cX4_mark 56 = .ok (.bipush 16, 2) := by decide +kernel
theorem dX4_mark_58 : decode cX4_mark 58 = .ok (.if_icmp .lt 6, 3) := by decide +kernel
theorem dX4_mark_61 : decode cX4_mark 61 = .ok (.bipush (-3), 2) := by decide +kernel
theorem dX4_mark_63 : decode cX4_mark 63 = .ok (.ireturn, 1) := by decide +kernel
theorem dX4_mark_64 : decode cX4_mark 64 = .ok (.aload_n 0, 1) := by decide +kernel
theorem dX4_mark_65 : decode cX4_mark 65 = .ok (.getfield 37, 3) := by decide +kernel
theorem dX4_mark_68 : decode cX4_mark 68 = .ok (.aload_n 0, 1) := by decide +kernel
theorem dX4_mark_69 : decode cX4_mark 69 = .ok (.getfield 10, 3) := by decide +kernel
theorem dX4_mark_72 : decode cX4_mark 72 = .ok (.invokevirtual 53, 3) := by decide +kernel
theorem dX4_mark_75 : decode cX4_mark 75 = .ok (.aload_n 0, 1) := by decide +kernel
theorem dX4_mark_76 : decode cX4_mark 76 = .ok (.getfield 10, 3) := by decide +kernel
theorem dX4_mark_79 : decode cX4_mark 79 = .ok (.iload_n 2, 1) := by decide +kernel
theorem dX4_mark_80 : decode cX4_mark 80 = .ok (.iload_n 1, 1) := by decide +kernel
theorem dX4_mark_81 : decode cX4_mark 81 = .ok (.invokevirtual 103, 3) := by decide +kernel
theorem dX4_mark_84 : decode cX4_mark 84 = .ok (.iload_n 2, 1) := by decide +kernel
theorem dX4_mark_85 : decode cX4_mark 85 = .ok (.ireturn, 1) := by decide +kernel
set_option maxRecDepth 20000 in
theorem ggX4_unmark_X4_isMovable : GoodIn wsX4_unmark wsX4_isMovable := goodIn_r _ [8, 2, 9, 10, 11, 12, 13, 14, 44, 45, 46, 47, 48, 49, 50, 51, 52, 53, 54, 55, 56] (by decide +kernel) (by decide +kernel)
set_option maxRecDepth 20000 in
theorem gX4_unmark_X4_isMovable : GoodIn wsX4_unmark (wsV RX4 107 RX4 yX4_isMovable wsX4_isMovable) := goodIn_app (goodIn_of _ (by decide +kernel)) ggX4_unmark_X4_isMovable
set_option maxRecDepth 20000 in
theorem ggX4_unmark_X1_push : GoodIn wsX4_unmark wsX1_push := goodIn_r _ [19, 20, 21, 22, 23, 24, 25, 12, 26, 27, 14, 28, 29, 30, 31, 32, 33, 34, 35, 57, 58, 59, 51, 52, 53, 54, 55, 56] (by decide +kernel) (by decide +kernel)
set_option maxRecDepth 20000 in
theorem gX4_unmark_X1_push : GoodIn wsX4_unmark (wsV RX4 53 RX1 yX1_push wsX1_push) := goodIn_app (goodIn_of _ (by decide +kernel)) ggX4_unmark_X1_push
set_option maxRecDepth 20000 in
theorem ggX4_unmark_X2_removeMark : GoodIn wsX4_unmark wsX2_removeMark := goodIn_r _ [39, 14, 34, 40, 41, 42, 12, 43, 35, 51, 52, 53, 54, 55, 56] (by decide +kernel) (by decide +kernel)
set_option maxRecDepth 20000 in
theorem gX4_unmark_X2_removeMark : GoodIn wsX4_unmark (wsV RX4 110 RX2 yX2_removeMark wsX2_removeMark) := goodIn_app (goodIn_of _ (by decide +kernel)) ggX4_unmark_X2_removeMark
theorem dX4_unmark_0 : decode cX4_unmark 0 = .ok (.aload_n 0, 1) := by decide +kernel
theorem dX4_unmark_1 : decode cX4_unmark 1 = .ok (.iload_n 1, 1) := by decide +kernel
theorem dX4_unmark_2 : decode cX4_unmark 2 = .ok (.invokevirtual 107, 3) := by decide +kernel
theorem dX4_unmark_5 : decode cX4_unmark 5 = .ok (.ifCond .ne 5, 3) := by decide +kernel
theorem dX4_unmark_8 : decode cX4_unmark 8 = .ok (.iconst (-1), 1) := by decide +kernel
theorem dX4_unmark_9 : decode cX4_unmark 9 = .ok (.ireturn, 1) := by decide +kernel
theorem dX4_unmark_10 : decode cX4_unmark 10 = .ok (.aload_n 0, 1) := by decide +kernel
theorem dX4_unmark_11 : decode cX4_unmark 11 = .ok (.getfield 37, 3) := by decide +kernel
theorem dX4_unmark_14 : decode cX4_unmark 14 = .ok (.aload_n 0, 1) := by decide +kernel
theorem dX4_unmark_15 : decode cX4_unmark 15 = .ok (.getfield 10, 3) := by decide +kernel
theorem dX4_unmark_18 : decode cX4_unmark 18 = .ok (.invokevirtual 53, 3) := by decide +kernel
theorem dX4_unmark_21 : decode cX4_unmark 21 = .ok (.aload_n 0, 1) := by decide +kernel
theorem dX4_unmark_22 : decode cX4_unmark 22 = .ok (.getfield 10, 3) := by decide +kernel
theorem dX4_unmark_25 : decode cX4_unmark 25 = .ok (.iload_n 1, 1) := by decide +kernel
theorem dX4_unmark_26 : decode cX4_unmark 26 = .ok (.invokevirtual 110, 3) := by decide +kernel
theorem dX4_unmark_29 : decode cX4_unmark 29 = .ok (.aload_n 0, 1) := by decide +kernel
theorem dX4_unmark_30 : decode cX4_unmark 30 = .ok (.getfield 10, 3) := by decide +kernel
theorem dX4_unmark_33 : decode cX4_unmark 33 = .ok (.getfield 90, 3) := by decide +kernel
theorem dX4_unmark_36 : decode cX4_unmark 36 = .ok (.ireturn, 1) := by decide +kernel
set_option maxRecDepth 20000 in
theorem ggX4_moveMark_X4_isMovable : GoodIn wsX4_moveMark wsX4_isMovable := goodIn_r _ [8, 1, 9, 10, 11, 12, 13, 14, 44, 45, 46, 47, 48, 49, 50, 51, 52, 53, 54, 55, 56] (by decide +kernel) (by decide +kernel)
set_option maxRecDepth 20000 in
theorem gX4_moveMark_X4_isMovable : GoodIn wsX4_moveMark (wsV RX4 107 RX4 yX4_isMovable wsX4_isMovable) := goodIn_app (goodIn_of _ (by decide +kernel)) ggX4_moveMark_X4_isMovable
set_option maxRecDepth 20000 in
theorem ggX4_moveMark_X2_isFrame : GoodIn wsX4_moveMark wsX2_isFrame := goodIn_r _ [18, 19, 51, 52, 53, 54, 55, 56] (by decide +kernel) (by decide +kernel)
set_option maxRecDepth 20000 in
theorem gX4_moveMark_X2_isFrame : GoodIn wsX4_moveMark (wsV RX4 64 RX2 yX2_isFrame wsX2_isFrame) := goodIn_app (goodIn_of _ (by decide +kernel)) ggX4_moveMark_X2_isFrame
set_option maxRecDepth 20000 in
theorem ggX4_moveMark_X2_endFrame : GoodIn wsX4_moveMark wsX2_endFrame := goodIn_r _ [23, 14, 24, 19, 51, 52, 53, 54, 55, 56] (by decide +kernel) (by decide +kernel)
set_option maxRecDepth 20000 in
theorem gX4_moveMark_X2_endFrame : GoodIn wsX4_moveMark (wsV RX4 113 RX2 yX2_endFrame wsX2_endFrame) := goodIn_app (goodIn_of _ (by decide +kernel)) ggX4_moveMark_X2_endFrame
set_option maxRecDepth 20000 in
theorem ggX4_moveMark_X1_push : GoodIn wsX4_moveMark wsX1_push := goodIn_r _ [29, 30, 31, 32, 33, 34, 35, 12, 36, 19, 14, 37, 38, 39, 40, 41, 42, 24, 43, 57, 58, 59, 51, 52, 53, 54, 55, 56] (by decide +kernel) (by decide +kernel)
set_option maxRecDepth 20000 in
theorem gX4_moveMark_X1_push : GoodIn wsX4_moveMark (wsV RX4 53 RX1 yX1_push wsX1_push) := goodIn_app (goodIn_of _ (by decide +kernel)) ggX4_moveMark_X1_push
theorem dX4_moveMark_0 : decode cX4_moveMark 0 = .ok (.aload_n 0, 1) := by decide +kernel
theorem dX4_moveMark_1 : decode cX4_moveMark 1 = .ok (.iload_n 1, 1) := by decide +kernel
theorem dX4_moveMark_2 : decode cX4_moveMark 2 = .ok (.invokevirtual 107, 3) := by decide +kernel
theorem dX4_moveMark_5 : decode cX4_moveMark 5 = .ok (.ifCond .eq 14, 3) := by decide +kernel
theorem dX4_moveMark_8 : decode cX4_moveMark 8 = .ok (.aload_n 0, 1) := by decide +kernel
theorem dX4_moveMark_9 : decode cX4_moveMark 9 = .ok (.getfield 10, 3) := by decide +kernel
theorem dX4_moveMark_12 : decode cX4_moveMark 12 = .ok (.iload_n 2, 1) := by decide +kernel
theorem dX4_moveMark_13 : decode cX4_moveMark 13 = .ok (.invokevirtual 64, 3) := by decide +kernel
theorem dX4_moveMark_16 : decode cX4_moveMark 16 = .ok (.ifCond .ne 5, 3) := by decide +kernel
theorem dX4_moveMark_19 : decode cX4_moveMark 19 = .ok (.iconst (-1), 1) := by decide +kernel
theorem dX4_moveMark_20 : decode cX4_moveMark 20 = .ok (.ireturn, 1) := by decide +kernel
theorem dX4_moveMark_21 : decode cX4_moveMark 21 = .ok (.iload_n 2, 1) := by decide +kernel
theorem dX4_moveMark_22 : decode cX4_moveMark 22 = .ok (.aload_n 0, 1) := by decide +kernel
theorem dX4_moveMark_23 : decode cX4_moveMark 23 = .ok (.getfield 10, 3) := by decide +kernel
theorem dX4_moveMark_26 : decode cX4_moveMark 26 = .ok (.getfield 83, 3) := by decide +kernel
theorem dX4_moveMark_29 : decode cX4_moveMark 29 = .ok (.iload_n 1, 1) := by decide +kernel
theorem dX4_moveMark_30 : decode cX4_moveMark 30 = .ok (.iconst 1, 1) := by decide +kernel
theorem dX4_moveMark_31 : decode cX4_moveMark 31 = .ok (.isub, 1) := by decide +kernel
theorem dX4_moveMark_32 : decode cX4_moveMark 32 = .ok (.iaload, 1) := by decide +kernel
theorem dX4_moveMark_33 : decode cX4_moveMark 33 = .ok (.if_icmp .le 15, 3) := by decide +kernel
theorem dX4_moveMark_36 : decode cX4_moveMark 36 = .ok (.iload_n 2, 1) := by decide +kernel
theorem dX4_moveMark_37 : decode cX4_moveMark 37 = .ok (.aload_n 0, 1) := by decide +kernel
theorem dX4_moveMark_38 : decode cX4_moveMark 38 = .ok (.getfield 10, 3) := by decide +kernel
theorem dX4_moveMark_41 : decode cX4_moveMark 41 = .ok (.iload_n 1, 1) := by decide +kernel
theorem dX4_moveMark_42 : decode cX4_moveMark 42 = .ok (.invokevirtual 113, 3) := by decide +kernel
theorem dX4_moveMark_45 : decode cX4_moveMark 45 = .ok (.if_icmp .lt 6, 3) := by decide +kernel
theorem dX4_moveMark_48 : decode cX4_moveMark 48 = .ok (.bipush (-2), 2) := by decide +kernel
theorem dX4_moveMark_50 : decode cX4_moveMark 50 = .ok (.ireturn, 1) := by decide +kernel
theorem dX4_moveMark_51 : decode cX4_moveMark 51 = .ok (.aload_n 0, 1) := by decide +kernel
theorem dX4_moveMark_52 : decode cX4_moveMark 52 = .ok (.getfield 37, 3) := by decide +kernel
theorem dX4_moveMark_55 : decode cX4_moveMark 55 = .ok (.aload_n 0, 1) := by decide +kernel
theorem dX4_moveMark_56 : decode cX4_moveMark 56 = .ok (.getfield 10, 3) := by decide +kernel
theorem dX4_moveMark_59 : decode cX4_moveMark 59 = .ok (.invokevirtual 53, 3) := by decide +kernel
theorem dX4_moveMark_62 : decode cX4_moveMark 62 = .ok (.aload_n 0, 1) := by decide +kernel
theorem dX4_moveMark_63 : decode cX4_moveMark 63 = .ok (.getfield 10, 3) := by decide +kernel
theorem dX4_moveMark_66 : decode cX4_moveMark 66 = .ok (.getfield 83, 3) := by decide +kernel
theorem dX4_moveMark_69 : decode cX4_moveMark 69 = .ok (.iload_n 1, 1) := by decide +kernel
theorem dX4_moveMark_70 : decode cX4_moveMark 70 = .ok (.iaload, 1) := by decide +kernel
theorem dX4_moveMark_71 : decode cX4_moveMark 71 = .ok (.istore_n 3, 1) := by decide +kernel
theorem dX4_moveMark_72 : decode cX4_moveMark 72 = .ok (.aload_n 0, 1) := by decide +kernel
theorem dX4_moveMark_73 : decode cX4_moveMark 73 = .ok (.getfield 10, 3) := by decide +kernel
theorem dX4_moveMark_76 : decode cX4_moveMark 76 = .ok (.getfield 83, 3) := by decide +kernel
theorem dX4_moveMark_79 : decode cX4_moveMark 79 = .ok (.iload_n 1, 1) := by decide +kernel
theorem dX4_moveMark_80 : decode cX4_moveMark 80 = .ok (.iload_n 2, 1) := by decide +kernel
theorem dX4_moveMark_81 : decode cX4_moveMark 81 = .ok (.iastore, 1) := by decide +kernel
theorem dX4_moveMark_82 : decode cX4_moveMark 82 = .ok (.iload_n 3, 1) := by decide +kernel
theorem dX4_moveMark_83 : decode cX4_moveMark 83 = .ok (.ireturn, 1) := by decide +kernel
set_option maxRecDepth 20000 in
theorem ggX4_swap_X2_isSlice : GoodIn wsX4_swap wsX2_isSlice := goodIn_r _ [8, 9, 42, 43, 44, 45, 46, 47] (by decide +kernel) (by decide +kernel)
set_option maxRecDepth 20000 in
theorem gX4_swap_X2_isSlice : GoodIn wsX4_swap (wsV RX4 100 RX2 yX2_isSlice wsX2_isSlice) := goodIn_app (goodIn_of _ (by decide +kernel)) ggX4_swap_X2_isSlice
set_option maxRecDepth 20000 in
theorem ggX4_swap_X1_push : GoodIn wsX4_swap wsX1_push := goodIn_r _ [14, 15, 16, 17, 18, 19, 20, 7, 21, 22, 9, 23, 24, 25, 26, 27, 28, 29, 30, 48, 49, 50, 42, 43, 44, 45, 46, 47] (by decide +kernel) (by decide +kernel)
set_option maxRecDepth 20000 in
theorem gX4_swap_X1_push : GoodIn wsX4_swap (wsV RX4 53 RX1 yX1_push wsX1_push) := goodIn_app (goodIn_of _ (by decide +kernel)) ggX4_swap_X1_push
set_option maxRecDepth 20000 in
theorem ggX4_swap_X2_exchange : GoodIn wsX4_swap wsX2_exchange := goodIn_r _ [34, 30, 42, 43, 44, 45, 46, 47] (by decide +kernel) (by decide +kernel)
set_option maxRecDepth 20000 in
theorem gX4_swap_X2_exchange : GoodIn wsX4_swap (wsV RX4 116 RX2 yX2_exchange wsX2_exchange) := goodIn_app (goodIn_of _ (by decide +kernel)) ggX4_swap_X2_exchange
theorem dX4_swap_0 : decode cX4_swap 0 = .ok (.aload_n 0, 1) := by decide +kernel
theorem dX4_swap_1 : decode cX4_swap 1 = .ok (.getfield 10, 3) := by decide +kernel
theorem dX4_swap_4 : decode cX4_swap 4 = .ok (.iload_n 1, 1) := by decide +kernel
theorem dX4_swap_5 : decode cX4_swap 5 = .ok (.invokevirtual 100, 3) := by decide +kernel
theorem dX4_swap_8 : decode cX4_swap 8 = .ok (.ifCond .eq 14, 3) := by decide +kernel
theorem dX4_swap_11 : decode cX4_swap 11 = .ok (.aload_n 0, 1) := by decide +kernel
theorem dX4_swap_12 : decode cX4_swap 12 = .ok (.getfield 10, 3) := by decide +kernel
theorem dX4_swap_15 : decode cX4_swap 15 = .ok (.iload_n 2, 1) := by decide +kernel
theorem dX4_swap_16 : decode cX4_swap 16 = .ok (.invokevirtual 100, 3) := by decide +kernel
theorem dX4_swap_19 : decode cX4_swap 19 = .ok (.ifCond .ne 5, 3) := by decide +kernel
theorem dX4_swap_22 : decode cX4_swap 22 = .ok (.iconst (-1), 1) := by decide +kernel
theorem dX4_swap_23 : decode cX4_swap 23 = .ok (.ireturn, 1) := by decide +kernel
theorem dX4_swap_24 : decode cX4_swap 24 = .ok (.aload_n 0, 1) := by decide +kernel
theorem dX4_swap_25 : decode cX4_swap 25 = .ok (.getfield 37, 3) := by decide +kernel
theorem dX4_swap_28 : decode cX4_swap 28 = .ok (.aload_n 0, 1) := by decide +kernel
theorem dX4_swap_29 : decode cX4_swap 29 = .ok (.getfield 10, 3) := by decide +kernel
theorem dX4_swap_32 : decode cX4_swap 32 = .ok (.invokevirtual 53, 3) := by decide +kernel
theorem dX4_swap_35 : decode cX4_swap 35 = .ok (.aload_n 0, 1) := by decide +kernel
theorem dX4_swap_36 : decode cX4_swap 36 = .ok (.getfield 10, 3) := by decide +kernel
theorem dX4_swap_39 : decode cX4_swap 39 = .ok (.iload_n 1, 1) := by decide +kernel
theorem dX4_swap_40 : decode cX4_swap 40 = .ok (.iload_n 2, 1) := by decide +kernel
theorem dX4_swap_41 : decode cX4_swap 41 = .ok (.invokevirtual 116, 3) := by decide +kernel
theorem dX4_swap_44 : decode cX4_swap 44 = .ok (.aload_n 0, 1) := by decide +kernel
theorem dX4_swap_45 : decode cX4_swap 45 = .ok (.getfield 10, 3) := by decide +kernel
theorem dX4_swap_48 : decode cX4_swap 48 = .ok (.getfield 119, 3) := by decide +kernel
theorem dX4_swap_51 : decode cX4_swap 51 = .ok (.iload_n 1, 1) := by decide +kernel
theorem dX4_swap_52 : decode cX4_swap 52 = .ok (.iaload, 1) := by decide +kernel
theorem dX4_swap_53 : decode cX4_swap 53 = .ok (.ireturn, 1) := by decide +kernel
set_option maxRecDepth 20000 in
theorem ggX4_reverse_X1_push : GoodIn wsX4_reverse wsX1_push := goodIn_r _ [9, 10, 11, 12, 13, 14, 15, 16, 17, 18, 19, 20, 21, 22, 23, 24, 25, 26, 27, 45, 46, 47, 39, 40, 41, 42, 43, 44] (by decide +kernel) (by decide +kernel)
set_option maxRecDepth 20000 in
theorem gX4_reverse_X1_push : GoodIn wsX4_reverse (wsV RX4 53 RX1 yX1_push wsX1_push) := goodIn_app (goodIn_of _ (by decide +kernel)) ggX4_reverse_X1_push
set_option maxRecDepth 20000 in
theorem ggX4_reverse_X2_exchange : GoodIn wsX4_reverse wsX2_exchange := goodIn_r _ [31, 27, 39, 40, 41, 42, 43, 44] (by decide +kernel) (by decide +kernel)
set_option maxRecDepth 20000 in
theorem gX4_reverse_X2_exchange : GoodIn wsX4_reverse (wsV RX4 116 RX2 yX2_exchange wsX2_exchange) := goodIn_app (goodIn_of _ (by decide +kernel)) ggX4_reverse_X2_exchange
theorem dX4_reverse_0 : decode cX4_reverse 0 = .ok (.aload_n 0, 1) := by decide +kernel
theorem dX4_reverse_1 : decode cX4_reverse 1 = .ok (.getfield 37, 3) := by decide +kernel
theorem dX4_reverse_4 : decode cX4_reverse 4 = .ok (.aload_n 0, 1) := by decide +kernel
theorem dX4_reverse_5 : decode cX4_reverse 5 = .ok (.getfield 10, 3) := by decide +kernel
theorem dX4_reverse_8 : decode cX4_reverse 8 = .ok (.invokevirtual 53, 3) := by decide +kernel
theorem dX4_reverse_11 : decode cX4_reverse 11 = .ok (.iconst 0, 1) := by decide +kernel
theorem dX4_reverse_12 : decode cX4_reverse 12 = .ok (.istore_n 1, 1) := by decide +kernel
theorem dX4_reverse_13 : decode cX4_reverse 13 = .ok (.iload_n 1, 1) := by decide +kernel
theorem dX4_reverse_14 : decode cX4_reverse 14 = .ok (.aload_n 0, 1) := by decide +kernel
theorem dX4_reverse_15 : decode cX4_reverse 15 = .ok (.getfield 10, 3) := by decide +kernel
theorem dX4_reverse_18 : decode cX4_reverse 18 = .ok (.getfield 90, 3) := by decide +kernel
theorem dX4_reverse_21 : decode cX4_reverse 21 = .ok (.iconst 2, 1) := by decide +kernel
theorem dX4_reverse_22 : decode cX4_reverse 22 = .ok (.idiv, 1) := by decide +kernel
theorem dX4_reverse_23 : decode cX4_reverse 23 = .ok (.if_icmp .ge 28, 3) := by decide +kernel
theorem dX4_reverse_26 : decode cX4_reverse 26 = .ok (.aload_n 0, 1) := by decide +kernel
theorem dX4_reverse_27 : decode cX4_reverse 27 = .ok (.getfield 10, 3) := by decide +kernel
theorem dX4_reverse_30 : decode cX4_reverse 30 = .ok (.iload_n 1, 1) := by decide +kernel
theorem dX4_reverse_31 : decode cX4_reverse 31 = .ok (.aload_n 0, 1) := by decide +kernel
theorem dX4_reverse_32 : decode cX4_reverse 32 = .ok (.getfield 10, 3) := by decide +kernel
theorem dX4_reverse_35 : decode cX4_reverse 35 = .ok (.getfield 90, 3) := by decide +kernel
theorem dX4_reverse_38 : decode cX4_reverse 38 = .ok (.iconst 1, 1) := by decide +kernel
theorem dX4_reverse_39 : decode cX4_reverse 39 = .ok (.isub, 1) := by decide +kernel
theorem dX4_reverse_40 : decode cX4_reverse 40 = .ok (.iload_n 1, 1) := by decide +kernel
theorem dX4_reverse_41 : decode cX4_reverse 41 = .ok (.isub, 1) := by decide +kernel
theorem dX4_reverse_42 : decode cX4_reverse 42 = .ok (.invokevirtual 116, 3) := by decide +kernel
theorem dX4_reverse_45 : decode cX4_reverse 45 = .ok (.iinc 1 1, 3) := by decide +kernel
theorem dX4_reverse_48 : decode cX4_reverse 48 = .ok (.goto (-35), 3) := by decide +kernel
theorem dX4_reverse_51 : decode cX4_reverse 51 = .ok (.aload_n 0, 1) := by decide +kernel
theorem dX4_reverse_52 : decode cX4_reverse 52 = .ok (.getfield 10, 3) := by decide +kernel
theorem dX4_reverse_55 : decode cX4_reverse 55 = .ok (.getfield 119, 3) := by decide +kernel
theorem dX4_reverse_58 : decode cX4_reverse 58 = .ok (.iconst 0, 1) := by decide +kernel
theorem dX4_reverse_59 : decode cX4_reverse 59 = .ok (.iaload, 1) := by decide +kernel
theorem dX4_reverse_60 : decode cX4_reverse 60 = .ok (.ireturn, 1) := by decide +kernel
set_option maxRecDepth 20000 in
theorem ggX4_undo_X1_pop : GoodIn wsX4_undo wsX1_pop := goodIn_r _ [8, 9, 10, 11, 12, 13, 14, 15, 16, 17, 18, 19, 20, 21, 22, 23, 24, 25, 26, 34, 35, 36, 37, 38, 39, 40, 41, 42] (by decide +kernel) (by decide +kernel)
set_option maxRecDepth 20000 in
theorem gX4_undo_X1_pop : GoodIn wsX4_undo (wsV RX4 125 RX1 yX1_pop wsX1_pop) := goodIn_app (goodIn_of _ (by decide +kernel)) ggX4_undo_X1_pop
theorem dX4_undo_0 : decode cX4_undo 0 = .ok (.aload_n 0, 1) := by decide +kernel
theorem dX4_undo_1 : decode cX4_undo 1 = .ok (.getfield 37, 3) := by decide +kernel
theorem dX4_undo_4 : decode cX4_undo 4 = .ok (.getfield 122, 3) := by decide +kernel
theorem dX4_undo_7 : decode cX4_undo 7 = .ok (.ifCond .ne 6, 3) := by decide +kernel
theorem dX4_undo_10 : decode cX4_undo 10 = .ok (.bipush (-2), 2) := by decide +kernel
theorem dX4_undo_12 : decode cX4_undo 12 = .ok (.ireturn, 1) := by decide +kernel
theorem dX4_undo_13 : decode cX4_undo 13 = .ok (.aload_n 0, 1) := by decide +kernel
theorem dX4_undo_14 : decode cX4_undo 14 = .ok (.getfield 37, 3) := by decide +kernel
theorem dX4_undo_17 : decode cX4_undo 17 = .ok (.aload_n 0, 1) := by decide +kernel
theorem dX4_undo_18 : decode cX4_undo 18 = .ok (.getfield 10, 3) := by decide +kernel
theorem dX4_undo_21 : decode cX4_undo 21 = .ok (.invokevirtual 125, 3) := by decide +kernel
theorem dX4_undo_24 : decode cX4_undo 24 = .ok (.aload_n 0, 1) := by decide +kernel
theorem dX4_undo_25 : decode cX4_undo 25 = .ok (.getfield 37, 3) := by decide +kernel
theorem dX4_undo_28 : decode cX4_undo 28 = .ok (.getfield 122, 3) := by decide +kernel
theorem dX4_undo_31 : decode cX4_undo 31 = .ok (.ireturn, 1) := by decide +kernel
set_option maxRecDepth 20000 in
theorem ggX4_told_X3_lay : GoodIn wsX4_told wsX3_lay := goodIn_r _ [12, 13, 14, 15, 16, 17, 18, 19, 20, 21, 22, 23, 24, 25, 11, 26, 27, 28, 29, 30, 31, 32, 33, 34, 35, 36, 37, 38, 39, 40, 41, 42, 43, 44, 45, 46, 47, 48, 49, 50, 51, 52, 53, 54, 55, 56, 57, 58, 59, 60, 61, 62, 63, 64, 65, 66, 67, 68, 69, 70, 71, 72, 73, 74, 75, 76, 77, 78, 79, 80, 81, 82, 83, 84, 85, 86, 87, 88, 89, 90, 91, 92, 93, 94, 95, 96, 97, 98, 99, 100, 101, 102, 103, 104, 105, 106, 107, 108, 109, 110, 145, 146, 147, 148, 136, 137, 138, 139, 140, 141, 149, 150, 151, 152, 153, 154, 155, 156] (by decide +kernel) (by decide +kernel)
set_option maxRecDepth 20000 in
theorem gX4_told_X3_lay : GoodIn wsX4_told (wsV RX4 128 RX3 yX3_lay wsX3_lay) := goodIn_app (goodIn_of _ (by decide +kernel)) ggX4_told_X3_lay
set_option maxRecDepth 20000 in
theorem ggX4_told_X3_countBeyondLimits : GoodIn wsX4_told wsX3_countBeyondLimits := goodIn_r _ [114, 13, 15, 16, 30, 31, 32, 20, 33, 34, 22, 35, 36, 37, 38, 39, 40, 115, 71, 72, 73, 116, 75, 76, 77, 145, 146, 147, 148, 136, 137, 138, 139, 140, 141] (by decide +kernel) (by decide +kernel)
set_option maxRecDepth 20000 in
theorem gX4_told_X3_countBeyondLimits : GoodIn wsX4_told (wsV RX4 132 RX3 yX3_countBeyondLimits wsX3_countBeyondLimits) := goodIn_app (goodIn_of _ (by decide +kernel)) ggX4_told_X3_countBeyondLimits
set_option maxRecDepth 20000 in
theorem ggX4_told_X3_sumFades : GoodIn wsX4_told wsX3_sumFades := goodIn_r _ [120, 13, 15, 121, 122, 123, 11, 124, 16, 125, 27, 126, 127, 96, 128, 145, 146, 147, 148, 136, 137, 138, 139, 140, 141] (by decide +kernel) (by decide +kernel)
set_option maxRecDepth 20000 in
theorem gX4_told_X3_sumFades : GoodIn wsX4_told (wsV RX4 136 RX3 yX3_sumFades wsX3_sumFades) := goodIn_app (goodIn_of _ (by decide +kernel)) ggX4_told_X3_sumFades
theorem dX4_told_0 : decode cX4_told 0 = .ok (.iload_n 1, 1) := by decide +kernel
theorem dX4_told_1 : decode cX4_told 1 = .ok (.tableswitch 147 0 6 #[43, 51, 69, 77, 93, 116, 139], 43) := by decide +kernel
theorem dX4_told_44 : decode cX4_told 44 = .ok (.aload_n 0, 1) := by decide +kernel
theorem dX4_told_45 : decode cX4_told 45 = .ok (.getfield 10, 3) := by decide +kernel
theorem dX4_told_48 : decode cX4_told 48 = .ok (.getfield 56, 3) := by decide +kernel
theorem dX4_told_51 : decode cX4_told 51 = .ok (.ireturn, 1) := by decide +kernel
theorem dX4_told_52 : decode cX4_told 52 = .ok (.aload_n 0, 1) := by decide +kernel
theorem dX4_told_53 : decode cX4_told 53 = .ok (.getfield 10, 3) := by decide +kernel
theorem dX4_told_56 : decode cX4_told 56 = .ok (.getfield 56, 3) := by decide +kernel
theorem dX4_told_59 : decode cX4_told 59 = .ok (.aload_n 0, 1) := by decide +kernel
theorem dX4_told_60 : decode cX4_told 60 = .ok (.getfield 10, 3) := by decide +kernel
theorem dX4_told_63 : decode cX4_told 63 = .ok (.getfield 80, 3) := by decide +kernel
theorem dX4_told_66 : decode cX4_told 66 = .ok (.iconst 0, 1) := by decide +kernel
theorem dX4_told_67 : decode cX4_told 67 = .ok (.iaload, 1) := by decide +kernel
theorem dX4_told_68 : decode cX4_told 68 = .ok (.imul, 1) := by decide +kernel
theorem dX4_told_69 : decode cX4_told 69 = .ok (.ireturn, 1) := by decide +kernel
theorem dX4_told_70 : decode cX4_told 70 = .ok (.aload_n 0, 1) := by decide +kernel
theorem dX4_told_71 : decode cX4_told 71 = .ok (.getfield 10, 3) := by decide +kernel
theorem dX4_told_74 : decode cX4_told 74 = .ok (.getfield 90, 3) := by decide +kernel
theorem dX4_told_77 : decode cX4_told 77 = .ok (.ireturn, 1) := by decide +kernel
theorem dX4_told_78 : decode cX4_told 78 = .ok (.aload_n 0, 1) := by decide +kernel
theorem dX4_told_79 : decode cX4_told 79 = .ok (.getfield 30, 3) := by decide +kernel
theorem dX4_told_82 : decode cX4_told 82 = .ok (.invokevirtual 128, 3) := by decide +kernel
theorem dX4_told_85 : decode cX4_told 85 = .ok (.ifCond .eq 7, 3) := by decide +kernel
theorem dX4_told_88 : decode cX4_told 88 = .ok (.iconst 1, 1) := by decide +kernel
theorem dX4_told_89 : decode cX4_told 89 = .ok (.goto 4, 3) := by decide +kernel
theorem dX4_told_92 : decode cX4_told 92 = .ok (.iconst 0, 1) := by decide +kernel
theorem dX4_told_93 : decode cX4_told 93 = .ok (.ireturn, 1) := by decide +kernel
theorem dX4_told_94 : decode cX4_told 94 = .ok (.aload_n 0, 1) := by decide +kernel
theorem dX4_told_95 : decode cX4_told 95 = .ok (.getfield 30, 3) := by decide +kernel
theorem dX4_told_98 : decode cX4_told 98 = .ok (.invokevirtual 128, 3) := by decide +kernel
theorem dX4_told_101 : decode cX4_told 101 = .ok (.ifCond .eq 13, 3) := by decide +kernel
theorem dX4_told_104 : decode cX4_told 104 = .ok (.aload_n 0, 1) := by decide +kernel
theorem dX4_told_105 : decode cX4_told 105 = .ok (.getfield 30, 3) := by decide +kernel
theorem dX4_told_108 : decode cX4_told 108 = .ok (.invokevirtual 132, 3) := by decide +kernel
theorem dX4_told_111 : decode cX4_told 111 = .ok (.goto 5, 3) := by decide +kernel
theorem dX4_told_114 : decode cX4_told 114 = .ok (.bipush (-9), 2) := by decide +kernel
theorem dX4_told_116 : decode cX4_told 116 = .ok (.ireturn, 1) := by decide +kernel
theorem dX4_told_117 : decode cX4_told 117 = .ok (.aload_n 0, 1) := by decide +kernel
theorem dX4_told_118 : decode cX4_told 118 = .ok (.getfield 30, 3) := by decide +kernel
theorem dX4_told_121 : decode cX4_told 121 = .ok (.invokevirtual 128, 3) := by decide +kernel
theorem dX4_told_124 : decode cX4_told 124 = .ok (.ifCond .eq 13, 3) := by decide +kernel
theorem dX4_told_127 : decode cX4_told 127 = .ok (.aload_n 0, 1) := by decide +kernel
theorem dX4_told_128 : decode cX4_told 128 = .ok (.getfield 30, 3) := by decide +kernel
theorem dX4_told_131 : decode cX4_told 131 = .ok (.invokevirtual 136, 3) := by decide +kernel
theorem dX4_told_134 : decode cX4_told 134 = .ok (.goto 5, 3) := by decide +kernel
theorem dX4_told_137 : decode cX4_told 137 = .ok (.bipush (-9), 2) := by decide +kernel
theorem dX4_told_139 : decode cX4_told 139 = .ok (.ireturn, 1) := by decide +kernel
theorem dX4_told_140 : decode cX4_told 140 = .ok (.aload_n 0, 1) := by decide +kernel
theorem dX4_told_141 : decode cX4_told 141 = .ok (.getfield 37, 3) := by decide +kernel
theorem dX4_told_144 : decode cX4_told 144 = .ok (.getfield 122, 3) := by decide +kernel
theorem dX4_told_147 : decode cX4_told 147 = .ok (.ireturn, 1) := by decide +kernel
theorem dX4_told_148 : decode cX4_told 148 = .ok (.iconst (-1), 1) := by decide +kernel
theorem dX4_told_149 : decode cX4_told 149 = .ok (.ireturn, 1) := by decide +kernel
set_option maxRecDepth 20000 in
theorem ggX4_setting_X4_isSetting : GoodIn wsX4_setting wsX4_isSetting := goodIn_r _ [6] (by decide +kernel) (by decide +kernel)
set_option maxRecDepth 20000 in
theorem gX4_setting_X4_isSetting : GoodIn wsX4_setting (va_wsS RX4 71 yX4_isSetting wsX4_isSetting) := goodIn_app (goodIn_of _ (by decide +kernel)) ggX4_setting_X4_isSetting
theorem dX4_setting_0 : decode cX4_setting 0 = .ok (.iload_n 1, 1) := by decide +kernel
theorem dX4_setting_1 : decode cX4_setting 1 = .ok (.invokestatic 71, 3) := by decide +kernel
theorem dX4_setting_4 : decode cX4_setting 4 = .ok (.ifCond .eq 15, 3) := by decide +kernel
theorem dX4_setting_7 : decode cX4_setting 7 = .ok (.aload_n 0, 1) := by decide +kernel
theorem dX4_setting_8 : decode cX4_setting 8 = .ok (.getfield 10, 3) := by decide +kernel
theorem dX4_setting_11 : decode cX4_setting 11 = .ok (.getfield 80, 3) := by decide +kernel
theorem dX4_setting_14 : decode cX4_setting 14 = .ok (.iload_n 1, 1) := by decide +kernel
theorem dX4_setting_15 : decode cX4_setting 15 = .ok (.iaload, 1) := by decide +kernel
theorem dX4_setting_16 : decode cX4_setting 16 = .ok (.goto 4, 3) := by decide +kernel
theorem dX4_setting_19 : decode cX4_setting 19 = .ok (.iconst (-1), 1) := by decide +kernel
theorem dX4_setting_20 : decode cX4_setting 20 = .ok (.ireturn, 1) := by decide +kernel
set_option maxRecDepth 20000 in
theorem ggX4_energy_X2_isFrame : GoodIn wsX4_energy wsX2_isFrame := goodIn_r _ [7, 8, 16, 17, 18, 19, 20, 21] (by decide +kernel) (by decide +kernel)
set_option maxRecDepth 20000 in
theorem gX4_energy_X2_isFrame : GoodIn wsX4_energy (wsV RX4 64 RX2 yX2_isFrame wsX2_isFrame) := goodIn_app (goodIn_of _ (by decide +kernel)) ggX4_energy_X2_isFrame
theorem dX4_energy_0 : decode cX4_energy 0 = .ok (.aload_n 0, 1) := by decide +kernel
theorem dX4_energy_1 : decode cX4_energy 1 = .ok (.getfield 10, 3) := by decide +kernel
theorem dX4_energy_4 : decode cX4_energy 4 = .ok (.iload_n 1, 1) := by decide +kernel
theorem dX4_energy_5 : decode cX4_energy 5 = .ok (.invokevirtual 64, 3) := by decide +kernel
theorem dX4_energy_8 : decode cX4_energy 8 = .ok (.ifCond .eq 15, 3) := by decide +kernel
theorem dX4_energy_11 : decode cX4_energy 11 = .ok (.aload_n 0, 1) := by decide +kernel
theorem dX4_energy_12 : decode cX4_energy 12 = .ok (.getfield 10, 3) := by decide +kernel
theorem dX4_energy_15 : decode cX4_energy 15 = .ok (.getfield 68, 3) := by decide +kernel
theorem dX4_energy_18 : decode cX4_energy 18 = .ok (.iload_n 1, 1) := by decide +kernel
theorem dX4_energy_19 : decode cX4_energy 19 = .ok (.iaload, 1) := by decide +kernel
theorem dX4_energy_20 : decode cX4_energy 20 = .ok (.goto 4, 3) := by decide +kernel
theorem dX4_energy_23 : decode cX4_energy 23 = .ok (.iconst (-1), 1) := by decide +kernel
theorem dX4_energy_24 : decode cX4_energy 24 = .ok (.ireturn, 1) := by decide +kernel
set_option maxRecDepth 20000 in
theorem ggX4_slice_X2_isSlice : GoodIn wsX4_slice wsX2_isSlice := goodIn_r _ [11, 12, 146, 147, 148, 149, 150, 151] (by decide +kernel) (by decide +kernel)
set_option maxRecDepth 20000 in
theorem gX4_slice_X2_isSlice : GoodIn wsX4_slice (wsV RX4 100 RX2 yX2_isSlice wsX2_isSlice) := goodIn_app (goodIn_of _ (by decide +kernel)) ggX4_slice_X2_isSlice
set_option maxRecDepth 20000 in
theorem ggX4_slice_X2_lengthOf : GoodIn wsX4_slice wsX2_lengthOf := goodIn_r _ [16, 17, 18, 19, 20, 21, 10, 22, 12, 23, 146, 147, 148, 149, 150, 151] (by decide +kernel) (by decide +kernel)
set_option maxRecDepth 20000 in
theorem gX4_slice_X2_lengthOf : GoodIn wsX4_slice (wsV RX4 139 RX2 yX2_lengthOf wsX2_lengthOf) := goodIn_app (goodIn_of _ (by decide +kernel)) ggX4_slice_X2_lengthOf
set_option maxRecDepth 20000 in
theorem ggX4_slice_X3_lay : GoodIn wsX4_slice wsX3_lay := goodIn_r _ [28, 29, 30, 31, 32, 33, 34, 35, 10, 36, 18, 37, 38, 39, 27, 40, 41, 42, 43, 44, 14, 15, 16, 17, 19, 20, 21, 22, 12, 23, 45, 46, 47, 48, 49, 50, 51, 52, 53, 54, 55, 56, 57, 58, 59, 60, 61, 62, 63, 64, 65, 66, 67, 68, 69, 70, 71, 72, 73, 74, 75, 76, 77, 78, 79, 80, 81, 82, 83, 84, 85, 86, 87, 88, 89, 90, 91, 92, 93, 94, 95, 96, 97, 98, 99, 100, 101, 102, 103, 104, 105, 106, 107, 108, 109, 110, 111, 112, 113, 114, 152, 153, 154, 155, 146, 147, 148, 149, 150, 151, 156, 157, 158, 159, 160, 161, 162, 163] (by decide +kernel) (by decide +kernel)
set_option maxRecDepth 20000 in
theorem gX4_slice_X3_lay : GoodIn wsX4_slice (wsV RX4 128 RX3 yX3_lay wsX3_lay) := goodIn_app (goodIn_of _ (by decide +kernel)) ggX4_slice_X3_lay
set_option maxRecDepth 20000 in
theorem ggX4_slice_X2_isFree : GoodIn wsX4_slice wsX2_isFree := goodIn_r _ [36, 18, 146, 147, 148, 149, 150, 151] (by decide +kernel) (by decide +kernel)
set_option maxRecDepth 20000 in
theorem gX4_slice_X2_isFree : GoodIn wsX4_slice (wsV RX4 145 RX2 yX2_isFree wsX2_isFree) := goodIn_app (goodIn_of _ (by decide +kernel)) ggX4_slice_X2_isFree
set_option maxRecDepth 20000 in
theorem ggX4_slice_X3_beginOf : GoodIn wsX4_slice wsX3_beginOf := goodIn_r _ [119, 29, 32, 120, 121, 122, 123, 10, 124, 12, 125, 152, 153, 154, 155, 146, 147, 148, 149, 150, 151] (by decide +kernel) (by decide +kernel)
set_option maxRecDepth 20000 in
theorem gX4_slice_X3_beginOf : GoodIn wsX4_slice (wsV RX4 151 RX3 yX3_beginOf wsX3_beginOf) := goodIn_app (goodIn_of _ (by decide +kernel)) ggX4_slice_X3_beginOf
set_option maxRecDepth 20000 in
theorem ggX4_slice_X2_placeOf : GoodIn wsX4_slice wsX2_placeOf := goodIn_r _ [124, 12, 125, 146, 147, 148, 149, 150, 151] (by decide +kernel) (by decide +kernel)
set_option maxRecDepth 20000 in
theorem gX4_slice_X2_placeOf : GoodIn wsX4_slice (wsV RX4 154 RX2 yX2_placeOf wsX2_placeOf) := goodIn_app (goodIn_of _ (by decide +kernel)) ggX4_slice_X2_placeOf
set_option maxRecDepth 20000 in
theorem ggX4_slice_X3_fadeAt : GoodIn wsX4_slice wsX3_fadeAt := goodIn_r _ [130, 29, 31, 32, 120, 41, 131, 132, 100, 133, 152, 153, 154, 155, 146, 147, 148, 149, 150, 151] (by decide +kernel) (by decide +kernel)
set_option maxRecDepth 20000 in
theorem gX4_slice_X3_fadeAt : GoodIn wsX4_slice (wsV RX4 157 RX3 yX3_fadeAt wsX3_fadeAt) := goodIn_app (goodIn_of _ (by decide +kernel)) ggX4_slice_X3_fadeAt
set_option maxRecDepth 20000 in
theorem ggX4_slice_X2_loudestFrame : GoodIn wsX4_slice wsX2_loudestFrame := goodIn_r _ [137, 17, 138, 19, 20, 21, 10, 22, 12, 23, 146, 147, 148, 149, 150, 151] (by decide +kernel) (by decide +kernel)
set_option maxRecDepth 20000 in
theorem gX4_slice_X2_loudestFrame : GoodIn wsX4_slice (wsV RX4 160 RX2 yX2_loudestFrame wsX2_loudestFrame) := goodIn_app (goodIn_of _ (by decide +kernel)) ggX4_slice_X2_loudestFrame
theorem dX4_slice_0 : decode cX4_slice 0 = .ok (.aload_n 0, 1) := by decide +kernel
theorem dX4_slice_1 : decode cX4_slice 1 = .ok (.getfield 10, 3) := by decide +kernel
theorem dX4_slice_4 : decode cX4_slice 4 = .ok (.iload_n 1, 1) := by decide +kernel
theorem dX4_slice_5 : decode cX4_slice 5 = .ok (.invokevirtual 100, 3) := by decide +kernel
theorem dX4_slice_8 : decode cX4_slice 8 = .ok (.ifCond .ne 5, 3) := by decide +kernel
theorem dX4_slice_11 : decode cX4_slice 11 = .ok (.iconst (-1), 1) := by decide +kernel
theorem dX4_slice_12 : decode cX4_slice 12 = .ok (.ireturn, 1) := by decide +kernel
theorem dX4_slice_13 : decode cX4_slice 13 = .ok (.iload_n 2, 1) := by decide +kernel
theorem dX4_slice_14 : decode cX4_slice 14 = .ok (.tableswitch 198 0 7 #[46, 56, 65, 90, 125, 149, 158, 189], 46) := by decide +kernel
theorem dX4_slice_60 : decode cX4_slice 60 = .ok (.aload_n 0, 1) := by decide +kernel
theorem dX4_slice_61 : decode cX4_slice 61 = .ok (.getfield 10, 3) := by decide +kernel
theorem dX4_slice_64 : decode cX4_slice 64 = .ok (.getfield 83, 3) := by decide +kernel
theorem dX4_slice_67 : decode cX4_slice 67 = .ok (.iload_n 1, 1) := by decide +kernel
theorem dX4_slice_68 : decode cX4_slice 68 = .ok (.iaload, 1) := by decide +kernel
theorem dX4_slice_69 : decode cX4_slice 69 = .ok (.ireturn, 1) := by decide +kernel
theorem dX4_slice_70 : decode cX4_slice 70 = .ok (.aload_n 0, 1) := by decide +kernel
theorem dX4_slice_71 : decode cX4_slice 71 = .ok (.getfield 10, 3) := by decide +kernel
theorem dX4_slice_74 : decode cX4_slice 74 = .ok (.iload_n 1, 1) := by decide +kernel
theorem dX4_slice_75 : decode cX4_slice 75 = .ok (.invokevirtual 139, 3) := by decide +kernel
theorem dX4_slice_78 : decode cX4_slice 78 = .ok (.ireturn, 1) := by decide +kernel
theorem dX4_slice_79 : decode cX4_slice 79 = .ok (.aload_n 0, 1) := by decide +kernel
theorem dX4_slice_80 : decode cX4_slice 80 = .ok (.getfield 30, 3) := by decide +kernel
theorem dX4_slice_83 : decode cX4_slice 83 = .ok (.invokevirtual 128, 3) := by decide +kernel
theorem dX4_slice_86 : decode cX4_slice 86 = .ok (.ifCond .eq 15, 3) := by decide +kernel
theorem dX4_slice_89 : decode cX4_slice 89 = .ok (.aload_n 0, 1) := by decide +kernel
theorem dX4_slice_90 : decode cX4_slice 90 = .ok (.getfield 30, 3) := by decide +kernel
theorem dX4_slice_93 : decode cX4_slice 93 = .ok (.getfield 142, 3) := by decide +kernel
theorem dX4_slice_96 : decode cX4_slice 96 = .ok (.iload_n 1, 1) := by decide +kernel
theorem dX4_slice_97 : decode cX4_slice 97 = .ok (.iaload, 1) := by decide +kernel
theorem dX4_slice_98 : decode cX4_slice 98 = .ok (.goto 5, 3) := by decide +kernel
theorem dX4_slice_101 : decode cX4_slice 101 = .ok (.bipush (-9), 2) := by decide +kernel
theorem dX4_slice_103 : decode cX4_slice 103 = .ok (.ireturn, 1) := by decide +kernel
theorem dX4_slice_104 : decode cX4_slice 104 = .ok (.aload_n 0, 1) := by decide +kernel
theorem dX4_slice_105 : decode cX4_slice 105 = .ok (.getfield 10, 3) := by decide +kernel
theorem dX4_slice_108 : decode cX4_slice 108 = .ok (.invokevirtual 145, 3) := by decide +kernel
theorem dX4_slice_111 : decode cX4_slice 111 = .ok (.ifCond .ne 25, 3) := by decide +kernel
theorem dX4_slice_114 : decode cX4_slice 114 = .ok (.aload_n 0, 1) := by decide +kernel
theorem dX4_slice_115 : decode cX4_slice 115 = .ok (.getfield 30, 3) := by decide +kernel
theorem dX4_slice_118 : decode cX4_slice 118 = .ok (.invokevirtual 128, 3) := by decide +kernel
theorem dX4_slice_121 : decode cX4_slice 121 = .ok (.ifCond .eq 15, 3) := by decide +kernel
theorem dX4_slice_124 : decode cX4_slice 124 = .ok (.aload_n 0, 1) := by decide +kernel
theorem dX4_slice_125 : decode cX4_slice 125 = .ok (.getfield 21, 3) := by decide +kernel
theorem dX4_slice_128 : decode cX4_slice 128 = .ok (.getfield 148, 3) := by decide +kernel
theorem dX4_slice_131 : decode cX4_slice 131 = .ok (.iload_n 1, 1) := by decide +kernel
theorem dX4_slice_132 : decode cX4_slice 132 = .ok (.iaload, 1) := by decide +kernel
theorem dX4_slice_133 : decode cX4_slice 133 = .ok (.goto 5, 3) := by decide +kernel
theorem dX4_slice_136 : decode cX4_slice 136 = .ok (.bipush (-9), 2) := by decide +kernel
theorem dX4_slice_138 : decode cX4_slice 138 = .ok (.ireturn, 1) := by decide +kernel
theorem dX4_slice_139 : decode cX4_slice 139 = .ok (.aload_n 0, 1) := by decide +kernel
theorem dX4_slice_140 : decode cX4_slice 140 = .ok (.getfield 30, 3) := by decide +kernel
theorem dX4_slice_143 : decode cX4_slice 143 = .ok (.invokevirtual 128, 3) := by decide +kernel
theorem dX4_slice_146 : decode cX4_slice 146 = .ok (.ifCond .eq 14, 3) := by decide +kernel
theorem dX4_slice_149 : decode cX4_slice 149 = .ok (.aload_n 0, 1) := by decide +kernel
theorem dX4_slice_150 : decode cX4_slice 150 = .ok (.getfield 30, 3) := by decide +kernel
theorem dX4_slice_153 : decode cX4_slice 153 = .ok (.iload_n 1, 1) := by decide +kernel
theorem dX4_slice_154 : decode cX4_slice 154 = .ok (.invokevirtual 151, 3) := by decide +kernel
theorem dX4_slice_157 : decode cX4_slice 157 = .ok (.goto 5, 3) := by decide +kernel
theorem dX4_slice_160 : decode cX4_slice 160 = .ok (.bipush (-9), 2) := by decide +kernel
theorem dX4_slice_162 : decode cX4_slice 162 = .ok (.ireturn, 1) := by decide +kernel
theorem dX4_slice_163 : decode cX4_slice 163 = .ok (.aload_n 0, 1) := by decide +kernel
theorem dX4_slice_164 : decode cX4_slice 164 = .ok (.getfield 10, 3) := by decide +kernel
theorem dX4_slice_167 : decode cX4_slice 167 = .ok (.iload_n 1, 1) := by decide +kernel
theorem dX4_slice_168 : decode cX4_slice 168 = .ok (.invokevirtual 154, 3) := by decide +kernel
theorem dX4_slice_171 : decode cX4_slice 171 = .ok (.ireturn, 1) := by decide +kernel
theorem dX4_slice_172 : decode cX4_slice 172 = .ok (.aload_n 0, 1) := by decide +kernel
theorem dX4_slice_173 : decode cX4_slice 173 = .ok (.getfield 30, 3) := by decide +kernel
theorem dX4_slice_176 : decode cX4_slice 176 = .ok (.invokevirtual 128, 3) := by decide +kernel
theorem dX4_slice_179 : decode cX4_slice 179 = .ok (.ifCond .eq 21, 3) := by decide +kernel
theorem dX4_slice_182 : decode cX4_slice 182 = .ok (.aload_n 0, 1) := by decide +kernel
theorem dX4_slice_183 : decode cX4_slice 183 = .ok (.getfield 30, 3) := by decide +kernel
theorem dX4_slice_186 : decode cX4_slice 186 = .ok (.aload_n 0, 1) := by decide +kernel
theorem dX4_slice_187 : decode cX4_slice 187 = .ok (.getfield 10, 3) := by decide +kernel
theorem dX4_slice_190 : decode cX4_slice 190 = .ok (.iload_n 1, 1) := by decide +kernel
theorem dX4_slice_191 : decode cX4_slice 191 = .ok (.invokevirtual 154, 3) := by decide +kernel
theorem dX4_slice_194 : decode cX4_slice 194 = .ok (.invokevirtual 157, 3) := by decide +kernel
theorem dX4_slice_197 : decode cX4_slice 197 = .ok (.goto 5, 3) := by decide +kernel
theorem dX4_slice_200 : decode cX4_slice 200 = .ok (.bipush (-9), 2) := by decide +kernel
theorem dX4_slice_202 : decode cX4_slice 202 = .ok (.ireturn, 1) := by decide +kernel
theorem dX4_slice_203 : decode cX4_slice 203 = .ok (.aload_n 0, 1) := by decide +kernel
theorem dX4_slice_204 : decode cX4_slice 204 = .ok (.getfield 10, 3) := by decide +kernel
theorem dX4_slice_207 : decode cX4_slice 207 = .ok (.iload_n 1, 1) := by decide +kernel
theorem dX4_slice_208 : decode cX4_slice 208 = .ok (.invokevirtual 160, 3) := by decide +kernel
theorem dX4_slice_211 : decode cX4_slice 211 = .ok (.ireturn, 1) := by decide +kernel
theorem dX4_slice_212 : decode cX4_slice 212 = .ok (.iconst (-1), 1) := by decide +kernel
theorem dX4_slice_213 : decode cX4_slice 213 = .ok (.ireturn, 1) := by decide +kernel
set_option maxRecDepth 20000 in
theorem ggX4_order_X2_isSlice : GoodIn wsX4_order wsX2_isSlice := goodIn_r _ [7, 8, 16, 17, 18, 19, 20, 21] (by decide +kernel) (by decide +kernel)
set_option maxRecDepth 20000 in
theorem gX4_order_X2_isSlice : GoodIn wsX4_order (wsV RX4 100 RX2 yX2_isSlice wsX2_isSlice) := goodIn_app (goodIn_of _ (by decide +kernel)) ggX4_order_X2_isSlice
theorem dX4_order_0 : decode cX4_order 0 = .ok (.aload_n 0, 1) := by decide +kernel
theorem dX4_order_1 : decode cX4_order 1 = .ok (.getfield 10, 3) := by decide +kernel
theorem dX4_order_4 : decode cX4_order 4 = .ok (.iload_n 1, 1) := by decide +kernel
theorem dX4_order_5 : decode cX4_order 5 = .ok (.invokevirtual 100, 3) := by decide +kernel
theorem dX4_order_8 : decode cX4_order 8 = .ok (.ifCond .eq 15, 3) := by decide +kernel
theorem dX4_order_11 : decode cX4_order 11 = .ok (.aload_n 0, 1) := by decide +kernel
theorem dX4_order_12 : decode cX4_order 12 = .ok (.getfield 10, 3) := by decide +kernel
theorem dX4_order_15 : decode cX4_order 15 = .ok (.getfield 119, 3) := by decide +kernel
theorem dX4_order_18 : decode cX4_order 18 = .ok (.iload_n 1, 1) := by decide +kernel
theorem dX4_order_19 : decode cX4_order 19 = .ok (.iaload, 1) := by decide +kernel
theorem dX4_order_20 : decode cX4_order 20 = .ok (.goto 4, 3) := by decide +kernel
theorem dX4_order_23 : decode cX4_order 23 = .ok (.iconst (-1), 1) := by decide +kernel
theorem dX4_order_24 : decode cX4_order 24 = .ok (.ireturn, 1) := by decide +kernel
set_option maxRecDepth 20000 in
theorem ggX4_source_X3_lay : GoodIn wsX4_source wsX3_lay := goodIn_r _ [11, 12, 13, 14, 15, 16, 17, 18, 19, 20, 21, 22, 23, 24, 10, 25, 26, 27, 28, 29, 30, 31, 32, 33, 34, 35, 36, 37, 38, 39, 40, 41, 42, 43, 44, 45, 46, 47, 48, 49, 50, 51, 52, 53, 54, 55, 56, 57, 58, 59, 60, 61, 62, 63, 64, 65, 66, 67, 68, 69, 70, 71, 72, 73, 74, 75, 76, 77, 78, 79, 80, 81, 82, 83, 84, 85, 86, 87, 88, 89, 90, 91, 92, 93, 94, 95, 96, 97, 98, 99, 100, 101, 102, 103, 104, 105, 106, 107, 108, 109, 140, 141, 142, 143, 134, 135, 136, 137, 138, 139, 144, 145, 146, 147, 148, 149, 150, 151] (by decide +kernel) (by decide +kernel)
set_option maxRecDepth 20000 in
theorem gX4_source_X3_lay : GoodIn wsX4_source (wsV RX4 128 RX3 yX3_lay wsX3_lay) := goodIn_app (goodIn_of _ (by decide +kernel)) ggX4_source_X3_lay
set_option maxRecDepth 20000 in
theorem ggX4_source_X3_originOf : GoodIn wsX4_source wsX3_originOf := goodIn_r _ [113, 12, 114, 115, 26, 15, 116, 117, 118, 10, 119, 29, 30, 31, 19, 32, 33, 21, 34, 35, 36, 37, 38, 39, 120, 121, 122, 123, 14, 124, 125, 95, 126, 140, 141, 142, 143, 134, 135, 136, 137, 138, 139] (by decide +kernel) (by decide +kernel)
set_option maxRecDepth 20000 in
theorem gX4_source_X3_originOf : GoodIn wsX4_source (wsV RX4 163 RX3 yX3_originOf wsX3_originOf) := goodIn_app (goodIn_of _ (by decide +kernel)) ggX4_source_X3_originOf
theorem dX4_source_0 : decode cX4_source 0 = .ok (.iload_n 1, 1) := by decide +kernel
theorem dX4_source_1 : decode cX4_source 1 = .ok (.ifCond .lt 25, 3) := by decide +kernel
theorem dX4_source_4 : decode cX4_source 4 = .ok (.iload_n 1, 1) := by decide +kernel
theorem dX4_source_5 : decode cX4_source 5 = .ok (.aload_n 0, 1) := by decide +kernel
theorem dX4_source_6 : decode cX4_source 6 = .ok (.getfield 10, 3) := by decide +kernel
theorem dX4_source_9 : decode cX4_source 9 = .ok (.getfield 80, 3) := by decide +kernel
theorem dX4_source_12 : decode cX4_source 12 = .ok (.iconst 5, 1) := by decide +kernel
theorem dX4_source_13 : decode cX4_source 13 = .ok (.iaload, 1) := by decide +kernel
theorem dX4_source_14 : decode cX4_source 14 = .ok (.if_icmp .ge 12, 3) := by decide +kernel
theorem dX4_source_17 : decode cX4_source 17 = .ok (.iload_n 2, 1) := by decide +kernel
theorem dX4_source_18 : decode cX4_source 18 = .ok (.ifCond .lt 8, 3) := by decide +kernel
theorem dX4_source_21 : decode cX4_source 21 = .ok (.iload_n 2, 1) := by decide +kernel
theorem dX4_source_22 : decode cX4_source 22 = .ok (.iconst 2, 1) := by decide +kernel
theorem dX4_source_23 : decode cX4_source 23 = .ok (.if_icmp .le 5, 3) := by decide +kernel
theorem dX4_source_26 : decode cX4_source 26 = .ok (.iconst (-1), 1) := by decide +kernel
theorem dX4_source_27 : decode cX4_source 27 = .ok (.ireturn, 1) := by decide +kernel
theorem dX4_source_28 : decode cX4_source 28 = .ok (.aload_n 0, 1) := by decide +kernel
theorem dX4_source_29 : decode cX4_source 29 = .ok (.getfield 30, 3) := by decide +kernel
theorem dX4_source_32 : decode cX4_source 32 = .ok (.invokevirtual 128, 3) := by decide +kernel
theorem dX4_source_35 : decode cX4_source 35 = .ok (.ifCond .ne 6, 3) := by decide +kernel
theorem dX4_source_38 : decode cX4_source 38 = .ok (.bipush (-9), 2) := by decide +kernel
theorem dX4_source_40 : decode cX4_source 40 = .ok (.ireturn, 1) := by decide +kernel
theorem dX4_source_41 : decode cX4_source 41 = .ok (.iload_n 1, 1) := by decide +kernel
theorem dX4_source_42 : decode cX4_source 42 = .ok (.istore_n 3, 1) := by decide +kernel
theorem dX4_source_43 : decode cX4_source 43 = .ok (.iconst 0, 1) := by decide +kernel
theorem dX4_source_44 : decode cX4_source 44 = .ok (.istore 4, 2) := by decide +kernel
theorem dX4_source_46 : decode cX4_source 46 = .ok (.iload 4, 2) := by decide +kernel
theorem dX4_source_48 : decode cX4_source 48 = .ok (.aload_n 0, 1) := by decide +kernel
theorem dX4_source_49 : decode cX4_source 49 = .ok (.getfield 10, 3) := by decide +kernel
theorem dX4_source_52 : decode cX4_source 52 = .ok (.getfield 90, 3) := by decide +kernel
theorem dX4_source_55 : decode cX4_source 55 = .ok (.if_icmp .ge 52, 3) := by decide +kernel
theorem dX4_source_58 : decode cX4_source 58 = .ok (.aload_n 0, 1) := by decide +kernel
theorem dX4_source_59 : decode cX4_source 59 = .ok (.getfield 30, 3) := by decide +kernel
theorem dX4_source_62 : decode cX4_source 62 = .ok (.getfield 142, 3) := by decide +kernel
theorem dX4_source_65 : decode cX4_source 65 = .ok (.aload_n 0, 1) := by decide +kernel
theorem dX4_source_66 : decode cX4_source 66 = .ok (.getfield 10, 3) := by decide +kernel
theorem dX4_source_69 : decode cX4_source 69 = .ok (.getfield 119, 3) := by decide +kernel
theorem dX4_source_72 : decode cX4_source 72 = .ok (.iload 4, 2) := by decide +kernel
theorem dX4_source_74 : decode cX4_source 74 = .ok (.iaload, 1) := by decide +kernel
theorem dX4_source_75 : decode cX4_source 75 = .ok (.iaload, 1) := by decide +kernel
theorem dX4_source_76 : decode cX4_source 76 = .ok (.istore 5, 2) := by decide +kernel
theorem dX4_source_78 : decode cX4_source 78 = .ok (.iload_n 3, 1) := by decide +kernel
theorem dX4_source_79 : decode cX4_source 79 = .ok (.iload 5, 2) := by decide +kernel
theorem dX4_source_81 : decode cX4_source 81 = .ok (.if_icmp .ge 15, 3) := by decide +kernel
theorem dX4_source_84 : decode cX4_source 84 = .ok (.aload_n 0, 1) := by decide +kernel
theorem dX4_source_85 : decode cX4_source 85 = .ok (.getfield 30, 3) := by decide +kernel
theorem dX4_source_88 : decode cX4_source 88 = .ok (.iload 4, 2) := by decide +kernel
theorem dX4_source_90 : decode cX4_source 90 = .ok (.iload_n 3, 1) := by decide +kernel
theorem dX4_source_91 : decode cX4_source 91 = .ok (.iload_n 2, 1) := by decide +kernel
theorem dX4_source_92 : decode cX4_source 92 = .ok (.invokevirtual 163, 3) := by decide +kernel
theorem dX4_source_95 : decode cX4_source 95 = .ok (.ireturn, 1) := by decide +kernel
theorem dX4_source_96 : decode cX4_source 96 = .ok (.iload_n 3, 1) := by decide +kernel
theorem dX4_source_97 : decode cX4_source 97 = .ok (.iload 5, 2) := by decide +kernel
theorem dX4_source_99 : decode cX4_source 99 = .ok (.isub, 1) := by decide +kernel
theorem dX4_source_100 : decode cX4_source 100 = .ok (.istore_n 3, 1) := by decide +kernel
theorem dX4_source_101 : decode cX4_source 101 = .ok (.iinc 4 1, 3) := by decide +kernel
theorem dX4_source_104 : decode cX4_source 104 = .ok (.goto (-58), 3) := by decide +kernel
theorem dX4_source_107 : decode cX4_source 107 = .ok (.bipush (-9), 2) := by decide +kernel
theorem dX4_source_109 : decode cX4_source 109 = .ok (.ireturn, 1) := by decide +kernel
set_option maxRecDepth 20000 in
theorem ggX4_warp_X2_isSlice : GoodIn wsX4_warp wsX2_isSlice := goodIn_r _ [10, 11, 125, 126, 127, 128, 129, 130] (by decide +kernel) (by decide +kernel)
set_option maxRecDepth 20000 in
theorem gX4_warp_X2_isSlice : GoodIn wsX4_warp (wsV RX4 100 RX2 yX2_isSlice wsX2_isSlice) := goodIn_app (goodIn_of _ (by decide +kernel)) ggX4_warp_X2_isSlice
set_option maxRecDepth 20000 in
theorem ggX4_warp_X3_lay : GoodIn wsX4_warp wsX3_lay := goodIn_r _ [16, 17, 18, 19, 20, 21, 22, 23, 9, 24, 25, 26, 27, 28, 15, 29, 30, 31, 32, 33, 34, 35, 36, 37, 38, 39, 40, 41, 11, 42, 43, 44, 45, 46, 47, 48, 49, 50, 51, 52, 53, 54, 55, 56, 57, 58, 59, 60, 61, 62, 63, 64, 65, 66, 67, 68, 69, 70, 71, 72, 73, 74, 75, 76, 77, 78, 79, 80, 81, 82, 83, 84, 85, 86, 87, 88, 89, 90, 91, 92, 93, 94, 95, 96, 97, 98, 99, 100, 101, 102, 103, 104, 105, 106, 107, 108, 109, 110, 111, 112, 121, 122, 123, 124, 125, 126, 127, 128, 129, 130, 131, 132, 133, 134, 135, 136, 137, 138] (by decide +kernel) (by decide +kernel)
set_option maxRecDepth 20000 in
theorem gX4_warp_X3_lay : GoodIn wsX4_warp (wsV RX4 128 RX3 yX3_lay wsX3_lay) := goodIn_app (goodIn_of _ (by decide +kernel)) ggX4_warp_X3_lay
set_option maxRecDepth 20000 in
theorem ggX4_warp_X2_lengthOf : GoodIn wsX4_warp wsX2_lengthOf := goodIn_r _ [36, 37, 25, 38, 39, 40, 9, 41, 11, 42, 125, 126, 127, 128, 129, 130] (by decide +kernel) (by decide +kernel)
set_option maxRecDepth 20000 in
theorem gX4_warp_X2_lengthOf : GoodIn wsX4_warp (wsV RX4 139 RX2 yX2_lengthOf wsX2_lengthOf) := goodIn_app (goodIn_of _ (by decide +kernel)) ggX4_warp_X2_lengthOf
theorem dX4_warp_0 : decode cX4_warp 0 = .ok (.aload_n 0, 1) := by decide +kernel
theorem dX4_warp_1 : decode cX4_warp 1 = .ok (.getfield 10, 3) := by decide +kernel
theorem dX4_warp_4 : decode cX4_warp 4 = .ok (.iload_n 1, 1) := by decide +kernel
theorem dX4_warp_5 : decode cX4_warp 5 = .ok (.invokevirtual 100, 3) := by decide +kernel
theorem dX4_warp_8 : decode cX4_warp 8 = .ok (.ifCond .ne 6, 3) := by decide +kernel
theorem dX4_warp_11 : decode cX4_warp 11 = .ok (.ldc 167, 2) := by decide +kernel
theorem dX4_warp_13 : decode cX4_warp 13 = .ok (.freturn, 1) := by decide +kernel
theorem dX4_warp_14 : decode cX4_warp 14 = .ok (.aload_n 0, 1) := by decide +kernel
theorem dX4_warp_15 : decode cX4_warp 15 = .ok (.getfield 30, 3) := by decide +kernel
theorem dX4_warp_18 : decode cX4_warp 18 = .ok (.invokevirtual 128, 3) := by decide +kernel
theorem dX4_warp_21 : decode cX4_warp 21 = .ok (.ifCond .ne 6, 3) := by decide +kernel
theorem dX4_warp_24 : decode cX4_warp 24 = .ok (.ldc 168, 2) := by decide +kernel
theorem dX4_warp_26 : decode cX4_warp 26 = .ok (.freturn, 1) := by decide +kernel
theorem dX4_warp_27 : decode cX4_warp 27 = .ok (.aload_n 0, 1) := by decide +kernel
theorem dX4_warp_28 : decode cX4_warp 28 = .ok (.getfield 30, 3) := by decide +kernel
theorem dX4_warp_31 : decode cX4_warp 31 = .ok (.getfield 142, 3) := by decide +kernel
theorem dX4_warp_34 : decode cX4_warp 34 = .ok (.iload_n 1, 1) := by decide +kernel
theorem dX4_warp_35 : decode cX4_warp 35 = .ok (.iaload, 1) := by decide +kernel
theorem dX4_warp_36 : decode cX4_warp 36 = .ok (.i2f, 1) := by decide +kernel
theorem dX4_warp_37 : decode cX4_warp 37 = .ok (.aload_n 0, 1) := by decide +kernel
theorem dX4_warp_38 : decode cX4_warp 38 = .ok (.getfield 10, 3) := by decide +kernel
theorem dX4_warp_41 : decode cX4_warp 41 = .ok (.iload_n 1, 1) := by decide +kernel
theorem dX4_warp_42 : decode cX4_warp 42 = .ok (.invokevirtual 139, 3) := by decide +kernel
theorem dX4_warp_45 : decode cX4_warp 45 = .ok (.i2f, 1) := by decide +kernel
theorem dX4_warp_46 : decode cX4_warp 46 = .ok (.fdiv, 1) := by decide +kernel
theorem dX4_warp_47 : decode cX4_warp 47 = .ok (.freturn, 1) := by decide +kernel
set_option maxRecDepth 20000 in
theorem ggX4_shift_X0_leastSum : GoodIn wsX4_shift wsX0_leastSum := goodIn_r _ [9, 10, 11, 12, 13, 14, 15, 16, 17, 8, 18, 19, 20, 21, 22, 23, 24, 25, 26, 27, 28, 29, 30, 31, 32, 33, 34, 35, 36, 37, 38, 39, 40, 41, 42, 43, 44, 45, 46, 47, 48, 49, 50, 51, 52, 53, 54, 55, 56, 57, 58, 59, 60, 61, 62, 63, 64, 65, 66, 67, 68, 69, 70, 71, 85, 86, 87, 88, 89, 90, 91, 92, 79, 80, 81, 82, 83, 84] (by decide +kernel) (by decide +kernel)
set_option maxRecDepth 20000 in
theorem gX4_shift_X0_leastSum : GoodIn wsX4_shift (wsV RX4 169 RX0 yX0_leastSum wsX0_leastSum) := goodIn_app (goodIn_of _ (by decide +kernel)) ggX4_shift_X0_leastSum
theorem dX4_shift_0 : decode cX4_shift 0 = .ok (.aload_n 0, 1) := by decide +kernel
theorem dX4_shift_1 : decode cX4_shift 1 = .ok (.getfield 21, 3) := by decide +kernel
theorem dX4_shift_4 : decode cX4_shift 4 = .ok (.aload_n 0, 1) := by decide +kernel
theorem dX4_shift_5 : decode cX4_shift 5 = .ok (.getfield 10, 3) := by decide +kernel
theorem dX4_shift_8 : decode cX4_shift 8 = .ok (.getfield 80, 3) := by decide +kernel
theorem dX4_shift_11 : decode cX4_shift 11 = .ok (.iconst 5, 1) := by decide +kernel
theorem dX4_shift_12 : decode cX4_shift 12 = .ok (.iaload, 1) := by decide +kernel
theorem dX4_shift_13 : decode cX4_shift 13 = .ok (.aload_n 0, 1) := by decide +kernel
theorem dX4_shift_14 : decode cX4_shift 14 = .ok (.getfield 10, 3) := by decide +kernel
theorem dX4_shift_17 : decode cX4_shift 17 = .ok (.getfield 80, 3) := by decide +kernel
theorem dX4_shift_20 : decode cX4_shift 20 = .ok (.bipush 6, 2) := by decide +kernel
theorem dX4_shift_22 : decode cX4_shift 22 = .ok (.iaload, 1) := by decide +kernel
theorem dX4_shift_23 : decode cX4_shift 23 = .ok (.invokevirtual 169, 3) := by decide +kernel
theorem dX4_shift_26 : decode cX4_shift 26 = .ok (.istore_n 1, 1) := by decide +kernel
theorem dX4_shift_27 : decode cX4_shift 27 = .ok (.iload_n 1, 1) := by decide +kernel
theorem dX4_shift_28 : decode cX4_shift 28 = .ok (.iconst (-1), 1) := by decide +kernel
theorem dX4_shift_29 : decode cX4_shift 29 = .ok (.if_icmp .ne 8, 3) := by decide +kernel
theorem dX4_shift_32 : decode cX4_shift 32 = .ok (.bipush (-9), 2) := by decide +kernel
theorem dX4_shift_34 : decode cX4_shift 34 = .ok (.goto 12, 3) := by decide +kernel
theorem dX4_shift_37 : decode cX4_shift 37 = .ok (.iload_n 1, 1) := by decide +kernel
theorem dX4_shift_38 : decode cX4_shift 38 = .ok (.aload_n 0, 1) := by decide +kernel
theorem dX4_shift_39 : decode cX4_shift 39 = .ok (.getfield 10, 3) := by decide +kernel
theorem dX4_shift_42 : decode cX4_shift 42 = .ok (.getfield 56, 3) := by decide +kernel
theorem dX4_shift_45 : decode cX4_shift 45 = .ok (.idiv, 1) := by decide +kernel
theorem dX4_shift_46 : decode cX4_shift 46 = .ok (.ireturn, 1) := by decide +kernel
set_option maxRecDepth 20000 in
theorem ggX4_leastGrid_X0_canLay : GoodIn wsX4_leastGrid wsX0_canLay := goodIn_r _ [8, 9, 10, 11, 7, 12, 13, 14, 15, 16, 17, 18, 19, 20, 21, 22, 23, 24, 25, 26, 27, 28, 29, 30, 31, 32, 33, 34, 35, 36, 37, 38, 39, 40, 41, 42, 43, 44, 45, 46, 47, 48, 49, 50, 51, 52, 53, 54, 55, 56, 57, 58, 59, 60, 61, 62, 63, 64, 65, 66, 67, 68, 69, 70, 71, 72, 73, 74, 88, 89, 90, 91, 92, 93, 94, 95, 82, 83, 84, 85, 86, 87] (by decide +kernel) (by decide +kernel)
set_option maxRecDepth 20000 in
theorem gX4_leastGrid_X0_canLay : GoodIn wsX4_leastGrid (wsV RX4 173 RX0 yX0_canLay wsX0_canLay) := goodIn_app (goodIn_of _ (by decide +kernel)) ggX4_leastGrid_X0_canLay
theorem dX4_leastGrid_0 : decode cX4_leastGrid 0 = .ok (.iconst 1, 1) := by decide +kernel
theorem dX4_leastGrid_1 : decode cX4_leastGrid 1 = .ok (.istore_n 1, 1) := by decide +kernel
theorem dX4_leastGrid_2 : decode cX4_leastGrid 2 = .ok (.iload_n 1, 1) := by decide +kernel
theorem dX4_leastGrid_3 : decode cX4_leastGrid 3 = .ok (.bipush 32, 2) := by decide +kernel
theorem dX4_leastGrid_5 : decode cX4_leastGrid 5 = .ok (.if_icmp .gt 31, 3) := by decide +kernel
theorem dX4_leastGrid_8 : decode cX4_leastGrid 8 = .ok (.aload_n 0, 1) := by decide +kernel
theorem dX4_leastGrid_9 : decode cX4_leastGrid 9 = .ok (.getfield 21, 3) := by decide +kernel
theorem dX4_leastGrid_12 : decode cX4_leastGrid 12 = .ok (.aload_n 0, 1) := by decide +kernel
theorem dX4_leastGrid_13 : decode cX4_leastGrid 13 = .ok (.getfield 10, 3) := by decide +kernel
theorem dX4_leastGrid_16 : decode cX4_leastGrid 16 = .ok (.getfield 80, 3) := by decide +kernel
theorem dX4_leastGrid_19 : decode cX4_leastGrid 19 = .ok (.iconst 5, 1) := by decide +kernel
theorem dX4_leastGrid_20 : decode cX4_leastGrid 20 = .ok (.iaload, 1) := by decide +kernel
theorem dX4_leastGrid_21 : decode cX4_leastGrid 21 = .ok (.iload_n 1, 1) := by decide +kernel
theorem dX4_leastGrid_22 : decode cX4_leastGrid 22 = .ok (.invokevirtual 173, 3) := by decide +kernel
theorem dX4_leastGrid_25 : decode cX4_leastGrid 25 = .ok (.ifCond .eq 5, 3) := by decide +kernel
theorem dX4_leastGrid_28 : decode cX4_leastGrid 28 = .ok (.iload_n 1, 1) := by decide +kernel
theorem dX4_leastGrid_29 : decode cX4_leastGrid 29 = .ok (.ireturn, 1) := by decide +kernel
theorem dX4_leastGrid_30 : decode cX4_leastGrid 30 = .ok (.iinc 1 1, 3) := by decide +kernel
theorem dX4_leastGrid_33 : decode cX4_leastGrid 33 = .ok (.goto (-31), 3) := by decide +kernel
theorem dX4_leastGrid_36 : decode cX4_leastGrid 36 = .ok (.bipush (-9), 2) := by decide +kernel
theorem dX4_leastGrid_38 : decode cX4_leastGrid 38 = .ok (.ireturn, 1) := by decide +kernel
set_option maxRecDepth 20000 in
theorem ggX4_nearTarget_X0_canLay : GoodIn wsX4_nearTarget wsX0_canLay := goodIn_r _ [9, 10, 11, 12, 8, 13, 14, 15, 16, 17, 18, 19, 20, 21, 22, 23, 24, 25, 26, 27, 28, 29, 30, 31, 32, 33, 34, 35, 36, 37, 38, 39, 40, 41, 42, 43, 44, 45, 46, 47, 48, 49, 50, 51, 52, 53, 54, 55, 56, 57, 58, 59, 60, 61, 62, 63, 64, 65, 66, 67, 68, 69, 70, 71, 72, 73, 74, 75, 89, 90, 91, 92, 93, 94, 95, 96, 83, 84, 85, 86, 87, 88] (by decide +kernel) (by decide +kernel)
set_option maxRecDepth 20000 in
theorem gX4_nearTarget_X0_canLay : GoodIn wsX4_nearTarget (wsV RX4 173 RX0 yX0_canLay wsX0_canLay) := goodIn_app (goodIn_of _ (by decide +kernel)) ggX4_nearTarget_X0_canLay
theorem dX4_nearTarget_0 : decode cX4_nearTarget 0 = .ok (.iload_n 1, 1) := by decide +kernel
theorem dX4_nearTarget_1 : decode cX4_nearTarget 1 = .ok (.ifCond .lt 10, 3) := by decide +kernel
theorem dX4_nearTarget_4 : decode cX4_nearTarget 4 = .ok (.iload_n 1, 1) := by decide +kernel
theorem dX4_nearTarget_5 : decode cX4_nearTarget 5 = .ok (.sipush 200, 3) := by decide +kernel
theorem dX4_nearTarget_8 : decode cX4_nearTarget 8 = .ok (.if_icmp .le 5, 3) := by decide +kernel
theorem dX4_nearTarget_11 : decode cX4_nearTarget 11 = .ok (.iconst (-1), 1) := by decide +kernel
theorem dX4_nearTarget_12 : decode cX4_nearTarget 12 = .ok (.ireturn, 1) := by decide +kernel
theorem dX4_nearTarget_13 : decode cX4_nearTarget 13 = .ok (.iconst 0, 1) := by decide +kernel
theorem dX4_nearTarget_14 : decode cX4_nearTarget 14 = .ok (.istore_n 2, 1) := by decide +kernel
theorem dX4_nearTarget_15 : decode cX4_nearTarget 15 = .ok (.iload_n 2, 1) := by decide +kernel
theorem dX4_nearTarget_16 : decode cX4_nearTarget 16 = .ok (.iload_n 1, 1) := by decide +kernel
theorem dX4_nearTarget_17 : decode cX4_nearTarget 17 = .ok (.if_icmp .gt 94, 3) := by decide +kernel
theorem dX4_nearTarget_20 : decode cX4_nearTarget 20 = .ok (.aload_n 0, 1) := by decide +kernel
theorem dX4_nearTarget_21 : decode cX4_nearTarget 21 = .ok (.getfield 10, 3) := by decide +kernel
theorem dX4_nearTarget_24 : decode cX4_nearTarget 24 = .ok (.getfield 80, 3) := by decide +kernel
theorem dX4_nearTarget_27 : decode cX4_nearTarget 27 = .ok (.iconst 5, 1) := by decide +kernel
theorem dX4_nearTarget_28 : decode cX4_nearTarget 28 = .ok (.iaload, 1) := by decide +kernel
theorem dX4_nearTarget_29 : decode cX4_nearTarget 29 = .ok (.iload_n 2, 1) := by decide +kernel
theorem dX4_nearTarget_30 : decode cX4_nearTarget 30 = .ok (.isub, 1) := by decide +kernel
theorem dX4_nearTarget_31 : decode cX4_nearTarget 31 = .ok (.istore_n 3, 1) := by decide +kernel
theorem dX4_nearTarget_32 : decode cX4_nearTarget 32 = .ok (.iload_n 3, 1) := by decide +kernel
theorem dX4_nearTarget_33 : decode cX4_nearTarget 33 = .ok (.iconst 1, 1) := by decide +kernel
theorem dX4_nearTarget_34 : decode cX4_nearTarget 34 = .ok (.if_icmp .lt 26, 3) := by decide +kernel
theorem dX4_nearTarget_37 : decode cX4_nearTarget 37 = .ok (.aload_n 0, 1) := by decide +kernel
theorem dX4_nearTarget_38 : decode cX4_nearTarget 38 = .ok (.getfield 21, 3) := by decide +kernel
theorem dX4_nearTarget_41 : decode cX4_nearTarget 41 = .ok (.iload_n 3, 1) := by decide +kernel
theorem dX4_nearTarget_42 : decode cX4_nearTarget 42 = .ok (.aload_n 0, 1) := by decide +kernel
theorem dX4_nearTarget_43 : decode cX4_nearTarget 43 = .ok (.getfield 10, 3) := by decide +kernel
theorem dX4_nearTarget_46 : decode cX4_nearTarget 46 = .ok (.getfield 80, 3) := by decide +kernel
theorem dX4_nearTarget_49 : decode cX4_nearTarget 49 = .ok (.bipush 6, 2) := by decide +kernel
theorem dX4_nearTarget_51 : decode cX4_nearTarget 51 = .ok (.iaload, 1) := by decide +kernel
theorem dX4_nearTarget_52 : decode cX4_nearTarget 52 = .ok (.invokevirtual 173, 3) := by decide +kernel
theorem dX4_nearTarget_55 : decode cX4_nearTarget 55 = .ok (.ifCond .eq 5, 3) := by decide +kernel
theorem dX4_nearTarget_58 : decode cX4_nearTarget 58 = .ok (.iload_n 3, 1) := by decide +kernel
theorem dX4_nearTarget_59 : decode cX4_nearTarget 59 = .ok (.ireturn, 1) := by decide +kernel
theorem dX4_nearTarget_60 : decode cX4_nearTarget 60 = .ok (.aload_n 0, 1) := by decide +kernel
theorem dX4_nearTarget_61 : decode cX4_nearTarget 61 = .ok (.getfield 10, 3) := by decide +kernel
theorem dX4_nearTarget_64 : decode cX4_nearTarget 64 = .ok (.getfield 80, 3) := by decide +kernel
theorem dX4_nearTarget_67 : decode cX4_nearTarget 67 = .ok (.iconst 5, 1) := by decide +kernel
theorem dX4_nearTarget_68 : decode cX4_nearTarget 68 = .ok (.iaload, 1) := by decide +kernel
theorem dX4_nearTarget_69 : decode cX4_nearTarget 69 = .ok (.iload_n 2, 1) := by decide +kernel
theorem dX4_nearTarget_70 : decode cX4_nearTarget 70 = .ok (.iadd, 1) := by decide +kernel
theorem dX4_nearTarget_71 : decode cX4_nearTarget 71 = .ok (.istore 4, 2) := by decide +kernel
theorem dX4_nearTarget_73 : decode cX4_nearTarget 73 = .ok (.iload 4, 2) := by decide +kernel
theorem dX4_nearTarget_75 : decode cX4_nearTarget 75 = .ok (.ldc 177, 2) := by decide +kernel
theorem dX4_nearTarget_77 : decode cX4_nearTarget 77 = .ok (.if_icmp .gt 28, 3) := by decide +kernel
theorem dX4_nearTarget_80 : decode cX4_nearTarget 80 = .ok (.aload_n 0, 1) := by decide +kernel
theorem dX4_nearTarget_81 : decode cX4_nearTarget 81 = .ok (.getfield 21, 3) := by decide +kernel
theorem dX4_nearTarget_84 : decode cX4_nearTarget 84 = .ok (.iload 4, 2) := by decide +kernel
theorem dX4_nearTarget_86 : decode cX4_nearTarget 86 = .ok (.aload_n 0, 1) := by decide +kernel
theorem dX4_nearTarget_87 : decode cX4_nearTarget 87 = .ok (.getfield 10, 3) := by decide +kernel
theorem dX4_nearTarget_90 : decode cX4_nearTarget 90 = .ok (.getfield 80, 3) := by decide +kernel
theorem dX4_nearTarget_93 : decode cX4_nearTarget 93 = .ok (.bipush 6, 2) := by decide +kernel
theorem dX4_nearTarget_95 : decode cX4_nearTarget 95 = .ok (.iaload, 1) := by decide +kernel
theorem dX4_nearTarget_96 : decode cX4_nearTarget 96 = .ok (.invokevirtual 173, 3) := by decide +kernel
theorem dX4_nearTarget_99 : decode cX4_nearTarget 99 = .ok (.ifCond .eq 6, 3) := by decide +kernel
theorem dX4_nearTarget_102 : decode cX4_nearTarget 102 = .ok (.iload 4, 2) := by decide +kernel
theorem dX4_nearTarget_104 : decode cX4_nearTarget 104 = .ok (.ireturn, 1) := by decide +kernel
theorem dX4_nearTarget_105 : decode cX4_nearTarget 105 = .ok (.iinc 2 1, 3) := by decide +kernel
theorem dX4_nearTarget_108 : decode cX4_nearTarget 108 = .ok (.goto (-93), 3) := by decide +kernel
theorem dX4_nearTarget_111 : decode cX4_nearTarget 111 = .ok (.bipush (-9), 2) := by decide +kernel
theorem dX4_nearTarget_113 : decode cX4_nearTarget 113 = .ok (.ireturn, 1) := by decide +kernel
set_option maxRecDepth 20000 in
theorem ggX4_marksWith_X2_findRises : GoodIn wsX4_marksWith wsX2_findRises := goodIn_r _ [7, 8, 9, 10, 18, 19, 20, 21, 22, 23] (by decide +kernel) (by decide +kernel)
set_option maxRecDepth 20000 in
theorem gX4_marksWith_X2_findRises : GoodIn wsX4_marksWith (wsV RX4 86 RX2 yX2_findRises wsX2_findRises) := goodIn_app (goodIn_of _ (by decide +kernel)) ggX4_marksWith_X2_findRises
theorem dX4_marksWith_0 : decode cX4_marksWith 0 = .ok (.iload_n 1, 1) := by decide +kernel
theorem dX4_marksWith_1 : decode cX4_marksWith 1 = .ok (.iconst 1, 1) := by decide +kernel
theorem dX4_marksWith_2 : decode cX4_marksWith 2 = .ok (.if_icmp .lt 10, 3) := by decide +kernel
theorem dX4_marksWith_5 : decode cX4_marksWith 5 = .ok (.iload_n 1, 1) := by decide +kernel
theorem dX4_marksWith_6 : decode cX4_marksWith 6 = .ok (.sipush 999, 3) := by decide +kernel
theorem dX4_marksWith_9 : decode cX4_marksWith 9 = .ok (.if_icmp .le 5, 3) := by decide +kernel
theorem dX4_marksWith_12 : decode cX4_marksWith 12 = .ok (.iconst (-1), 1) := by decide +kernel
theorem dX4_marksWith_13 : decode cX4_marksWith 13 = .ok (.ireturn, 1) := by decide +kernel
theorem dX4_marksWith_14 : decode cX4_marksWith 14 = .ok (.aload_n 0, 1) := by decide +kernel
theorem dX4_marksWith_15 : decode cX4_marksWith 15 = .ok (.getfield 10, 3) := by decide +kernel
theorem dX4_marksWith_18 : decode cX4_marksWith 18 = .ok (.iload_n 1, 1) := by decide +kernel
theorem dX4_marksWith_19 : decode cX4_marksWith 19 = .ok (.aload_n 0, 1) := by decide +kernel
theorem dX4_marksWith_20 : decode cX4_marksWith 20 = .ok (.getfield 49, 3) := by decide +kernel
theorem dX4_marksWith_23 : decode cX4_marksWith 23 = .ok (.invokevirtual 86, 3) := by decide +kernel
theorem dX4_marksWith_26 : decode cX4_marksWith 26 = .ok (.ireturn, 1) := by decide +kernel
set_option maxRecDepth 20000 in
theorem ggX4_thresholdFor_X2_findRises : GoodIn wsX4_thresholdFor wsX2_findRises := goodIn_r _ [9, 10, 11, 12, 20, 21, 22, 23, 24, 25] (by decide +kernel) (by decide +kernel)
set_option maxRecDepth 20000 in
theorem gX4_thresholdFor_X2_findRises : GoodIn wsX4_thresholdFor (wsV RX4 86 RX2 yX2_findRises wsX2_findRises) := goodIn_app (goodIn_of _ (by decide +kernel)) ggX4_thresholdFor_X2_findRises
theorem dX4_thresholdFor_0 : decode cX4_thresholdFor 0 = .ok (.iload_n 1, 1) := by decide +kernel
theorem dX4_thresholdFor_1 : decode cX4_thresholdFor 1 = .ok (.iconst 1, 1) := by decide +kernel
theorem dX4_thresholdFor_2 : decode cX4_thresholdFor 2 = .ok (.if_icmp .lt 9, 3) := by decide +kernel
theorem dX4_thresholdFor_5 : decode cX4_thresholdFor 5 = .ok (.iload_n 1, 1) := by decide +kernel
theorem dX4_thresholdFor_6 : decode cX4_thresholdFor 6 = .ok (.bipush 16, 2) := by decide +kernel
theorem dX4_thresholdFor_8 : decode cX4_thresholdFor 8 = .ok (.if_icmp .le 5, 3) := by decide +kernel
theorem dX4_thresholdFor_11 : decode cX4_thresholdFor 11 = .ok (.iconst (-1), 1) := by decide +kernel
theorem dX4_thresholdFor_12 : decode cX4_thresholdFor 12 = .ok (.ireturn, 1) := by decide +kernel
theorem dX4_thresholdFor_13 : decode cX4_thresholdFor 13 = .ok (.aload_n 0, 1) := by decide +kernel
theorem dX4_thresholdFor_14 : decode cX4_thresholdFor 14 = .ok (.getfield 10, 3) := by decide +kernel
theorem dX4_thresholdFor_17 : decode cX4_thresholdFor 17 = .ok (.sipush 999, 3) := by decide +kernel
theorem dX4_thresholdFor_20 : decode cX4_thresholdFor 20 = .ok (.aload_n 0, 1) := by decide +kernel
theorem dX4_thresholdFor_21 : decode cX4_thresholdFor 21 = .ok (.getfield 49, 3) := by decide +kernel
theorem dX4_thresholdFor_24 : decode cX4_thresholdFor 24 = .ok (.invokevirtual 86, 3) := by decide +kernel
theorem dX4_thresholdFor_27 : decode cX4_thresholdFor 27 = .ok (.iload_n 1, 1) := by decide +kernel
theorem dX4_thresholdFor_28 : decode cX4_thresholdFor 28 = .ok (.if_icmp .lt 7, 3) := by decide +kernel
theorem dX4_thresholdFor_31 : decode cX4_thresholdFor 31 = .ok (.sipush 999, 3) := by decide +kernel
theorem dX4_thresholdFor_34 : decode cX4_thresholdFor 34 = .ok (.ireturn, 1) := by decide +kernel
theorem dX4_thresholdFor_35 : decode cX4_thresholdFor 35 = .ok (.iconst 0, 1) := by decide +kernel
theorem dX4_thresholdFor_36 : decode cX4_thresholdFor 36 = .ok (.istore_n 2, 1) := by decide +kernel
theorem dX4_thresholdFor_37 : decode cX4_thresholdFor 37 = .ok (.iconst 1, 1) := by decide +kernel
theorem dX4_thresholdFor_38 : decode cX4_thresholdFor 38 = .ok (.istore_n 3, 1) := by decide +kernel
theorem dX4_thresholdFor_39 : decode cX4_thresholdFor 39 = .ok (.iload_n 3, 1) := by decide +kernel
theorem dX4_thresholdFor_40 : decode cX4_thresholdFor 40 = .ok (.aload_n 0, 1) := by decide +kernel
theorem dX4_thresholdFor_41 : decode cX4_thresholdFor 41 = .ok (.getfield 10, 3) := by decide +kernel
theorem dX4_thresholdFor_44 : decode cX4_thresholdFor 44 = .ok (.getfield 56, 3) := by decide +kernel
theorem dX4_thresholdFor_47 : decode cX4_thresholdFor 47 = .ok (.if_icmp .ge 58, 3) := by decide +kernel
theorem dX4_thresholdFor_50 : decode cX4_thresholdFor 50 = .ok (.aload_n 0, 1) := by decide +kernel
theorem dX4_thresholdFor_51 : decode cX4_thresholdFor 51 = .ok (.getfield 10, 3) := by decide +kernel
theorem dX4_thresholdFor_54 : decode cX4_thresholdFor 54 = .ok (.getfield 68, 3) := by decide +kernel
theorem dX4_thresholdFor_57 : decode cX4_thresholdFor 57 = .ok (.iload_n 3, 1) := by decide +kernel
theorem dX4_thresholdFor_58 : decode cX4_thresholdFor 58 = .ok (.iaload, 1) := by decide +kernel
theorem dX4_thresholdFor_59 : decode cX4_thresholdFor 59 = .ok (.aload_n 0, 1) := by decide +kernel
theorem dX4_thresholdFor_60 : decode cX4_thresholdFor 60 = .ok (.getfield 10, 3) := by decide +kernel
theorem dX4_thresholdFor_63 : decode cX4_thresholdFor 63 = .ok (.getfield 68, 3) := by decide +kernel
theorem dX4_thresholdFor_66 : decode cX4_thresholdFor 66 = .ok (.iload_n 3, 1) := by decide +kernel
theorem dX4_thresholdFor_67 : decode cX4_thresholdFor 67 = .ok (.iconst 1, 1) := by decide +kernel
theorem dX4_thresholdFor_68 : decode cX4_thresholdFor 68 = .ok (.isub, 1) := by decide +kernel
theorem dX4_thresholdFor_69 : decode cX4_thresholdFor 69 = .ok (.iaload, 1) := by decide +kernel
theorem dX4_thresholdFor_70 : decode cX4_thresholdFor 70 = .ok (.isub, 1) := by decide +kernel
theorem dX4_thresholdFor_71 : decode cX4_thresholdFor 71 = .ok (.istore 4, 2) := by decide +kernel
theorem dX4_thresholdFor_73 : decode cX4_thresholdFor 73 = .ok (.iload 4, 2) := by decide +kernel
theorem dX4_thresholdFor_75 : decode cX4_thresholdFor 75 = .ok (.iload_n 2, 1) := by decide +kernel
theorem dX4_thresholdFor_76 : decode cX4_thresholdFor 76 = .ok (.if_icmp .le 23, 3) := by decide +kernel
theorem dX4_thresholdFor_79 : decode cX4_thresholdFor 79 = .ok (.aload_n 0, 1) := by decide +kernel
theorem dX4_thresholdFor_80 : decode cX4_thresholdFor 80 = .ok (.getfield 10, 3) := by decide +kernel
theorem dX4_thresholdFor_83 : decode cX4_thresholdFor 83 = .ok (.iload 4, 2) := by decide +kernel
theorem dX4_thresholdFor_85 : decode cX4_thresholdFor 85 = .ok (.aload_n 0, 1) := by decide +kernel
theorem dX4_thresholdFor_86 : decode cX4_thresholdFor 86 = .ok (.getfield 49, 3) := by decide +kernel
theorem dX4_thresholdFor_89 : decode cX4_thresholdFor 89 = .ok (.invokevirtual 86, 3) := by decide +kernel
theorem dX4_thresholdFor_92 : decode cX4_thresholdFor 92 = .ok (.iload_n 1, 1) := by decide +kernel
theorem dX4_thresholdFor_93 : decode cX4_thresholdFor 93 = .ok (.if_icmp .lt 6, 3) := by decide +kernel
theorem dX4_thresholdFor_96 : decode cX4_thresholdFor 96 = .ok (.iload 4, 2) := by decide +kernel
theorem dX4_thresholdFor_98 : decode cX4_thresholdFor 98 = .ok (.istore_n 2, 1) := by decide +kernel
theorem dX4_thresholdFor_99 : decode cX4_thresholdFor 99 = .ok (.iinc 3 1, 3) := by decide +kernel
theorem dX4_thresholdFor_102 : decode cX4_thresholdFor 102 = .ok (.goto (-63), 3) := by decide +kernel
theorem dX4_thresholdFor_105 : decode cX4_thresholdFor 105 = .ok (.iload_n 2, 1) := by decide +kernel
theorem dX4_thresholdFor_106 : decode cX4_thresholdFor 106 = .ok (.ifCond .le 7, 3) := by decide +kernel
theorem dX4_thresholdFor_109 : decode cX4_thresholdFor 109 = .ok (.iload_n 2, 1) := by decide +kernel
theorem dX4_thresholdFor_110 : decode cX4_thresholdFor 110 = .ok (.goto 5, 3) := by decide +kernel
theorem dX4_thresholdFor_113 : decode cX4_thresholdFor 113 = .ok (.bipush (-9), 2) := by decide +kernel
theorem dX4_thresholdFor_115 : decode cX4_thresholdFor 115 = .ok (.ireturn, 1) := by decide +kernel
set_option maxRecDepth 20000 in
theorem ggX4_keep_X4_isImage : GoodIn wsX4_keep wsX4_isImage := goodIn_r _ [8] (by decide +kernel) (by decide +kernel)
set_option maxRecDepth 20000 in
theorem gX4_keep_X4_isImage : GoodIn wsX4_keep (va_wsS RX4 178 yX4_isImage wsX4_isImage) := goodIn_app (goodIn_of _ (by decide +kernel)) ggX4_keep_X4_isImage
set_option maxRecDepth 20000 in
theorem ggX4_keep_X2_copy : GoodIn wsX4_keep wsX2_copy := goodIn_r _ [13, 14, 15, 16, 17, 18, 19, 20, 21, 22, 23, 31, 32, 33, 34, 35, 36] (by decide +kernel) (by decide +kernel)
set_option maxRecDepth 20000 in
theorem gX4_keep_X2_copy : GoodIn wsX4_keep (wsV RX4 181 RX2 yX2_copy wsX2_copy) := goodIn_app (goodIn_of _ (by decide +kernel)) ggX4_keep_X2_copy
theorem dX4_keep_0 : decode cX4_keep 0 = .ok (.iload_n 1, 1) := by decide +kernel
theorem dX4_keep_1 : decode cX4_keep 1 = .ok (.invokestatic 178, 3) := by decide +kernel
theorem dX4_keep_4 : decode cX4_keep 4 = .ok (.ifCond .ne 5, 3) := by decide +kernel
theorem dX4_keep_7 : decode cX4_keep 7 = .ok (.iconst (-1), 1) := by decide +kernel
theorem dX4_keep_8 : decode cX4_keep 8 = .ok (.ireturn, 1) := by decide +kernel
theorem dX4_keep_9 : decode cX4_keep 9 = .ok (.aload_n 0, 1) := by decide +kernel
theorem dX4_keep_10 : decode cX4_keep 10 = .ok (.getfield 41, 3) := by decide +kernel
theorem dX4_keep_13 : decode cX4_keep 13 = .ok (.iload_n 1, 1) := by decide +kernel
theorem dX4_keep_14 : decode cX4_keep 14 = .ok (.aaload, 1) := by decide +kernel
theorem dX4_keep_15 : decode cX4_keep 15 = .ok (.aload_n 0, 1) := by decide +kernel
theorem dX4_keep_16 : decode cX4_keep 16 = .ok (.getfield 10, 3) := by decide +kernel
theorem dX4_keep_19 : decode cX4_keep 19 = .ok (.invokevirtual 181, 3) := by decide +kernel
theorem dX4_keep_22 : decode cX4_keep 22 = .ok (.aload_n 0, 1) := by decide +kernel
theorem dX4_keep_23 : decode cX4_keep 23 = .ok (.getfield 45, 3) := by decide +kernel
theorem dX4_keep_26 : decode cX4_keep 26 = .ok (.iload_n 1, 1) := by decide +kernel
theorem dX4_keep_27 : decode cX4_keep 27 = .ok (.iconst 1, 1) := by decide +kernel
theorem dX4_keep_28 : decode cX4_keep 28 = .ok (.bastore, 1) := by decide +kernel
theorem dX4_keep_29 : decode cX4_keep 29 = .ok (.aload_n 0, 1) := by decide +kernel
theorem dX4_keep_30 : decode cX4_keep 30 = .ok (.getfield 10, 3) := by decide +kernel
theorem dX4_keep_33 : decode cX4_keep 33 = .ok (.getfield 90, 3) := by decide +kernel
theorem dX4_keep_36 : decode cX4_keep 36 = .ok (.ireturn, 1) := by decide +kernel
set_option maxRecDepth 20000 in
theorem ggX4_back_X4_isImage : GoodIn wsX4_back wsX4_isImage := goodIn_r _ [9] (by decide +kernel) (by decide +kernel)
set_option maxRecDepth 20000 in
theorem gX4_back_X4_isImage : GoodIn wsX4_back (va_wsS RX4 178 yX4_isImage wsX4_isImage) := goodIn_app (goodIn_of _ (by decide +kernel)) ggX4_back_X4_isImage
set_option maxRecDepth 20000 in
theorem ggX4_back_X1_push : GoodIn wsX4_back wsX1_push := goodIn_r _ [14, 15, 16, 17, 18, 19, 20, 21, 22, 23, 24, 25, 26, 27, 28, 29, 30, 31, 32, 47, 48, 49, 41, 42, 43, 44, 45, 46] (by decide +kernel) (by decide +kernel)
set_option maxRecDepth 20000 in
theorem gX4_back_X1_push : GoodIn wsX4_back (wsV RX4 53 RX1 yX1_push wsX1_push) := goodIn_app (goodIn_of _ (by decide +kernel)) ggX4_back_X1_push
set_option maxRecDepth 20000 in
theorem ggX4_back_X2_copy : GoodIn wsX4_back wsX2_copy := goodIn_r _ [22, 23, 24, 25, 26, 27, 28, 29, 30, 31, 32, 41, 42, 43, 44, 45, 46] (by decide +kernel) (by decide +kernel)
set_option maxRecDepth 20000 in
theorem gX4_back_X2_copy : GoodIn wsX4_back (wsV RX4 181 RX2 yX2_copy wsX2_copy) := goodIn_app (goodIn_of _ (by decide +kernel)) ggX4_back_X2_copy
theorem dX4_back_0 : decode cX4_back 0 = .ok (.iload_n 1, 1) := by decide +kernel
theorem dX4_back_1 : decode cX4_back 1 = .ok (.invokestatic 178, 3) := by decide +kernel
theorem dX4_back_4 : decode cX4_back 4 = .ok (.ifCond .ne 5, 3) := by decide +kernel
theorem dX4_back_7 : decode cX4_back 7 = .ok (.iconst (-1), 1) := by decide +kernel
theorem dX4_back_8 : decode cX4_back 8 = .ok (.ireturn, 1) := by decide +kernel
theorem dX4_back_9 : decode cX4_back 9 = .ok (.aload_n 0, 1) := by decide +kernel
theorem dX4_back_10 : decode cX4_back 10 = .ok (.getfield 45, 3) := by decide +kernel
theorem dX4_back_13 : decode cX4_back 13 = .ok (.iload_n 1, 1) := by decide +kernel
theorem dX4_back_14 : decode cX4_back 14 = .ok (.baload, 1) := by decide +kernel
theorem dX4_back_15 : decode cX4_back 15 = .ok (.ifCond .ne 6, 3) := by decide +kernel
theorem dX4_back_18 : decode cX4_back 18 = .ok (.bipush (-2), 2) := by decide +kernel
theorem dX4_back_20 : decode cX4_back 20 = .ok (.ireturn, 1) := by decide +kernel
theorem dX4_back_21 : decode cX4_back 21 = .ok (.aload_n 0, 1) := by decide +kernel
theorem dX4_back_22 : decode cX4_back 22 = .ok (.getfield 37, 3) := by decide +kernel
theorem dX4_back_25 : decode cX4_back 25 = .ok (.aload_n 0, 1) := by decide +kernel
theorem dX4_back_26 : decode cX4_back 26 = .ok (.getfield 10, 3) := by decide +kernel
theorem dX4_back_29 : decode cX4_back 29 = .ok (.invokevirtual 53, 3) := by decide +kernel
theorem dX4_back_32 : decode cX4_back 32 = .ok (.aload_n 0, 1) := by decide +kernel
theorem dX4_back_33 : decode cX4_back 33 = .ok (.getfield 10, 3) := by decide +kernel
theorem dX4_back_36 : decode cX4_back 36 = .ok (.aload_n 0, 1) := by decide +kernel
theorem dX4_back_37 : decode cX4_back 37 = .ok (.getfield 41, 3) := by decide +kernel
theorem dX4_back_40 : decode cX4_back 40 = .ok (.iload_n 1, 1) := by decide +kernel
theorem dX4_back_41 : decode cX4_back 41 = .ok (.aaload, 1) := by decide +kernel
theorem dX4_back_42 : decode cX4_back 42 = .ok (.invokevirtual 181, 3) := by decide +kernel
theorem dX4_back_45 : decode cX4_back 45 = .ok (.aload_n 0, 1) := by decide +kernel
theorem dX4_back_46 : decode cX4_back 46 = .ok (.getfield 10, 3) := by decide +kernel
theorem dX4_back_49 : decode cX4_back 49 = .ok (.getfield 90, 3) := by decide +kernel
theorem dX4_back_52 : decode cX4_back 52 = .ok (.ireturn, 1) := by decide +kernel
theorem dX4_isSetting_0 : decode cX4_isSetting 0 = .ok (.iload_n 0, 1) := by decide +kernel
theorem dX4_isSetting_1 : decode cX4_isSetting 1 = .ok (.ifCond .lt 13, 3) := by decide +kernel
theorem dX4_isSetting_4 : decode cX4_isSetting 4 = .ok (.iload_n 0, 1) := by decide +kernel
theorem dX4_isSetting_5 : decode cX4_isSetting 5 = .ok (.bipush 9, 2) := by decide +kernel
theorem dX4_isSetting_7 : decode cX4_isSetting 7 = .ok (.if_icmp .ge 7, 3) := by decide +kernel
theorem dX4_isSetting_10 : decode cX4_isSetting 10 = .ok (.iconst 1, 1) := by decide +kernel
theorem dX4_isSetting_11 : decode cX4_isSetting 11 = .ok (.goto 4, 3) := by decide +kernel
theorem dX4_isSetting_14 : decode cX4_isSetting 14 = .ok (.iconst 0, 1) := by decide +kernel
theorem dX4_isSetting_15 : decode cX4_isSetting 15 = .ok (.ireturn, 1) := by decide +kernel
theorem dX4_isImage_0 : decode cX4_isImage 0 = .ok (.iload_n 0, 1) := by decide +kernel
theorem dX4_isImage_1 : decode cX4_isImage 1 = .ok (.ifCond .lt 12, 3) := by decide +kernel
theorem dX4_isImage_4 : decode cX4_isImage 4 = .ok (.iload_n 0, 1) := by decide +kernel
theorem dX4_isImage_5 : decode cX4_isImage 5 = .ok (.iconst 2, 1) := by decide +kernel
theorem dX4_isImage_6 : decode cX4_isImage 6 = .ok (.if_icmp .ge 7, 3) := by decide +kernel
theorem dX4_isImage_9 : decode cX4_isImage 9 = .ok (.iconst 1, 1) := by decide +kernel
theorem dX4_isImage_10 : decode cX4_isImage 10 = .ok (.goto 4, 3) := by decide +kernel
theorem dX4_isImage_13 : decode cX4_isImage 13 = .ok (.iconst 0, 1) := by decide +kernel
theorem dX4_isImage_14 : decode cX4_isImage 14 = .ok (.ireturn, 1) := by decide +kernel
set_option maxRecDepth 20000 in
theorem ggX4_isMovable_X2_isSlice : GoodIn wsX4_isMovable wsX2_isSlice := goodIn_r _ [6, 7, 15, 16, 17, 18, 19, 20] (by decide +kernel) (by decide +kernel)
set_option maxRecDepth 20000 in
theorem gX4_isMovable_X2_isSlice : GoodIn wsX4_isMovable (wsV RX4 100 RX2 yX2_isSlice wsX2_isSlice) := goodIn_app (goodIn_of _ (by decide +kernel)) ggX4_isMovable_X2_isSlice
theorem dX4_isMovable_0 : decode cX4_isMovable 0 = .ok (.iload_n 1, 1) := by decide +kernel
theorem dX4_isMovable_1 : decode cX4_isMovable 1 = .ok (.ifCond .le 18, 3) := by decide +kernel
theorem dX4_isMovable_4 : decode cX4_isMovable 4 = .ok (.aload_n 0, 1) := by decide +kernel
theorem dX4_isMovable_5 : decode cX4_isMovable 5 = .ok (.getfield 10, 3) := by decide +kernel
theorem dX4_isMovable_8 : decode cX4_isMovable 8 = .ok (.iload_n 1, 1) := by decide +kernel
theorem dX4_isMovable_9 : decode cX4_isMovable 9 = .ok (.invokevirtual 100, 3) := by decide +kernel
theorem dX4_isMovable_12 : decode cX4_isMovable 12 = .ok (.ifCond .eq 7, 3) := by decide +kernel
theorem dX4_isMovable_15 : decode cX4_isMovable 15 = .ok (.iconst 1, 1) := by decide +kernel
theorem dX4_isMovable_16 : decode cX4_isMovable 16 = .ok (.goto 4, 3) := by decide +kernel
theorem dX4_isMovable_19 : decode cX4_isMovable 19 = .ok (.iconst 0, 1) := by decide +kernel
theorem dX4_isMovable_20 : decode cX4_isMovable 20 = .ok (.ireturn, 1) := by decide +kernel
end
section
set_option maxRecDepth 20000 in
theorem ggX5_init_X5_layLoop : GoodIn wsX5_init wsX5_layLoop := goodIn_r _ [19, 5, 20, 21, 22, 18, 23, 24, 25, 26, 27, 28, 29, 30, 31, 32, 33, 34] (by decide +kernel) (by decide +kernel)
set_option maxRecDepth 20000 in
theorem gX5_init_X5_layLoop : GoodIn wsX5_init (wsV RX5 36 RX5 yX5_layLoop wsX5_layLoop) := goodIn_app (goodIn_of _ (by decide +kernel)) ggX5_init_X5_layLoop
theorem dX5_init_0 : decode cX5_init 0 = .ok (.aload_n 0, 1) := by decide +kernel
theorem dX5_init_1 : decode cX5_init 1 = .ok (.invokespecial 1, 3) := by decide +kernel
theorem dX5_init_4 : decode cX5_init 4 = .ok (.aload_n 0, 1) := by decide +kernel
theorem dX5_init_5 : decode cX5_init 5 = .ok (.bipush 107, 2) := by decide +kernel
theorem dX5_init_7 : decode cX5_init 7 = .ok (.newarray .int, 2) := by decide +kernel
theorem dX5_init_9 : decode cX5_init 9 = .ok (.putfield 7, 3) := by decide +kernel
theorem dX5_init_12 : decode cX5_init 12 = .ok (.aload_n 0, 1) := by decide +kernel
theorem dX5_init_13 : decode cX5_init 13 = .ok (.sipush 856, 3) := by decide +kernel
theorem dX5_init_16 : decode cX5_init 16 = .ok (.newarray .int, 2) := by decide +kernel
theorem dX5_init_18 : decode cX5_init 18 = .ok (.putfield 13, 3) := by decide +kernel
theorem dX5_init_21 : decode cX5_init 21 = .ok (.aload_n 0, 1) := by decide +kernel
theorem dX5_init_22 : decode cX5_init 22 = .ok (.sipush 214, 3) := by decide +kernel
theorem dX5_init_25 : decode cX5_init 25 = .ok (.newarray .int, 2) := by decide +kernel
theorem dX5_init_27 : decode cX5_init 27 = .ok (.putfield 16, 3) := by decide +kernel
theorem dX5_init_30 : decode cX5_init 30 = .ok (.aload_n 0, 1) := by decide +kernel
theorem dX5_init_31 : decode cX5_init 31 = .ok (.bipush 16, 2) := by decide +kernel
theorem dX5_init_33 : decode cX5_init 33 = .ok (.newarray .int, 2) := by decide +kernel
theorem dX5_init_35 : decode cX5_init 35 = .ok (.putfield 19, 3) := by decide +kernel
theorem dX5_init_38 : decode cX5_init 38 = .ok (.aload_n 0, 1) := by decide +kernel
theorem dX5_init_39 : decode cX5_init 39 = .ok (.bipush 16, 2) := by decide +kernel
theorem dX5_init_41 : decode cX5_init 41 = .ok (.newarray .int, 2) := by decide +kernel
theorem dX5_init_43 : decode cX5_init 43 = .ok (.putfield 22, 3) := by decide +kernel
theorem dX5_init_46 : decode cX5_init 46 = .ok (.aload_n 0, 1) := by decide +kernel
theorem dX5_init_47 : decode cX5_init 47 = .ok (.bipush 17, 2) := by decide +kernel
theorem dX5_init_49 : decode cX5_init 49 = .ok (.newarray .int, 2) := by decide +kernel
theorem dX5_init_51 : decode cX5_init 51 = .ok (.putfield 25, 3) := by decide +kernel
theorem dX5_init_54 : decode cX5_init 54 = .ok (.aload_n 0, 1) := by decide +kernel
theorem dX5_init_55 : decode cX5_init 55 = .ok (.sipush 544, 3) := by decide +kernel
theorem dX5_init_58 : decode cX5_init 58 = .ok (.newarray .long, 2) := by decide +kernel
theorem dX5_init_60 : decode cX5_init 60 = .ok (.putfield 28, 3) := by decide +kernel
theorem dX5_init_63 : decode cX5_init 63 = .ok (.aload_n 0, 1) := by decide +kernel
theorem dX5_init_64 : decode cX5_init 64 = .ok (.bipush 16, 2) := by decide +kernel
theorem dX5_init_66 : decode cX5_init 66 = .ok (.newarray .boolean, 2) := by decide +kernel
theorem dX5_init_68 : decode cX5_init 68 = .ok (.putfield 32, 3) := by decide +kernel
theorem dX5_init_71 : decode cX5_init 71 = .ok (.aload_n 0, 1) := by decide +kernel
theorem dX5_init_72 : decode cX5_init 72 = .ok (.getfield 7, 3) := by decide +kernel
theorem dX5_init_75 : decode cX5_init 75 = .ok (.iconst 1, 1) := by decide +kernel
theorem dX5_init_76 : decode cX5_init 76 = .ok (.bipush 100, 2) := by decide +kernel
theorem dX5_init_78 : decode cX5_init 78 = .ok (.iastore, 1) := by decide +kernel
theorem dX5_init_79 : decode cX5_init 79 = .ok (.aload_n 0, 1) := by decide +kernel
theorem dX5_init_80 : decode cX5_init 80 = .ok (.getfield 7, 3) := by decide +kernel
theorem dX5_init_83 : decode cX5_init 83 = .ok (.iconst 2, 1) := by decide +kernel
theorem dX5_init_84 : decode cX5_init 84 = .ok (.bipush 100, 2) := by decide +kernel
theorem dX5_init_86 : decode cX5_init 86 = .ok (.iastore, 1) := by decide +kernel
theorem dX5_init_87 : decode cX5_init 87 = .ok (.aload_n 0, 1) := by decide +kernel
theorem dX5_init_88 : decode cX5_init 88 = .ok (.getfield 7, 3) := by decide +kernel
theorem dX5_init_91 : decode cX5_init 91 = .ok (.iconst 3, 1) := by decide +kernel
theorem dX5_init_92 : decode cX5_init 92 = .ok (.iconst 2, 1) := by decide +kernel
theorem dX5_init_93 : decode cX5_init 93 = .ok (.iastore, 1) := by decide +kernel
theorem dX5_init_94 : decode cX5_init 94 = .ok (.aload_n 0, 1) := by decide +kernel
theorem dX5_init_95 : decode cX5_init 95 = .ok (.getfield 7, 3) := by decide +kernel
theorem dX5_init_98 : decode cX5_init 98 = .ok (.iconst 4, 1) := by decide +kernel
theorem dX5_init_99 : decode cX5_init 99 = .ok (.bipush 50, 2) := by decide +kernel
theorem dX5_init_101 : decode cX5_init 101 = .ok (.iastore, 1) := by decide +kernel
theorem dX5_init_102 : decode cX5_init 102 = .ok (.aload_n 0, 1) := by decide +kernel
theorem dX5_init_103 : decode cX5_init 103 = .ok (.getfield 7, 3) := by decide +kernel
theorem dX5_init_106 : decode cX5_init 106 = .ok (.iconst 5, 1) := by decide +kernel
theorem dX5_init_107 : decode cX5_init 107 = .ok (.sipush 200, 3) := by decide +kernel
theorem dX5_init_110 : decode cX5_init 110 = .ok (.iastore, 1) := by decide +kernel
theorem dX5_init_111 : decode cX5_init 111 = .ok (.aload_n 0, 1) := by decide +kernel
theorem dX5_init_112 : decode cX5_init 112 = .ok (.getfield 7, 3) := by decide +kernel
theorem dX5_init_115 : decode cX5_init 115 = .ok (.bipush 6, 2) := by decide +kernel
theorem dX5_init_117 : decode cX5_init 117 = .ok (.sipush 1600, 3) := by decide +kernel
theorem dX5_init_120 : decode cX5_init 120 = .ok (.iastore, 1) := by decide +kernel
theorem dX5_init_121 : decode cX5_init 121 = .ok (.aload_n 0, 1) := by decide +kernel
theorem dX5_init_122 : decode cX5_init 122 = .ok (.getfield 7, 3) := by decide +kernel
theorem dX5_init_125 : decode cX5_init 125 = .ok (.bipush 7, 2) := by decide +kernel
theorem dX5_init_127 : decode cX5_init 127 = .ok (.bipush 16, 2) := by decide +kernel
theorem dX5_init_129 : decode cX5_init 129 = .ok (.iastore, 1) := by decide +kernel
theorem dX5_init_130 : decode cX5_init 130 = .ok (.aload_n 0, 1) := by decide +kernel
theorem dX5_init_131 : decode cX5_init 131 = .ok (.getfield 7, 3) := by decide +kernel
theorem dX5_init_134 : decode cX5_init 134 = .ok (.bipush 9, 2) := by decide +kernel
theorem dX5_init_136 : decode cX5_init 136 = .ok (.bipush 50, 2) := by decide +kernel
theorem dX5_init_138 : decode cX5_init 138 = .ok (.iastore, 1) := by decide +kernel
theorem dX5_init_139 : decode cX5_init 139 = .ok (.aload_n 0, 1) := by decide +kernel
theorem dX5_init_140 : decode cX5_init 140 = .ok (.bipush 16, 2) := by decide +kernel
theorem dX5_init_142 : decode cX5_init 142 = .ok (.invokevirtual 36, 3) := by decide +kernel
theorem dX5_init_145 : decode cX5_init 145 = .ok (.return_, 1) := by decide +kernel
theorem dX5_isIn_0 : decode cX5_isIn 0 = .ok (.iload_n 0, 1) := by decide +kernel
theorem dX5_isIn_1 : decode cX5_isIn 1 = .ok (.iload_n 1, 1) := by decide +kernel
theorem dX5_isIn_2 : decode cX5_isIn 2 = .ok (.if_icmp .lt 12, 3) := by decide +kernel
theorem dX5_isIn_5 : decode cX5_isIn 5 = .ok (.iload_n 0, 1) := by decide +kernel
theorem dX5_isIn_6 : decode cX5_isIn 6 = .ok (.iload_n 2, 1) := by decide +kernel
theorem dX5_isIn_7 : decode cX5_isIn 7 = .ok (.if_icmp .gt 7, 3) := by decide +kernel
theorem dX5_isIn_10 : decode cX5_isIn 10 = .ok (.iconst 1, 1) := by decide +kernel
theorem dX5_isIn_11 : decode cX5_isIn 11 = .ok (.goto 4, 3) := by decide +kernel
theorem dX5_isIn_14 : decode cX5_isIn 14 = .ok (.iconst 0, 1) := by decide +kernel
theorem dX5_isIn_15 : decode cX5_isIn 15 = .ok (.ireturn, 1) := by decide +kernel
set_option maxRecDepth 20000 in
theorem ggX5_layLoop_X5_layOrder : GoodIn wsX5_layLoop wsX5_layOrder := goodIn_r _ [6, 1, 7, 8, 9, 10, 11, 12, 13, 14, 15, 16, 17] (by decide +kernel) (by decide +kernel)
set_option maxRecDepth 20000 in
theorem gX5_layLoop_X5_layOrder : GoodIn wsX5_layLoop (wsV RX5 40 RX5 yX5_layOrder wsX5_layOrder) := goodIn_app (goodIn_of _ (by decide +kernel)) ggX5_layLoop_X5_layOrder
theorem dX5_layLoop_0 : decode cX5_layLoop 0 = .ok (.aload_n 0, 1) := by decide +kernel
theorem dX5_layLoop_1 : decode cX5_layLoop 1 = .ok (.getfield 7, 3) := by decide +kernel
theorem dX5_layLoop_4 : decode cX5_layLoop 4 = .ok (.iconst 0, 1) := by decide +kernel
theorem dX5_layLoop_5 : decode cX5_layLoop 5 = .ok (.iload_n 1, 1) := by decide +kernel
theorem dX5_layLoop_6 : decode cX5_layLoop 6 = .ok (.iastore, 1) := by decide +kernel
theorem dX5_layLoop_7 : decode cX5_layLoop 7 = .ok (.iconst 0, 1) := by decide +kernel
theorem dX5_layLoop_8 : decode cX5_layLoop 8 = .ok (.istore_n 2, 1) := by decide +kernel
theorem dX5_layLoop_9 : decode cX5_layLoop 9 = .ok (.iload_n 2, 1) := by decide +kernel
theorem dX5_layLoop_10 : decode cX5_layLoop 10 = .ok (.bipush 64, 2) := by decide +kernel
theorem dX5_layLoop_12 : decode cX5_layLoop 12 = .ok (.if_icmp .ge 19, 3) := by decide +kernel
theorem dX5_layLoop_15 : decode cX5_layLoop 15 = .ok (.aload_n 0, 1) := by decide +kernel
theorem dX5_layLoop_16 : decode cX5_layLoop 16 = .ok (.getfield 7, 3) := by decide +kernel
theorem dX5_layLoop_19 : decode cX5_layLoop 19 = .ok (.bipush 10, 2) := by decide +kernel
theorem dX5_layLoop_21 : decode cX5_layLoop 21 = .ok (.iload_n 2, 1) := by decide +kernel
theorem dX5_layLoop_22 : decode cX5_layLoop 22 = .ok (.iadd, 1) := by decide +kernel
theorem dX5_layLoop_23 : decode cX5_layLoop 23 = .ok (.iconst 0, 1) := by decide +kernel
theorem dX5_layLoop_24 : decode cX5_layLoop 24 = .ok (.iastore, 1) := by decide +kernel
theorem dX5_layLoop_25 : decode cX5_layLoop 25 = .ok (.iinc 2 1, 3) := by decide +kernel
theorem dX5_layLoop_28 : decode cX5_layLoop 28 = .ok (.goto (-19), 3) := by decide +kernel
theorem dX5_layLoop_31 : decode cX5_layLoop 31 = .ok (.aload_n 0, 1) := by decide +kernel
theorem dX5_layLoop_32 : decode cX5_layLoop 32 = .ok (.getfield 7, 3) := by decide +kernel
theorem dX5_layLoop_35 : decode cX5_layLoop 35 = .ok (.bipush 74, 2) := by decide +kernel
theorem dX5_layLoop_37 : decode cX5_layLoop 37 = .ok (.iconst 1, 1) := by decide +kernel
theorem dX5_layLoop_38 : decode cX5_layLoop 38 = .ok (.iastore, 1) := by decide +kernel
theorem dX5_layLoop_39 : decode cX5_layLoop 39 = .ok (.aload_n 0, 1) := by decide +kernel
theorem dX5_layLoop_40 : decode cX5_layLoop 40 = .ok (.getfield 7, 3) := by decide +kernel
theorem dX5_layLoop_43 : decode cX5_layLoop 43 = .ok (.bipush 75, 2) := by decide +kernel
theorem dX5_layLoop_45 : decode cX5_layLoop 45 = .ok (.iconst 0, 1) := by decide +kernel
theorem dX5_layLoop_46 : decode cX5_layLoop 46 = .ok (.iastore, 1) := by decide +kernel
theorem dX5_layLoop_47 : decode cX5_layLoop 47 = .ok (.aload_n 0, 1) := by decide +kernel
theorem dX5_layLoop_48 : decode cX5_layLoop 48 = .ok (.invokevirtual 40, 3) := by decide +kernel
theorem dX5_layLoop_51 : decode cX5_layLoop 51 = .ok (.return_, 1) := by decide +kernel
theorem dX5_layOrder_0 : decode cX5_layOrder 0 = .ok (.iconst 0, 1) := by decide +kernel
theorem dX5_layOrder_1 : decode cX5_layOrder 1 = .ok (.istore_n 1, 1) := by decide +kernel
theorem dX5_layOrder_2 : decode cX5_layOrder 2 = .ok (.iload_n 1, 1) := by decide +kernel
theorem dX5_layOrder_3 : decode cX5_layOrder 3 = .ok (.bipush 16, 2) := by decide +kernel
theorem dX5_layOrder_5 : decode cX5_layOrder 5 = .ok (.if_icmp .ge 19, 3) := by decide +kernel
theorem dX5_layOrder_8 : decode cX5_layOrder 8 = .ok (.aload_n 0, 1) := by decide +kernel
theorem dX5_layOrder_9 : decode cX5_layOrder 9 = .ok (.getfield 7, 3) := by decide +kernel
theorem dX5_layOrder_12 : decode cX5_layOrder 12 = .ok (.bipush 91, 2) := by decide +kernel
theorem dX5_layOrder_14 : decode cX5_layOrder 14 = .ok (.iload_n 1, 1) := by decide +kernel
theorem dX5_layOrder_15 : decode cX5_layOrder 15 = .ok (.iadd, 1) := by decide +kernel
theorem dX5_layOrder_16 : decode cX5_layOrder 16 = .ok (.iload_n 1, 1) := by decide +kernel
theorem dX5_layOrder_17 : decode cX5_layOrder 17 = .ok (.iastore, 1) := by decide +kernel
theorem dX5_layOrder_18 : decode cX5_layOrder 18 = .ok (.iinc 1 1, 3) := by decide +kernel
theorem dX5_layOrder_21 : decode cX5_layOrder 21 = .ok (.goto (-19), 3) := by decide +kernel
theorem dX5_layOrder_24 : decode cX5_layOrder 24 = .ok (.return_, 1) := by decide +kernel
theorem dX5_remember_0 : decode cX5_remember 0 = .ok (.aload_n 0, 1) := by decide +kernel
theorem dX5_remember_1 : decode cX5_remember 1 = .ok (.getfield 43, 3) := by decide +kernel
theorem dX5_remember_4 : decode cX5_remember 4 = .ok (.bipush 8, 2) := by decide +kernel
theorem dX5_remember_6 : decode cX5_remember 6 = .ok (.if_icmp .ne 43, 3) := by decide +kernel
theorem dX5_remember_9 : decode cX5_remember 9 = .ok (.iconst 0, 1) := by decide +kernel
theorem dX5_remember_10 : decode cX5_remember 10 = .ok (.istore_n 1, 1) := by decide +kernel
theorem dX5_remember_11 : decode cX5_remember 11 = .ok (.iload_n 1, 1) := by decide +kernel
theorem dX5_remember_12 : decode cX5_remember 12 = .ok (.sipush 749, 3) := by decide +kernel
theorem dX5_remember_15 : decode cX5_remember 15 = .ok (.if_icmp .ge 24, 3) := by decide +kernel
theorem dX5_remember_18 : decode cX5_remember 18 = .ok (.aload_n 0, 1) := by decide +kernel
theorem dX5_remember_19 : decode cX5_remember 19 = .ok (.getfield 13, 3) := by decide +kernel
theorem dX5_remember_22 : decode cX5_remember 22 = .ok (.iload_n 1, 1) := by decide +kernel
theorem dX5_remember_23 : decode cX5_remember 23 = .ok (.aload_n 0, 1) := by decide +kernel
theorem dX5_remember_24 : decode cX5_remember 24 = .ok (.getfield 13, 3) := by decide +kernel
theorem dX5_remember_27 : decode cX5_remember 27 = .ok (.iload_n 1, 1) := by decide +kernel
theorem dX5_remember_28 : decode cX5_remember 28 = .ok (.bipush 107, 2) := by decide +kernel
theorem dX5_remember_30 : decode cX5_remember 30 = .ok (.iadd, 1) := by decide +kernel
theorem dX5_remember_31 : decode cX5_remember 31 = .ok (.iaload, 1) := by decide +kernel
theorem dX5_remember_32 : decode cX5_remember 32 = .ok (.iastore, 1) := by decide +kernel
theorem dX5_remember_33 : decode cX5_remember 33 = .ok (.iinc 1 1, 3) := by decide +kernel
theorem dX5_remember_36 : decode cX5_remember 36 = .ok (.goto (-25), 3) := by decide +kernel
theorem dX5_remember_39 : decode cX5_remember 39 = .ok (.aload_n 0, 1) := by decide +kernel
theorem dX5_remember_40 : decode cX5_remember 40 = .ok (.dup, 1) := by decide +kernel
theorem dX5_remember_41 : decode cX5_remember 41 = .ok (.getfield 43, 3) := by decide +kernel
theorem dX5_remember_44 : decode cX5_remember 44 = .ok (.iconst 1, 1) := by decide +kernel
theorem dX5_remember_45 : decode cX5_remember 45 = .ok (.isub, 1) := by decide +kernel
theorem dX5_remember_46 : decode cX5_remember 46 = .ok (.putfield 43, 3) := by decide +kernel
theorem dX5_remember_49 : decode cX5_remember 49 = .ok (.iconst 0, 1) := by decide +kernel
theorem dX5_remember_50 : decode cX5_remember 50 = .ok (.istore_n 1, 1) := by decide +kernel
theorem dX5_remember_51 : decode cX5_remember 51 = .ok (.iload_n 1, 1) := by decide +kernel
theorem dX5_remember_52 : decode cX5_remember 52 = .ok (.bipush 107, 2) := by decide +kernel
theorem dX5_remember_54 : decode cX5_remember 54 = .ok (.if_icmp .ge 29, 3) := by decide +kernel
theorem dX5_remember_57 : decode cX5_remember 57 = .ok (.aload_n 0, 1) := by decide +kernel
theorem dX5_remember_58 : decode cX5_remember 58 = .ok (.getfield 13, 3) := by decide +kernel
theorem dX5_remember_61 : decode cX5_remember 61 = .ok (.bipush 107, 2) := by decide +kernel
theorem dX5_remember_63 : decode cX5_remember 63 = .ok (.aload_n 0, 1) := by decide +kernel
theorem dX5_remember_64 : decode cX5_remember 64 = .ok (.getfield 43, 3) := by decide +kernel
theorem dX5_remember_67 : decode cX5_remember 67 = .ok (.imul, 1) := by decide +kernel
theorem dX5_remember_68 : decode cX5_remember 68 = .ok (.iload_n 1, 1) := by decide +kernel
theorem dX5_remember_69 : decode cX5_remember 69 = .ok (.iadd, 1) := by decide +kernel
theorem dX5_remember_70 : decode cX5_remember 70 = .ok (.aload_n 0, 1) := by decide +kernel
theorem dX5_remember_71 : decode cX5_remember 71 = .ok (.getfield 7, 3) := by decide +kernel
theorem dX5_remember_74 : decode cX5_remember 74 = .ok (.iload_n 1, 1) := by decide +kernel
theorem dX5_remember_75 : decode cX5_remember 75 = .ok (.iaload, 1) := by decide +kernel
theorem dX5_remember_76 : decode cX5_remember 76 = .ok (.iastore, 1) := by decide +kernel
theorem dX5_remember_77 : decode cX5_remember 77 = .ok (.iinc 1 1, 3) := by decide +kernel
theorem dX5_remember_80 : decode cX5_remember 80 = .ok (.goto (-29), 3) := by decide +kernel
theorem dX5_remember_83 : decode cX5_remember 83 = .ok (.aload_n 0, 1) := by decide +kernel
theorem dX5_remember_84 : decode cX5_remember 84 = .ok (.dup, 1) := by decide +kernel
theorem dX5_remember_85 : decode cX5_remember 85 = .ok (.getfield 43, 3) := by decide +kernel
theorem dX5_remember_88 : decode cX5_remember 88 = .ok (.iconst 1, 1) := by decide +kernel
theorem dX5_remember_89 : decode cX5_remember 89 = .ok (.iadd, 1) := by decide +kernel
theorem dX5_remember_90 : decode cX5_remember 90 = .ok (.putfield 43, 3) := by decide +kernel
theorem dX5_remember_93 : decode cX5_remember 93 = .ok (.return_, 1) := by decide +kernel
set_option maxRecDepth 20000 in
theorem ggX5_isFrame_X5_isIn : GoodIn wsX5_isFrame wsX5_isIn := goodIn_r _ [5] (by decide +kernel) (by decide +kernel)
set_option maxRecDepth 20000 in
theorem gX5_isFrame_X5_isIn : GoodIn wsX5_isFrame (va_wsS RX5 47 yX5_isIn wsX5_isIn) := goodIn_app (goodIn_of _ (by decide +kernel)) ggX5_isFrame_X5_isIn
theorem dX5_isFrame_0 : decode cX5_isFrame 0 = .ok (.iload_n 1, 1) := by decide +kernel
theorem dX5_isFrame_1 : decode cX5_isFrame 1 = .ok (.iconst 0, 1) := by decide +kernel
theorem dX5_isFrame_2 : decode cX5_isFrame 2 = .ok (.aload_n 0, 1) := by decide +kernel
theorem dX5_isFrame_3 : decode cX5_isFrame 3 = .ok (.getfield 7, 3) := by decide +kernel
theorem dX5_isFrame_6 : decode cX5_isFrame 6 = .ok (.iconst 0, 1) := by decide +kernel
theorem dX5_isFrame_7 : decode cX5_isFrame 7 = .ok (.iaload, 1) := by decide +kernel
theorem dX5_isFrame_8 : decode cX5_isFrame 8 = .ok (.iconst 1, 1) := by decide +kernel
theorem dX5_isFrame_9 : decode cX5_isFrame 9 = .ok (.isub, 1) := by decide +kernel
theorem dX5_isFrame_10 : decode cX5_isFrame 10 = .ok (.invokestatic 47, 3) := by decide +kernel
theorem dX5_isFrame_13 : decode cX5_isFrame 13 = .ok (.ireturn, 1) := by decide +kernel
set_option maxRecDepth 20000 in
theorem ggX5_isSlice_X5_isIn : GoodIn wsX5_isSlice wsX5_isIn := goodIn_r _ [5] (by decide +kernel) (by decide +kernel)
set_option maxRecDepth 20000 in
theorem gX5_isSlice_X5_isIn : GoodIn wsX5_isSlice (va_wsS RX5 47 yX5_isIn wsX5_isIn) := goodIn_app (goodIn_of _ (by decide +kernel)) ggX5_isSlice_X5_isIn
theorem dX5_isSlice_0 : decode cX5_isSlice 0 = .ok (.iload_n 1, 1) := by decide +kernel
theorem dX5_isSlice_1 : decode cX5_isSlice 1 = .ok (.iconst 0, 1) := by decide +kernel
theorem dX5_isSlice_2 : decode cX5_isSlice 2 = .ok (.aload_n 0, 1) := by decide +kernel
theorem dX5_isSlice_3 : decode cX5_isSlice 3 = .ok (.getfield 7, 3) := by decide +kernel
theorem dX5_isSlice_6 : decode cX5_isSlice 6 = .ok (.bipush 74, 2) := by decide +kernel
theorem dX5_isSlice_8 : decode cX5_isSlice 8 = .ok (.iaload, 1) := by decide +kernel
theorem dX5_isSlice_9 : decode cX5_isSlice 9 = .ok (.iconst 1, 1) := by decide +kernel
theorem dX5_isSlice_10 : decode cX5_isSlice 10 = .ok (.isub, 1) := by decide +kernel
theorem dX5_isSlice_11 : decode cX5_isSlice 11 = .ok (.invokestatic 47, 3) := by decide +kernel
theorem dX5_isSlice_14 : decode cX5_isSlice 14 = .ok (.ireturn, 1) := by decide +kernel
theorem dX5_frameOf_0 : decode cX5_frameOf 0 = .ok (.iload_n 1, 1) := by decide +kernel
theorem dX5_frameOf_1 : decode cX5_frameOf 1 = .ok (.aload_n 0, 1) := by decide +kernel
theorem dX5_frameOf_2 : decode cX5_frameOf 2 = .ok (.getfield 7, 3) := by decide +kernel
theorem dX5_frameOf_5 : decode cX5_frameOf 5 = .ok (.bipush 74, 2) := by decide +kernel
theorem dX5_frameOf_7 : decode cX5_frameOf 7 = .ok (.iaload, 1) := by decide +kernel
theorem dX5_frameOf_8 : decode cX5_frameOf 8 = .ok (.if_icmp .ge 15, 3) := by decide +kernel
theorem dX5_frameOf_11 : decode cX5_frameOf 11 = .ok (.aload_n 0, 1) := by decide +kernel
theorem dX5_frameOf_12 : decode cX5_frameOf 12 = .ok (.getfield 7, 3) := by decide +kernel
theorem dX5_frameOf_15 : decode cX5_frameOf 15 = .ok (.bipush 75, 2) := by decide +kernel
theorem dX5_frameOf_17 : decode cX5_frameOf 17 = .ok (.iload_n 1, 1) := by decide +kernel
theorem dX5_frameOf_18 : decode cX5_frameOf 18 = .ok (.iadd, 1) := by decide +kernel
theorem dX5_frameOf_19 : decode cX5_frameOf 19 = .ok (.iaload, 1) := by decide +kernel
theorem dX5_frameOf_20 : decode cX5_frameOf 20 = .ok (.goto 9, 3) := by decide +kernel
theorem dX5_frameOf_23 : decode cX5_frameOf 23 = .ok (.aload_n 0, 1) := by decide +kernel
theorem dX5_frameOf_24 : decode cX5_frameOf 24 = .ok (.getfield 7, 3) := by decide +kernel
theorem dX5_frameOf_27 : decode cX5_frameOf 27 = .ok (.iconst 0, 1) := by decide +kernel
theorem dX5_frameOf_28 : decode cX5_frameOf 28 = .ok (.iaload, 1) := by decide +kernel
theorem dX5_frameOf_29 : decode cX5_frameOf 29 = .ok (.ireturn, 1) := by decide +kernel
set_option maxRecDepth 20000 in
theorem ggX5_lengthOf_X5_frameOf : GoodIn wsX5_lengthOf wsX5_frameOf := goodIn_r _ [6, 1, 7, 8, 9, 10, 11, 12, 13, 14, 15, 16, 17] (by decide +kernel) (by decide +kernel)
set_option maxRecDepth 20000 in
theorem gX5_lengthOf_X5_frameOf : GoodIn wsX5_lengthOf (wsV RX5 51 RX5 yX5_frameOf wsX5_frameOf) := goodIn_app (goodIn_of _ (by decide +kernel)) ggX5_lengthOf_X5_frameOf
theorem dX5_lengthOf_0 : decode cX5_lengthOf 0 = .ok (.aload_n 0, 1) := by decide +kernel
theorem dX5_lengthOf_1 : decode cX5_lengthOf 1 = .ok (.iload_n 1, 1) := by decide +kernel
theorem dX5_lengthOf_2 : decode cX5_lengthOf 2 = .ok (.iconst 1, 1) := by decide +kernel
theorem dX5_lengthOf_3 : decode cX5_lengthOf 3 = .ok (.iadd, 1) := by decide +kernel
theorem dX5_lengthOf_4 : decode cX5_lengthOf 4 = .ok (.invokevirtual 51, 3) := by decide +kernel
theorem dX5_lengthOf_7 : decode cX5_lengthOf 7 = .ok (.aload_n 0, 1) := by decide +kernel
theorem dX5_lengthOf_8 : decode cX5_lengthOf 8 = .ok (.iload_n 1, 1) := by decide +kernel
theorem dX5_lengthOf_9 : decode cX5_lengthOf 9 = .ok (.invokevirtual 51, 3) := by decide +kernel
theorem dX5_lengthOf_12 : decode cX5_lengthOf 12 = .ok (.isub, 1) := by decide +kernel
theorem dX5_lengthOf_13 : decode cX5_lengthOf 13 = .ok (.aload_n 0, 1) := by decide +kernel
theorem dX5_lengthOf_14 : decode cX5_lengthOf 14 = .ok (.getfield 7, 3) := by decide +kernel
theorem dX5_lengthOf_17 : decode cX5_lengthOf 17 = .ok (.iconst 1, 1) := by decide +kernel
theorem dX5_lengthOf_18 : decode cX5_lengthOf 18 = .ok (.iaload, 1) := by decide +kernel
theorem dX5_lengthOf_19 : decode cX5_lengthOf 19 = .ok (.imul, 1) := by decide +kernel
theorem dX5_lengthOf_20 : decode cX5_lengthOf 20 = .ok (.ireturn, 1) := by decide +kernel
theorem dX5_whole_0 : decode cX5_whole 0 = .ok (.aload_n 0, 1) := by decide +kernel
theorem dX5_whole_1 : decode cX5_whole 1 = .ok (.getfield 7, 3) := by decide +kernel
theorem dX5_whole_4 : decode cX5_whole 4 = .ok (.iconst 0, 1) := by decide +kernel
theorem dX5_whole_5 : decode cX5_whole 5 = .ok (.iaload, 1) := by decide +kernel
theorem dX5_whole_6 : decode cX5_whole 6 = .ok (.aload_n 0, 1) := by decide +kernel
theorem dX5_whole_7 : decode cX5_whole 7 = .ok (.getfield 7, 3) := by decide +kernel
theorem dX5_whole_10 : decode cX5_whole 10 = .ok (.iconst 1, 1) := by decide +kernel
theorem dX5_whole_11 : decode cX5_whole 11 = .ok (.iaload, 1) := by decide +kernel
theorem dX5_whole_12 : decode cX5_whole 12 = .ok (.imul, 1) := by decide +kernel
theorem dX5_whole_13 : decode cX5_whole 13 = .ok (.ireturn, 1) := by decide +kernel
theorem dX5_findBy_0 : decode cX5_findBy 0 = .ok (.iconst 1, 1) := by decide +kernel
theorem dX5_findBy_1 : decode cX5_findBy 1 = .ok (.istore_n 2, 1) := by decide +kernel
theorem dX5_findBy_2 : decode cX5_findBy 2 = .ok (.aload_n 0, 1) := by decide +kernel
theorem dX5_findBy_3 : decode cX5_findBy 3 = .ok (.getfield 19, 3) := by decide +kernel
theorem dX5_findBy_6 : decode cX5_findBy 6 = .ok (.iconst 0, 1) := by decide +kernel
theorem dX5_findBy_7 : decode cX5_findBy 7 = .ok (.iconst 0, 1) := by decide +kernel
theorem dX5_findBy_8 : decode cX5_findBy 8 = .ok (.iastore, 1) := by decide +kernel
theorem dX5_findBy_9 : decode cX5_findBy 9 = .ok (.iconst 1, 1) := by decide +kernel
theorem dX5_findBy_10 : decode cX5_findBy 10 = .ok (.istore_n 3, 1) := by decide +kernel
theorem dX5_findBy_11 : decode cX5_findBy 11 = .ok (.iload_n 3, 1) := by decide +kernel
theorem dX5_findBy_12 : decode cX5_findBy 12 = .ok (.aload_n 0, 1) := by decide +kernel
theorem dX5_findBy_13 : decode cX5_findBy 13 = .ok (.getfield 7, 3) := by decide +kernel
theorem dX5_findBy_16 : decode cX5_findBy 16 = .ok (.iconst 0, 1) := by decide +kernel
theorem dX5_findBy_17 : decode cX5_findBy 17 = .ok (.iaload, 1) := by decide +kernel
theorem dX5_findBy_18 : decode cX5_findBy 18 = .ok (.if_icmp .ge 69, 3) := by decide +kernel
theorem dX5_findBy_21 : decode cX5_findBy 21 = .ok (.iload_n 2, 1) := by decide +kernel
theorem dX5_findBy_22 : decode cX5_findBy 22 = .ok (.bipush 16, 2) := by decide +kernel
theorem dX5_findBy_24 : decode cX5_findBy 24 = .ok (.if_icmp .ge 63, 3) := by decide +kernel
theorem dX5_findBy_27 : decode cX5_findBy 27 = .ok (.aload_n 0, 1) := by decide +kernel
theorem dX5_findBy_28 : decode cX5_findBy 28 = .ok (.getfield 7, 3) := by decide +kernel
theorem dX5_findBy_31 : decode cX5_findBy 31 = .ok (.bipush 10, 2) := by decide +kernel
theorem dX5_findBy_33 : decode cX5_findBy 33 = .ok (.iload_n 3, 1) := by decide +kernel
theorem dX5_findBy_34 : decode cX5_findBy 34 = .ok (.iadd, 1) := by decide +kernel
theorem dX5_findBy_35 : decode cX5_findBy 35 = .ok (.iaload, 1) := by decide +kernel
theorem dX5_findBy_36 : decode cX5_findBy 36 = .ok (.aload_n 0, 1) := by decide +kernel
theorem dX5_findBy_37 : decode cX5_findBy 37 = .ok (.getfield 7, 3) := by decide +kernel
theorem dX5_findBy_40 : decode cX5_findBy 40 = .ok (.bipush 10, 2) := by decide +kernel
theorem dX5_findBy_42 : decode cX5_findBy 42 = .ok (.iload_n 3, 1) := by decide +kernel
theorem dX5_findBy_43 : decode cX5_findBy 43 = .ok (.iadd, 1) := by decide +kernel
theorem dX5_findBy_44 : decode cX5_findBy 44 = .ok (.iconst 1, 1) := by decide +kernel
theorem dX5_findBy_45 : decode cX5_findBy 45 = .ok (.isub, 1) := by decide +kernel
theorem dX5_findBy_46 : decode cX5_findBy 46 = .ok (.iaload, 1) := by decide +kernel
theorem dX5_findBy_47 : decode cX5_findBy 47 = .ok (.isub, 1) := by decide +kernel
theorem dX5_findBy_48 : decode cX5_findBy 48 = .ok (.iload_n 1, 1) := by decide +kernel
theorem dX5_findBy_49 : decode cX5_findBy 49 = .ok (.if_icmp .lt 32, 3) := by decide +kernel
theorem dX5_findBy_52 : decode cX5_findBy 52 = .ok (.iload_n 3, 1) := by decide +kernel
theorem dX5_findBy_53 : decode cX5_findBy 53 = .ok (.aload_n 0, 1) := by decide +kernel
theorem dX5_findBy_54 : decode cX5_findBy 54 = .ok (.getfield 19, 3) := by decide +kernel
theorem dX5_findBy_57 : decode cX5_findBy 57 = .ok (.iload_n 2, 1) := by decide +kernel
theorem dX5_findBy_58 : decode cX5_findBy 58 = .ok (.iconst 1, 1) := by decide +kernel
theorem dX5_findBy_59 : decode cX5_findBy 59 = .ok (.isub, 1) := by decide +kernel
theorem dX5_findBy_60 : decode cX5_findBy 60 = .ok (.iaload, 1) := by decide +kernel
theorem dX5_findBy_61 : decode cX5_findBy 61 = .ok (.isub, 1) := by decide +kernel
theorem dX5_findBy_62 : decode cX5_findBy 62 = .ok (.aload_n 0, 1) := by decide +kernel
theorem dX5_findBy_63 : decode cX5_findBy 63 = .ok (.getfield 7, 3) := by decide +kernel
theorem dX5_findBy_66 : decode cX5_findBy 66 = .ok (.iconst 3, 1) := by decide +kernel
theorem dX5_findBy_67 : decode cX5_findBy 67 = .ok (.iaload, 1) := by decide +kernel
theorem dX5_findBy_68 : decode cX5_findBy 68 = .ok (.if_icmp .lt 13, 3) := by decide +kernel
theorem dX5_findBy_71 : decode cX5_findBy 71 = .ok (.aload_n 0, 1) := by decide +kernel
theorem dX5_findBy_72 : decode cX5_findBy 72 = .ok (.getfield 19, 3) := by decide +kernel
theorem dX5_findBy_75 : decode cX5_findBy 75 = .ok (.iload_n 2, 1) := by decide +kernel
theorem dX5_findBy_76 : decode cX5_findBy 76 = .ok (.iload_n 3, 1) := by decide +kernel
theorem dX5_findBy_77 : decode cX5_findBy 77 = .ok (.iastore, 1) := by decide +kernel
theorem dX5_findBy_78 : decode cX5_findBy 78 = .ok (.iinc 2 1, 3) := by decide +kernel
theorem dX5_findBy_81 : decode cX5_findBy 81 = .ok (.iinc 3 1, 3) := by decide +kernel
theorem dX5_findBy_84 : decode cX5_findBy 84 = .ok (.goto (-73), 3) := by decide +kernel
theorem dX5_findBy_87 : decode cX5_findBy 87 = .ok (.iload_n 2, 1) := by decide +kernel
theorem dX5_findBy_88 : decode cX5_findBy 88 = .ok (.ireturn, 1) := by decide +kernel
set_option maxRecDepth 20000 in
theorem ggX5_layFree_X5_lengthOf : GoodIn wsX5_layFree wsX5_lengthOf := goodIn_r _ [8, 1, 9, 10, 11, 7, 12, 21, 22, 23, 24, 25, 26, 27, 28, 29, 30, 31] (by decide +kernel) (by decide +kernel)
set_option maxRecDepth 20000 in
theorem gX5_layFree_X5_lengthOf : GoodIn wsX5_layFree (wsV RX5 55 RX5 yX5_lengthOf wsX5_lengthOf) := goodIn_app (goodIn_of _ (by decide +kernel)) ggX5_layFree_X5_lengthOf
set_option maxRecDepth 20000 in
theorem ggX5_layFree_X5_whole : GoodIn wsX5_layFree wsX5_whole := goodIn_r _ [16, 1, 21, 22, 23, 24, 25, 26, 27, 28, 29, 30, 31] (by decide +kernel) (by decide +kernel)
set_option maxRecDepth 20000 in
theorem gX5_layFree_X5_whole : GoodIn wsX5_layFree (wsV RX5 58 RX5 yX5_whole wsX5_whole) := goodIn_app (goodIn_of _ (by decide +kernel)) ggX5_layFree_X5_whole
set_option maxRecDepth 20000 in
theorem ggX5_layFree_X5_remainder : GoodIn wsX5_layFree wsX5_remainder := goodIn_r _ [20, 1, 4, 5, 6, 7, 8, 9, 10, 11, 12, 13, 14, 15, 16, 21, 22, 23, 24, 25, 26, 27, 28, 29, 30, 31] (by decide +kernel) (by decide +kernel)
set_option maxRecDepth 20000 in
theorem gX5_layFree_X5_remainder : GoodIn wsX5_layFree (wsV RX5 62 RX5 yX5_remainder wsX5_remainder) := goodIn_app (goodIn_of _ (by decide +kernel)) ggX5_layFree_X5_remainder
theorem dX5_layFree_0 : decode cX5_layFree 0 = .ok (.iconst 0, 1) := by decide +kernel
theorem dX5_layFree_1 : decode cX5_layFree 1 = .ok (.istore_n 1, 1) := by decide +kernel
theorem dX5_layFree_2 : decode cX5_layFree 2 = .ok (.iconst 0, 1) := by decide +kernel
theorem dX5_layFree_3 : decode cX5_layFree 3 = .ok (.istore_n 2, 1) := by decide +kernel
theorem dX5_layFree_4 : decode cX5_layFree 4 = .ok (.iload_n 2, 1) := by decide +kernel
theorem dX5_layFree_5 : decode cX5_layFree 5 = .ok (.aload_n 0, 1) := by decide +kernel
theorem dX5_layFree_6 : decode cX5_layFree 6 = .ok (.getfield 7, 3) := by decide +kernel
theorem dX5_layFree_9 : decode cX5_layFree 9 = .ok (.bipush 74, 2) := by decide +kernel
theorem dX5_layFree_11 : decode cX5_layFree 11 = .ok (.iaload, 1) := by decide +kernel
theorem dX5_layFree_12 : decode cX5_layFree 12 = .ok (.if_icmp .ge 46, 3) := by decide +kernel
theorem dX5_layFree_15 : decode cX5_layFree 15 = .ok (.aload_n 0, 1) := by decide +kernel
theorem dX5_layFree_16 : decode cX5_layFree 16 = .ok (.getfield 22, 3) := by decide +kernel
theorem dX5_layFree_19 : decode cX5_layFree 19 = .ok (.iload_n 2, 1) := by decide +kernel
theorem dX5_layFree_20 : decode cX5_layFree 20 = .ok (.aload_n 0, 1) := by decide +kernel
theorem dX5_layFree_21 : decode cX5_layFree 21 = .ok (.iload_n 2, 1) := by decide +kernel
theorem dX5_layFree_22 : decode cX5_layFree 22 = .ok (.invokevirtual 55, 3) := by decide +kernel
theorem dX5_layFree_25 : decode cX5_layFree 25 = .ok (.i2l, 1) := by decide +kernel
theorem dX5_layFree_26 : decode cX5_layFree 26 = .ok (.aload_n 0, 1) := by decide +kernel
theorem dX5_layFree_27 : decode cX5_layFree 27 = .ok (.getfield 7, 3) := by decide +kernel
theorem dX5_layFree_30 : decode cX5_layFree 30 = .ok (.bipush 6, 2) := by decide +kernel
theorem dX5_layFree_32 : decode cX5_layFree 32 = .ok (.iaload, 1) := by decide +kernel
theorem dX5_layFree_33 : decode cX5_layFree 33 = .ok (.i2l, 1) := by decide +kernel
theorem dX5_layFree_34 : decode cX5_layFree 34 = .ok (.lmul, 1) := by decide +kernel
theorem dX5_layFree_35 : decode cX5_layFree 35 = .ok (.aload_n 0, 1) := by decide +kernel
theorem dX5_layFree_36 : decode cX5_layFree 36 = .ok (.invokevirtual 58, 3) := by decide +kernel
theorem dX5_layFree_39 : decode cX5_layFree 39 = .ok (.i2l, 1) := by decide +kernel
theorem dX5_layFree_40 : decode cX5_layFree 40 = .ok (.ldiv, 1) := by decide +kernel
theorem dX5_layFree_41 : decode cX5_layFree 41 = .ok (.l2i, 1) := by decide +kernel
theorem dX5_layFree_42 : decode cX5_layFree 42 = .ok (.iastore, 1) := by decide +kernel
theorem dX5_layFree_43 : decode cX5_layFree 43 = .ok (.iload_n 1, 1) := by decide +kernel
theorem dX5_layFree_44 : decode cX5_layFree 44 = .ok (.aload_n 0, 1) := by decide +kernel
theorem dX5_layFree_45 : decode cX5_layFree 45 = .ok (.getfield 22, 3) := by decide +kernel
theorem dX5_layFree_48 : decode cX5_layFree 48 = .ok (.iload_n 2, 1) := by decide +kernel
theorem dX5_layFree_49 : decode cX5_layFree 49 = .ok (.iaload, 1) := by decide +kernel
theorem dX5_layFree_50 : decode cX5_layFree 50 = .ok (.iadd, 1) := by decide +kernel
theorem dX5_layFree_51 : decode cX5_layFree 51 = .ok (.istore_n 1, 1) := by decide +kernel
theorem dX5_layFree_52 : decode cX5_layFree 52 = .ok (.iinc 2 1, 3) := by decide +kernel
theorem dX5_layFree_55 : decode cX5_layFree 55 = .ok (.goto (-51), 3) := by decide +kernel
theorem dX5_layFree_58 : decode cX5_layFree 58 = .ok (.iconst 0, 1) := by decide +kernel
theorem dX5_layFree_59 : decode cX5_layFree 59 = .ok (.istore_n 2, 1) := by decide +kernel
theorem dX5_layFree_60 : decode cX5_layFree 60 = .ok (.iload_n 2, 1) := by decide +kernel
theorem dX5_layFree_61 : decode cX5_layFree 61 = .ok (.bipush 16, 2) := by decide +kernel
theorem dX5_layFree_63 : decode cX5_layFree 63 = .ok (.if_icmp .ge 16, 3) := by decide +kernel
theorem dX5_layFree_66 : decode cX5_layFree 66 = .ok (.aload_n 0, 1) := by decide +kernel
theorem dX5_layFree_67 : decode cX5_layFree 67 = .ok (.getfield 32, 3) := by decide +kernel
theorem dX5_layFree_70 : decode cX5_layFree 70 = .ok (.iload_n 2, 1) := by decide +kernel
theorem dX5_layFree_71 : decode cX5_layFree 71 = .ok (.iconst 0, 1) := by decide +kernel
theorem dX5_layFree_72 : decode cX5_layFree 72 = .ok (.bastore, 1) := by decide +kernel
theorem dX5_layFree_73 : decode cX5_layFree 73 = .ok (.iinc 2 1, 3) := by decide +kernel
theorem dX5_layFree_76 : decode cX5_layFree 76 = .ok (.goto (-16), 3) := by decide +kernel
theorem dX5_layFree_79 : decode cX5_layFree 79 = .ok (.aload_n 0, 1) := by decide +kernel
theorem dX5_layFree_80 : decode cX5_layFree 80 = .ok (.getfield 7, 3) := by decide +kernel
theorem dX5_layFree_83 : decode cX5_layFree 83 = .ok (.bipush 6, 2) := by decide +kernel
theorem dX5_layFree_85 : decode cX5_layFree 85 = .ok (.iaload, 1) := by decide +kernel
theorem dX5_layFree_86 : decode cX5_layFree 86 = .ok (.iload_n 1, 1) := by decide +kernel
theorem dX5_layFree_87 : decode cX5_layFree 87 = .ok (.isub, 1) := by decide +kernel
theorem dX5_layFree_88 : decode cX5_layFree 88 = .ok (.istore_n 2, 1) := by decide +kernel
theorem dX5_layFree_89 : decode cX5_layFree 89 = .ok (.iload_n 2, 1) := by decide +kernel
theorem dX5_layFree_90 : decode cX5_layFree 90 = .ok (.ifCond .le 100, 3) := by decide +kernel
theorem dX5_layFree_93 : decode cX5_layFree 93 = .ok (.bipush (-9), 2) := by decide +kernel
theorem dX5_layFree_95 : decode cX5_layFree 95 = .ok (.istore_n 3, 1) := by decide +kernel
theorem dX5_layFree_96 : decode cX5_layFree 96 = .ok (.iconst 0, 1) := by decide +kernel
theorem dX5_layFree_97 : decode cX5_layFree 97 = .ok (.istore 4, 2) := by decide +kernel
theorem dX5_layFree_99 : decode cX5_layFree 99 = .ok (.iload 4, 2) := by decide +kernel
theorem dX5_layFree_101 : decode cX5_layFree 101 = .ok (.aload_n 0, 1) := by decide +kernel
theorem dX5_layFree_102 : decode cX5_layFree 102 = .ok (.getfield 7, 3) := by decide +kernel
theorem dX5_layFree_105 : decode cX5_layFree 105 = .ok (.bipush 74, 2) := by decide +kernel
theorem dX5_layFree_107 : decode cX5_layFree 107 = .ok (.iaload, 1) := by decide +kernel
theorem dX5_layFree_108 : decode cX5_layFree 108 = .ok (.if_icmp .ge 59, 3) := by decide +kernel
theorem dX5_layFree_111 : decode cX5_layFree 111 = .ok (.aload_n 0, 1) := by decide +kernel
theorem dX5_layFree_112 : decode cX5_layFree 112 = .ok (.getfield 32, 3) := by decide +kernel
theorem dX5_layFree_115 : decode cX5_layFree 115 = .ok (.iload 4, 2) := by decide +kernel
theorem dX5_layFree_117 : decode cX5_layFree 117 = .ok (.baload, 1) := by decide +kernel
theorem dX5_layFree_118 : decode cX5_layFree 118 = .ok (.ifCond .ne 28, 3) := by decide +kernel
theorem dX5_layFree_121 : decode cX5_layFree 121 = .ok (.iload_n 3, 1) := by decide +kernel
theorem dX5_layFree_122 : decode cX5_layFree 122 = .ok (.bipush (-9), 2) := by decide +kernel
theorem dX5_layFree_124 : decode cX5_layFree 124 = .ok (.if_icmp .eq 18, 3) := by decide +kernel
theorem dX5_layFree_127 : decode cX5_layFree 127 = .ok (.aload_n 0, 1) := by decide +kernel
theorem dX5_layFree_128 : decode cX5_layFree 128 = .ok (.iload 4, 2) := by decide +kernel
theorem dX5_layFree_130 : decode cX5_layFree 130 = .ok (.invokevirtual 62, 3) := by decide +kernel
theorem dX5_layFree_133 : decode cX5_layFree 133 = .ok (.aload_n 0, 1) := by decide +kernel
theorem dX5_layFree_134 : decode cX5_layFree 134 = .ok (.iload_n 3, 1) := by decide +kernel
theorem dX5_layFree_135 : decode cX5_layFree 135 = .ok (.invokevirtual 62, 3) := by decide +kernel
theorem dX5_layFree_138 : decode cX5_layFree 138 = .ok (.lcmp, 1) := by decide +kernel
theorem dX5_layFree_139 : decode cX5_layFree 139 = .ok (.ifCond .le 7, 3) := by decide +kernel
theorem dX5_layFree_142 : decode cX5_layFree 142 = .ok (.iconst 1, 1) := by decide +kernel
theorem dX5_layFree_143 : decode cX5_layFree 143 = .ok (.goto 4, 3) := by decide +kernel
theorem dX5_layFree_146 : decode cX5_layFree 146 = .ok (.iconst 0, 1) := by decide +kernel
theorem dX5_layFree_147 : decode cX5_layFree 147 = .ok (.istore 5, 2) := by decide +kernel
theorem dX5_layFree_149 : decode cX5_layFree 149 = .ok (.iload 5, 2) := by decide +kernel
theorem dX5_layFree_151 : decode cX5_layFree 151 = .ok (.ifCond .eq 8, 3) := by decide +kernel
theorem dX5_layFree_154 : decode cX5_layFree 154 = .ok (.iload 4, 2) := by decide +kernel
theorem dX5_layFree_156 : decode cX5_layFree 156 = .ok (.goto 4, 3) := by decide +kernel
theorem dX5_layFree_159 : decode cX5_layFree 159 = .ok (.iload_n 3, 1) := by decide +kernel
theorem dX5_layFree_160 : decode cX5_layFree 160 = .ok (.istore_n 3, 1) := by decide +kernel
theorem dX5_layFree_161 : decode cX5_layFree 161 = .ok (.iinc 4 1, 3) := by decide +kernel
theorem dX5_layFree_164 : decode cX5_layFree 164 = .ok (.goto (-65), 3) := by decide +kernel
theorem dX5_layFree_167 : decode cX5_layFree 167 = .ok (.aload_n 0, 1) := by decide +kernel
theorem dX5_layFree_168 : decode cX5_layFree 168 = .ok (.getfield 32, 3) := by decide +kernel
theorem dX5_layFree_171 : decode cX5_layFree 171 = .ok (.iload_n 3, 1) := by decide +kernel
theorem dX5_layFree_172 : decode cX5_layFree 172 = .ok (.iconst 1, 1) := by decide +kernel
theorem dX5_layFree_173 : decode cX5_layFree 173 = .ok (.bastore, 1) := by decide +kernel
theorem dX5_layFree_174 : decode cX5_layFree 174 = .ok (.aload_n 0, 1) := by decide +kernel
theorem dX5_layFree_175 : decode cX5_layFree 175 = .ok (.getfield 22, 3) := by decide +kernel
theorem dX5_layFree_178 : decode cX5_layFree 178 = .ok (.iload_n 3, 1) := by decide +kernel
theorem dX5_layFree_179 : decode cX5_layFree 179 = .ok (.dup2, 1) := by decide +kernel
theorem dX5_layFree_180 : decode cX5_layFree 180 = .ok (.iaload, 1) := by decide +kernel
theorem dX5_layFree_181 : decode cX5_layFree 181 = .ok (.iconst 1, 1) := by decide +kernel
theorem dX5_layFree_182 : decode cX5_layFree 182 = .ok (.iadd, 1) := by decide +kernel
theorem dX5_layFree_183 : decode cX5_layFree 183 = .ok (.iastore, 1) := by decide +kernel
theorem dX5_layFree_184 : decode cX5_layFree 184 = .ok (.iinc 2 (-1), 3) := by decide +kernel
theorem dX5_layFree_187 : decode cX5_layFree 187 = .ok (.goto (-98), 3) := by decide +kernel
theorem dX5_layFree_190 : decode cX5_layFree 190 = .ok (.return_, 1) := by decide +kernel
set_option maxRecDepth 20000 in
theorem ggX5_remainder_X5_lengthOf : GoodIn wsX5_remainder wsX5_lengthOf := goodIn_r _ [6, 1, 7, 8, 9, 5, 10, 15, 16, 17, 18, 19, 20, 21, 22, 23, 24, 25] (by decide +kernel) (by decide +kernel)
set_option maxRecDepth 20000 in
theorem gX5_remainder_X5_lengthOf : GoodIn wsX5_remainder (wsV RX5 55 RX5 yX5_lengthOf wsX5_lengthOf) := goodIn_app (goodIn_of _ (by decide +kernel)) ggX5_remainder_X5_lengthOf
set_option maxRecDepth 20000 in
theorem ggX5_remainder_X5_whole : GoodIn wsX5_remainder wsX5_whole := goodIn_r _ [14, 1, 15, 16, 17, 18, 19, 20, 21, 22, 23, 24, 25] (by decide +kernel) (by decide +kernel)
set_option maxRecDepth 20000 in
theorem gX5_remainder_X5_whole : GoodIn wsX5_remainder (wsV RX5 58 RX5 yX5_whole wsX5_whole) := goodIn_app (goodIn_of _ (by decide +kernel)) ggX5_remainder_X5_whole
theorem dX5_remainder_0 : decode cX5_remainder 0 = .ok (.aload_n 0, 1) := by decide +kernel
theorem dX5_remainder_1 : decode cX5_remainder 1 = .ok (.iload_n 1, 1) := by decide +kernel
theorem dX5_remainder_2 : decode cX5_remainder 2 = .ok (.invokevirtual 55, 3) := by decide +kernel
theorem dX5_remainder_5 : decode cX5_remainder 5 = .ok (.i2l, 1) := by decide +kernel
theorem dX5_remainder_6 : decode cX5_remainder 6 = .ok (.aload_n 0, 1) := by decide +kernel
theorem dX5_remainder_7 : decode cX5_remainder 7 = .ok (.getfield 7, 3) := by decide +kernel
theorem dX5_remainder_10 : decode cX5_remainder 10 = .ok (.bipush 6, 2) := by decide +kernel
theorem dX5_remainder_12 : decode cX5_remainder 12 = .ok (.iaload, 1) := by decide +kernel
theorem dX5_remainder_13 : decode cX5_remainder 13 = .ok (.i2l, 1) := by decide +kernel
theorem dX5_remainder_14 : decode cX5_remainder 14 = .ok (.lmul, 1) := by decide +kernel
theorem dX5_remainder_15 : decode cX5_remainder 15 = .ok (.aload_n 0, 1) := by decide +kernel
theorem dX5_remainder_16 : decode cX5_remainder 16 = .ok (.invokevirtual 58, 3) := by decide +kernel
theorem dX5_remainder_19 : decode cX5_remainder 19 = .ok (.i2l, 1) := by decide +kernel
theorem dX5_remainder_20 : decode cX5_remainder 20 = .ok (.lrem, 1) := by decide +kernel
theorem dX5_remainder_21 : decode cX5_remainder 21 = .ok (.lreturn, 1) := by decide +kernel
theorem dX5_sampleAt_0 : decode cX5_sampleAt 0 = .ok (.iload_n 0, 1) := by decide +kernel
theorem dX5_sampleAt_1 : decode cX5_sampleAt 1 = .ok (.i2l, 1) := by decide +kernel
theorem dX5_sampleAt_2 : decode cX5_sampleAt 2 = .ok (.iload_n 1, 1) := by decide +kernel
theorem dX5_sampleAt_3 : decode cX5_sampleAt 3 = .ok (.i2l, 1) := by decide +kernel
theorem dX5_sampleAt_4 : decode cX5_sampleAt 4 = .ok (.lmul, 1) := by decide +kernel
theorem dX5_sampleAt_5 : decode cX5_sampleAt 5 = .ok (.iload_n 2, 1) := by decide +kernel
theorem dX5_sampleAt_6 : decode cX5_sampleAt 6 = .ok (.i2l, 1) := by decide +kernel
theorem dX5_sampleAt_7 : decode cX5_sampleAt 7 = .ok (.ldiv, 1) := by decide +kernel
theorem dX5_sampleAt_8 : decode cX5_sampleAt 8 = .ok (.l2i, 1) := by decide +kernel
theorem dX5_sampleAt_9 : decode cX5_sampleAt 9 = .ok (.ireturn, 1) := by decide +kernel
set_option maxRecDepth 20000 in
theorem ggX5_fits_X5_lengthOf : GoodIn wsX5_fits wsX5_lengthOf := goodIn_r _ [7, 1, 8, 9, 10, 6, 11, 12, 13, 14, 15, 16, 17, 18, 19, 20, 21, 22] (by decide +kernel) (by decide +kernel)
set_option maxRecDepth 20000 in
theorem gX5_fits_X5_lengthOf : GoodIn wsX5_fits (wsV RX5 55 RX5 yX5_lengthOf wsX5_lengthOf) := goodIn_app (goodIn_of _ (by decide +kernel)) ggX5_fits_X5_lengthOf
theorem dX5_fits_0 : decode cX5_fits 0 = .ok (.iload_n 2, 1) := by decide +kernel
theorem dX5_fits_1 : decode cX5_fits 1 = .ok (.i2l, 1) := by decide +kernel
theorem dX5_fits_2 : decode cX5_fits 2 = .ok (.aload_n 0, 1) := by decide +kernel
theorem dX5_fits_3 : decode cX5_fits 3 = .ok (.iload_n 1, 1) := by decide +kernel
theorem dX5_fits_4 : decode cX5_fits 4 = .ok (.invokevirtual 55, 3) := by decide +kernel
theorem dX5_fits_7 : decode cX5_fits 7 = .ok (.i2l, 1) := by decide +kernel
theorem dX5_fits_8 : decode cX5_fits 8 = .ok (.aload_n 0, 1) := by decide +kernel
theorem dX5_fits_9 : decode cX5_fits 9 = .ok (.getfield 7, 3) := by decide +kernel
theorem dX5_fits_12 : decode cX5_fits 12 = .ok (.iconst 4, 1) := by decide +kernel
theorem dX5_fits_13 : decode cX5_fits 13 = .ok (.iaload, 1) := by decide +kernel
theorem dX5_fits_14 : decode cX5_fits 14 = .ok (.i2l, 1) := by decide +kernel
theorem dX5_fits_15 : decode cX5_fits 15 = .ok (.lmul, 1) := by decide +kernel
theorem dX5_fits_16 : decode cX5_fits 16 = .ok (.ldc2_w 66, 3) := by decide +kernel
theorem dX5_fits_19 : decode cX5_fits 19 = .ok (.ldiv, 1) := by decide +kernel
theorem dX5_fits_20 : decode cX5_fits 20 = .ok (.lcmp, 1) := by decide +kernel
theorem dX5_fits_21 : decode cX5_fits 21 = .ok (.ifCond .lt 31, 3) := by decide +kernel
theorem dX5_fits_24 : decode cX5_fits 24 = .ok (.iload_n 2, 1) := by decide +kernel
theorem dX5_fits_25 : decode cX5_fits 25 = .ok (.i2l, 1) := by decide +kernel
theorem dX5_fits_26 : decode cX5_fits 26 = .ok (.aload_n 0, 1) := by decide +kernel
theorem dX5_fits_27 : decode cX5_fits 27 = .ok (.iload_n 1, 1) := by decide +kernel
theorem dX5_fits_28 : decode cX5_fits 28 = .ok (.invokevirtual 55, 3) := by decide +kernel
theorem dX5_fits_31 : decode cX5_fits 31 = .ok (.i2l, 1) := by decide +kernel
theorem dX5_fits_32 : decode cX5_fits 32 = .ok (.aload_n 0, 1) := by decide +kernel
theorem dX5_fits_33 : decode cX5_fits 33 = .ok (.getfield 7, 3) := by decide +kernel
theorem dX5_fits_36 : decode cX5_fits 36 = .ok (.iconst 5, 1) := by decide +kernel
theorem dX5_fits_37 : decode cX5_fits 37 = .ok (.iaload, 1) := by decide +kernel
theorem dX5_fits_38 : decode cX5_fits 38 = .ok (.i2l, 1) := by decide +kernel
theorem dX5_fits_39 : decode cX5_fits 39 = .ok (.lmul, 1) := by decide +kernel
theorem dX5_fits_40 : decode cX5_fits 40 = .ok (.ldc2_w 66, 3) := by decide +kernel
theorem dX5_fits_43 : decode cX5_fits 43 = .ok (.ldiv, 1) := by decide +kernel
theorem dX5_fits_44 : decode cX5_fits 44 = .ok (.lcmp, 1) := by decide +kernel
theorem dX5_fits_45 : decode cX5_fits 45 = .ok (.ifCond .gt 7, 3) := by decide +kernel
theorem dX5_fits_48 : decode cX5_fits 48 = .ok (.iconst 1, 1) := by decide +kernel
theorem dX5_fits_49 : decode cX5_fits 49 = .ok (.goto 4, 3) := by decide +kernel
theorem dX5_fits_52 : decode cX5_fits 52 = .ok (.iconst 0, 1) := by decide +kernel
theorem dX5_fits_53 : decode cX5_fits 53 = .ok (.ireturn, 1) := by decide +kernel
set_option maxRecDepth 20000 in
theorem ggX5_off_X5_sampleAt : GoodIn wsX5_off wsX5_sampleAt := goodIn_r _ [5] (by decide +kernel) (by decide +kernel)
set_option maxRecDepth 20000 in
theorem gX5_off_X5_sampleAt : GoodIn wsX5_off (va_wsS RX5 68 yX5_sampleAt wsX5_sampleAt) := goodIn_app (goodIn_of _ (by decide +kernel)) ggX5_off_X5_sampleAt
set_option maxRecDepth 20000 in
theorem ggX5_off_X5_frameOf : GoodIn wsX5_off wsX5_frameOf := goodIn_r _ [9, 1, 10, 11, 12, 13, 14, 15, 16, 17, 18, 19, 20] (by decide +kernel) (by decide +kernel)
set_option maxRecDepth 20000 in
theorem gX5_off_X5_frameOf : GoodIn wsX5_off (wsV RX5 51 RX5 yX5_frameOf wsX5_frameOf) := goodIn_app (goodIn_of _ (by decide +kernel)) ggX5_off_X5_frameOf
theorem dX5_off_0 : decode cX5_off 0 = .ok (.iload_n 2, 1) := by decide +kernel
theorem dX5_off_1 : decode cX5_off 1 = .ok (.iload_n 3, 1) := by decide +kernel
theorem dX5_off_2 : decode cX5_off 2 = .ok (.iload 4, 2) := by decide +kernel
theorem dX5_off_4 : decode cX5_off 4 = .ok (.invokestatic 68, 3) := by decide +kernel
theorem dX5_off_7 : decode cX5_off 7 = .ok (.i2l, 1) := by decide +kernel
theorem dX5_off_8 : decode cX5_off 8 = .ok (.aload_n 0, 1) := by decide +kernel
theorem dX5_off_9 : decode cX5_off 9 = .ok (.getfield 7, 3) := by decide +kernel
theorem dX5_off_12 : decode cX5_off 12 = .ok (.iconst 0, 1) := by decide +kernel
theorem dX5_off_13 : decode cX5_off 13 = .ok (.iaload, 1) := by decide +kernel
theorem dX5_off_14 : decode cX5_off 14 = .ok (.i2l, 1) := by decide +kernel
theorem dX5_off_15 : decode cX5_off 15 = .ok (.lmul, 1) := by decide +kernel
theorem dX5_off_16 : decode cX5_off 16 = .ok (.aload_n 0, 1) := by decide +kernel
theorem dX5_off_17 : decode cX5_off 17 = .ok (.iload_n 1, 1) := by decide +kernel
theorem dX5_off_18 : decode cX5_off 18 = .ok (.invokevirtual 51, 3) := by decide +kernel
theorem dX5_off_21 : decode cX5_off 21 = .ok (.i2l, 1) := by decide +kernel
theorem dX5_off_22 : decode cX5_off 22 = .ok (.iload_n 3, 1) := by decide +kernel
theorem dX5_off_23 : decode cX5_off 23 = .ok (.i2l, 1) := by decide +kernel
theorem dX5_off_24 : decode cX5_off 24 = .ok (.lmul, 1) := by decide +kernel
theorem dX5_off_25 : decode cX5_off 25 = .ok (.lsub, 1) := by decide +kernel
theorem dX5_off_26 : decode cX5_off 26 = .ok (.lstore 5, 2) := by decide +kernel
theorem dX5_off_28 : decode cX5_off 28 = .ok (.lload 5, 2) := by decide +kernel
theorem dX5_off_30 : decode cX5_off 30 = .ok (.lconst 0, 1) := by decide +kernel
theorem dX5_off_31 : decode cX5_off 31 = .ok (.lcmp, 1) := by decide +kernel
theorem dX5_off_32 : decode cX5_off 32 = .ok (.ifCond .ge 9, 3) := by decide +kernel
theorem dX5_off_35 : decode cX5_off 35 = .ok (.lload 5, 2) := by decide +kernel
theorem dX5_off_37 : decode cX5_off 37 = .ok (.lneg, 1) := by decide +kernel
theorem dX5_off_38 : decode cX5_off 38 = .ok (.goto 5, 3) := by decide +kernel
theorem dX5_off_41 : decode cX5_off 41 = .ok (.lload 5, 2) := by decide +kernel
theorem dX5_off_43 : decode cX5_off 43 = .ok (.lreturn, 1) := by decide +kernel
set_option maxRecDepth 20000 in
theorem ggX5_bestFrom_X5_sampleAt : GoodIn wsX5_bestFrom wsX5_sampleAt := goodIn_r _ [7] (by decide +kernel) (by decide +kernel)
set_option maxRecDepth 20000 in
theorem gX5_bestFrom_X5_sampleAt : GoodIn wsX5_bestFrom (va_wsS RX5 68 yX5_sampleAt wsX5_sampleAt) := goodIn_app (goodIn_of _ (by decide +kernel)) ggX5_bestFrom_X5_sampleAt
set_option maxRecDepth 20000 in
theorem ggX5_bestFrom_X5_fits : GoodIn wsX5_bestFrom wsX5_fits := goodIn_r _ [11, 2, 12, 13, 14, 15, 6, 16, 17, 18, 19, 20, 25, 26, 27, 28, 29, 30, 31, 32, 33, 34, 35] (by decide +kernel) (by decide +kernel)
set_option maxRecDepth 20000 in
theorem gX5_bestFrom_X5_fits : GoodIn wsX5_bestFrom (wsV RX5 74 RX5 yX5_fits wsX5_fits) := goodIn_app (goodIn_of _ (by decide +kernel)) ggX5_bestFrom_X5_fits
set_option maxRecDepth 20000 in
theorem ggX5_bestFrom_X5_off : GoodIn wsX5_bestFrom wsX5_off := goodIn_r _ [24, 2, 4, 5, 6, 7, 17, 18, 19, 20, 25, 26, 27, 28, 29, 30, 31, 32, 33, 34, 35] (by decide +kernel) (by decide +kernel)
set_option maxRecDepth 20000 in
theorem gX5_bestFrom_X5_off : GoodIn wsX5_bestFrom (wsV RX5 78 RX5 yX5_off wsX5_off) := goodIn_app (goodIn_of _ (by decide +kernel)) ggX5_bestFrom_X5_off
theorem dX5_bestFrom_0 : decode cX5_bestFrom 0 = .ok (.iload_n 2, 1) := by decide +kernel
theorem dX5_bestFrom_1 : decode cX5_bestFrom 1 = .ok (.iload_n 3, 1) := by decide +kernel
theorem dX5_bestFrom_2 : decode cX5_bestFrom 2 = .ok (.iload 4, 2) := by decide +kernel
theorem dX5_bestFrom_4 : decode cX5_bestFrom 4 = .ok (.invokestatic 68, 3) := by decide +kernel
theorem dX5_bestFrom_7 : decode cX5_bestFrom 7 = .ok (.istore 5, 2) := by decide +kernel
theorem dX5_bestFrom_9 : decode cX5_bestFrom 9 = .ok (.ldc2_w 72, 3) := by decide +kernel
theorem dX5_bestFrom_12 : decode cX5_bestFrom 12 = .ok (.lstore 6, 2) := by decide +kernel
theorem dX5_bestFrom_14 : decode cX5_bestFrom 14 = .ok (.iload_n 1, 1) := by decide +kernel
theorem dX5_bestFrom_15 : decode cX5_bestFrom 15 = .ok (.aload_n 0, 1) := by decide +kernel
theorem dX5_bestFrom_16 : decode cX5_bestFrom 16 = .ok (.getfield 7, 3) := by decide +kernel
theorem dX5_bestFrom_19 : decode cX5_bestFrom 19 = .ok (.bipush 74, 2) := by decide +kernel
theorem dX5_bestFrom_21 : decode cX5_bestFrom 21 = .ok (.iaload, 1) := by decide +kernel
theorem dX5_bestFrom_22 : decode cX5_bestFrom 22 = .ok (.iconst 1, 1) := by decide +kernel
theorem dX5_bestFrom_23 : decode cX5_bestFrom 23 = .ok (.isub, 1) := by decide +kernel
theorem dX5_bestFrom_24 : decode cX5_bestFrom 24 = .ok (.if_icmp .ne 27, 3) := by decide +kernel
theorem dX5_bestFrom_27 : decode cX5_bestFrom 27 = .ok (.aload_n 0, 1) := by decide +kernel
theorem dX5_bestFrom_28 : decode cX5_bestFrom 28 = .ok (.iload_n 1, 1) := by decide +kernel
theorem dX5_bestFrom_29 : decode cX5_bestFrom 29 = .ok (.iload_n 3, 1) := by decide +kernel
theorem dX5_bestFrom_30 : decode cX5_bestFrom 30 = .ok (.iload 5, 2) := by decide +kernel
theorem dX5_bestFrom_32 : decode cX5_bestFrom 32 = .ok (.isub, 1) := by decide +kernel
theorem dX5_bestFrom_33 : decode cX5_bestFrom 33 = .ok (.invokevirtual 74, 3) := by decide +kernel
theorem dX5_bestFrom_36 : decode cX5_bestFrom 36 = .ok (.ifCond .eq 7, 3) := by decide +kernel
theorem dX5_bestFrom_39 : decode cX5_bestFrom 39 = .ok (.lconst 0, 1) := by decide +kernel
theorem dX5_bestFrom_40 : decode cX5_bestFrom 40 = .ok (.goto 6, 3) := by decide +kernel
theorem dX5_bestFrom_43 : decode cX5_bestFrom 43 = .ok (.ldc2_w 72, 3) := by decide +kernel
theorem dX5_bestFrom_46 : decode cX5_bestFrom 46 = .ok (.lstore 6, 2) := by decide +kernel
theorem dX5_bestFrom_48 : decode cX5_bestFrom 48 = .ok (.goto 77, 3) := by decide +kernel
theorem dX5_bestFrom_51 : decode cX5_bestFrom 51 = .ok (.iload_n 2, 1) := by decide +kernel
theorem dX5_bestFrom_52 : decode cX5_bestFrom 52 = .ok (.iconst 1, 1) := by decide +kernel
theorem dX5_bestFrom_53 : decode cX5_bestFrom 53 = .ok (.iadd, 1) := by decide +kernel
theorem dX5_bestFrom_54 : decode cX5_bestFrom 54 = .ok (.istore 8, 2) := by decide +kernel
theorem dX5_bestFrom_56 : decode cX5_bestFrom 56 = .ok (.iload 8, 2) := by decide +kernel
theorem dX5_bestFrom_58 : decode cX5_bestFrom 58 = .ok (.iload 4, 2) := by decide +kernel
theorem dX5_bestFrom_60 : decode cX5_bestFrom 60 = .ok (.if_icmp .ge 65, 3) := by decide +kernel
theorem dX5_bestFrom_63 : decode cX5_bestFrom 63 = .ok (.aload_n 0, 1) := by decide +kernel
theorem dX5_bestFrom_64 : decode cX5_bestFrom 64 = .ok (.iload_n 1, 1) := by decide +kernel
theorem dX5_bestFrom_65 : decode cX5_bestFrom 65 = .ok (.iload 8, 2) := by decide +kernel
theorem dX5_bestFrom_67 : decode cX5_bestFrom 67 = .ok (.iload_n 3, 1) := by decide +kernel
theorem dX5_bestFrom_68 : decode cX5_bestFrom 68 = .ok (.iload 4, 2) := by decide +kernel
theorem dX5_bestFrom_70 : decode cX5_bestFrom 70 = .ok (.invokestatic 68, 3) := by decide +kernel
theorem dX5_bestFrom_73 : decode cX5_bestFrom 73 = .ok (.iload 5, 2) := by decide +kernel
theorem dX5_bestFrom_75 : decode cX5_bestFrom 75 = .ok (.isub, 1) := by decide +kernel
theorem dX5_bestFrom_76 : decode cX5_bestFrom 76 = .ok (.invokevirtual 74, 3) := by decide +kernel
theorem dX5_bestFrom_79 : decode cX5_bestFrom 79 = .ok (.istore 9, 2) := by decide +kernel
theorem dX5_bestFrom_81 : decode cX5_bestFrom 81 = .ok (.aload_n 0, 1) := by decide +kernel
theorem dX5_bestFrom_82 : decode cX5_bestFrom 82 = .ok (.getfield 28, 3) := by decide +kernel
theorem dX5_bestFrom_85 : decode cX5_bestFrom 85 = .ok (.bipush 33, 2) := by decide +kernel
theorem dX5_bestFrom_87 : decode cX5_bestFrom 87 = .ok (.iload_n 1, 1) := by decide +kernel
theorem dX5_bestFrom_88 : decode cX5_bestFrom 88 = .ok (.iconst 1, 1) := by decide +kernel
theorem dX5_bestFrom_89 : decode cX5_bestFrom 89 = .ok (.iadd, 1) := by decide +kernel
theorem dX5_bestFrom_90 : decode cX5_bestFrom 90 = .ok (.imul, 1) := by decide +kernel
theorem dX5_bestFrom_91 : decode cX5_bestFrom 91 = .ok (.iload 8, 2) := by decide +kernel
theorem dX5_bestFrom_93 : decode cX5_bestFrom 93 = .ok (.iadd, 1) := by decide +kernel
theorem dX5_bestFrom_94 : decode cX5_bestFrom 94 = .ok (.laload, 1) := by decide +kernel
theorem dX5_bestFrom_95 : decode cX5_bestFrom 95 = .ok (.lstore 10, 2) := by decide +kernel
theorem dX5_bestFrom_97 : decode cX5_bestFrom 97 = .ok (.iload 9, 2) := by decide +kernel
theorem dX5_bestFrom_99 : decode cX5_bestFrom 99 = .ok (.ifCond .eq 16, 3) := by decide +kernel
theorem dX5_bestFrom_102 : decode cX5_bestFrom 102 = .ok (.lload 10, 2) := by decide +kernel
theorem dX5_bestFrom_104 : decode cX5_bestFrom 104 = .ok (.lload 6, 2) := by decide +kernel
theorem dX5_bestFrom_106 : decode cX5_bestFrom 106 = .ok (.lcmp, 1) := by decide +kernel
theorem dX5_bestFrom_107 : decode cX5_bestFrom 107 = .ok (.ifCond .ge 8, 3) := by decide +kernel
theorem dX5_bestFrom_110 : decode cX5_bestFrom 110 = .ok (.lload 10, 2) := by decide +kernel
theorem dX5_bestFrom_112 : decode cX5_bestFrom 112 = .ok (.goto 5, 3) := by decide +kernel
theorem dX5_bestFrom_115 : decode cX5_bestFrom 115 = .ok (.lload 6, 2) := by decide +kernel
theorem dX5_bestFrom_117 : decode cX5_bestFrom 117 = .ok (.lstore 6, 2) := by decide +kernel
theorem dX5_bestFrom_119 : decode cX5_bestFrom 119 = .ok (.iinc 8 1, 3) := by decide +kernel
theorem dX5_bestFrom_122 : decode cX5_bestFrom 122 = .ok (.goto (-66), 3) := by decide +kernel
theorem dX5_bestFrom_125 : decode cX5_bestFrom 125 = .ok (.lload 6, 2) := by decide +kernel
theorem dX5_bestFrom_127 : decode cX5_bestFrom 127 = .ok (.ldc2_w 72, 3) := by decide +kernel
theorem dX5_bestFrom_130 : decode cX5_bestFrom 130 = .ok (.lcmp, 1) := by decide +kernel
theorem dX5_bestFrom_131 : decode cX5_bestFrom 131 = .ok (.ifCond .ne 9, 3) := by decide +kernel
theorem dX5_bestFrom_134 : decode cX5_bestFrom 134 = .ok (.ldc2_w 72, 3) := by decide +kernel
theorem dX5_bestFrom_137 : decode cX5_bestFrom 137 = .ok (.goto 15, 3) := by decide +kernel
theorem dX5_bestFrom_140 : decode cX5_bestFrom 140 = .ok (.lload 6, 2) := by decide +kernel
theorem dX5_bestFrom_142 : decode cX5_bestFrom 142 = .ok (.aload_n 0, 1) := by decide +kernel
theorem dX5_bestFrom_143 : decode cX5_bestFrom 143 = .ok (.iload_n 1, 1) := by decide +kernel
theorem dX5_bestFrom_144 : decode cX5_bestFrom 144 = .ok (.iload_n 2, 1) := by decide +kernel
theorem dX5_bestFrom_145 : decode cX5_bestFrom 145 = .ok (.iload_n 3, 1) := by decide +kernel
theorem dX5_bestFrom_146 : decode cX5_bestFrom 146 = .ok (.iload 4, 2) := by decide +kernel
theorem dX5_bestFrom_148 : decode cX5_bestFrom 148 = .ok (.invokevirtual 78, 3) := by decide +kernel
theorem dX5_bestFrom_151 : decode cX5_bestFrom 151 = .ok (.ladd, 1) := by decide +kernel
theorem dX5_bestFrom_152 : decode cX5_bestFrom 152 = .ok (.lreturn, 1) := by decide +kernel
set_option maxRecDepth 20000 in
theorem ggX5_layGrid_X5_bestFrom : GoodIn wsX5_layGrid wsX5_bestFrom := goodIn_r _ [11, 3, 1, 2, 12, 13, 10, 14, 15, 16, 17, 18, 19, 20, 21, 22, 23, 24, 25, 26, 27, 28, 29, 30, 31, 32, 33, 34, 35, 36, 37, 38, 39, 40, 41, 42] (by decide +kernel) (by decide +kernel)
set_option maxRecDepth 20000 in
theorem gX5_layGrid_X5_bestFrom : GoodIn wsX5_layGrid (wsV RX5 82 RX5 yX5_bestFrom wsX5_bestFrom) := goodIn_app (goodIn_of _ (by decide +kernel)) ggX5_layGrid_X5_bestFrom
set_option maxRecDepth 20000 in
theorem ggX5_layGrid_X5_off : GoodIn wsX5_layGrid wsX5_off := goodIn_r _ [31, 1, 12, 13, 10, 14, 24, 25, 26, 27, 32, 33, 34, 35, 36, 37, 38, 39, 40, 41, 42] (by decide +kernel) (by decide +kernel)
set_option maxRecDepth 20000 in
theorem gX5_layGrid_X5_off : GoodIn wsX5_layGrid (wsV RX5 78 RX5 yX5_off wsX5_off) := goodIn_app (goodIn_of _ (by decide +kernel)) ggX5_layGrid_X5_off
set_option maxRecDepth 20000 in
theorem ggX5_layGrid_X5_sampleAt : GoodIn wsX5_layGrid wsX5_sampleAt := goodIn_r _ [14] (by decide +kernel) (by decide +kernel)
set_option maxRecDepth 20000 in
theorem gX5_layGrid_X5_sampleAt : GoodIn wsX5_layGrid (va_wsS RX5 68 yX5_sampleAt wsX5_sampleAt) := goodIn_app (goodIn_of _ (by decide +kernel)) ggX5_layGrid_X5_sampleAt
set_option maxRecDepth 20000 in
theorem ggX5_layGrid_X5_fits : GoodIn wsX5_layGrid wsX5_fits := goodIn_r _ [18, 1, 19, 20, 21, 22, 10, 23, 24, 25, 26, 27, 32, 33, 34, 35, 36, 37, 38, 39, 40, 41, 42] (by decide +kernel) (by decide +kernel)
set_option maxRecDepth 20000 in
theorem gX5_layGrid_X5_fits : GoodIn wsX5_layGrid (wsV RX5 74 RX5 yX5_fits wsX5_fits) := goodIn_app (goodIn_of _ (by decide +kernel)) ggX5_layGrid_X5_fits
theorem dX5_layGrid_0 : decode cX5_layGrid 0 = .ok (.aload_n 0, 1) := by decide +kernel
theorem dX5_layGrid_1 : decode cX5_layGrid 1 = .ok (.getfield 7, 3) := by decide +kernel
theorem dX5_layGrid_4 : decode cX5_layGrid 4 = .ok (.bipush 74, 2) := by decide +kernel
theorem dX5_layGrid_6 : decode cX5_layGrid 6 = .ok (.iaload, 1) := by decide +kernel
theorem dX5_layGrid_7 : decode cX5_layGrid 7 = .ok (.iconst 1, 1) := by decide +kernel
theorem dX5_layGrid_8 : decode cX5_layGrid 8 = .ok (.isub, 1) := by decide +kernel
theorem dX5_layGrid_9 : decode cX5_layGrid 9 = .ok (.istore_n 3, 1) := by decide +kernel
theorem dX5_layGrid_10 : decode cX5_layGrid 10 = .ok (.iload_n 3, 1) := by decide +kernel
theorem dX5_layGrid_11 : decode cX5_layGrid 11 = .ok (.ifCond .lt 60, 3) := by decide +kernel
theorem dX5_layGrid_14 : decode cX5_layGrid 14 = .ok (.iconst 0, 1) := by decide +kernel
theorem dX5_layGrid_15 : decode cX5_layGrid 15 = .ok (.istore 4, 2) := by decide +kernel
theorem dX5_layGrid_17 : decode cX5_layGrid 17 = .ok (.iload 4, 2) := by decide +kernel
theorem dX5_layGrid_19 : decode cX5_layGrid 19 = .ok (.iload_n 2, 1) := by decide +kernel
theorem dX5_layGrid_20 : decode cX5_layGrid 20 = .ok (.if_icmp .ge 45, 3) := by decide +kernel
theorem dX5_layGrid_23 : decode cX5_layGrid 23 = .ok (.aload_n 0, 1) := by decide +kernel
theorem dX5_layGrid_24 : decode cX5_layGrid 24 = .ok (.getfield 28, 3) := by decide +kernel
theorem dX5_layGrid_27 : decode cX5_layGrid 27 = .ok (.bipush 33, 2) := by decide +kernel
theorem dX5_layGrid_29 : decode cX5_layGrid 29 = .ok (.iload_n 3, 1) := by decide +kernel
theorem dX5_layGrid_30 : decode cX5_layGrid 30 = .ok (.imul, 1) := by decide +kernel
theorem dX5_layGrid_31 : decode cX5_layGrid 31 = .ok (.iload 4, 2) := by decide +kernel
theorem dX5_layGrid_33 : decode cX5_layGrid 33 = .ok (.iadd, 1) := by decide +kernel
theorem dX5_layGrid_34 : decode cX5_layGrid 34 = .ok (.iload_n 3, 1) := by decide +kernel
theorem dX5_layGrid_35 : decode cX5_layGrid 35 = .ok (.ifCond .ne 14, 3) := by decide +kernel
theorem dX5_layGrid_38 : decode cX5_layGrid 38 = .ok (.iload 4, 2) := by decide +kernel
theorem dX5_layGrid_40 : decode cX5_layGrid 40 = .ok (.ifCond .le 9, 3) := by decide +kernel
theorem dX5_layGrid_43 : decode cX5_layGrid 43 = .ok (.ldc2_w 72, 3) := by decide +kernel
theorem dX5_layGrid_46 : decode cX5_layGrid 46 = .ok (.goto 12, 3) := by decide +kernel
theorem dX5_layGrid_49 : decode cX5_layGrid 49 = .ok (.aload_n 0, 1) := by decide +kernel
theorem dX5_layGrid_50 : decode cX5_layGrid 50 = .ok (.iload_n 3, 1) := by decide +kernel
theorem dX5_layGrid_51 : decode cX5_layGrid 51 = .ok (.iload 4, 2) := by decide +kernel
theorem dX5_layGrid_53 : decode cX5_layGrid 53 = .ok (.iload_n 1, 1) := by decide +kernel
theorem dX5_layGrid_54 : decode cX5_layGrid 54 = .ok (.iload_n 2, 1) := by decide +kernel
theorem dX5_layGrid_55 : decode cX5_layGrid 55 = .ok (.invokevirtual 82, 3) := by decide +kernel
theorem dX5_layGrid_58 : decode cX5_layGrid 58 = .ok (.lastore, 1) := by decide +kernel
theorem dX5_layGrid_59 : decode cX5_layGrid 59 = .ok (.iinc 4 1, 3) := by decide +kernel
theorem dX5_layGrid_62 : decode cX5_layGrid 62 = .ok (.goto (-45), 3) := by decide +kernel
theorem dX5_layGrid_65 : decode cX5_layGrid 65 = .ok (.iinc 3 (-1), 3) := by decide +kernel
theorem dX5_layGrid_68 : decode cX5_layGrid 68 = .ok (.goto (-58), 3) := by decide +kernel
theorem dX5_layGrid_71 : decode cX5_layGrid 71 = .ok (.aload_n 0, 1) := by decide +kernel
theorem dX5_layGrid_72 : decode cX5_layGrid 72 = .ok (.aload_n 0, 1) := by decide +kernel
theorem dX5_layGrid_73 : decode cX5_layGrid 73 = .ok (.getfield 28, 3) := by decide +kernel
theorem dX5_layGrid_76 : decode cX5_layGrid 76 = .ok (.iconst 0, 1) := by decide +kernel
theorem dX5_layGrid_77 : decode cX5_layGrid 77 = .ok (.laload, 1) := by decide +kernel
theorem dX5_layGrid_78 : decode cX5_layGrid 78 = .ok (.putfield 85, 3) := by decide +kernel
theorem dX5_layGrid_81 : decode cX5_layGrid 81 = .ok (.aload_n 0, 1) := by decide +kernel
theorem dX5_layGrid_82 : decode cX5_layGrid 82 = .ok (.getfield 85, 3) := by decide +kernel
theorem dX5_layGrid_85 : decode cX5_layGrid 85 = .ok (.ldc2_w 72, 3) := by decide +kernel
theorem dX5_layGrid_88 : decode cX5_layGrid 88 = .ok (.lcmp, 1) := by decide +kernel
theorem dX5_layGrid_89 : decode cX5_layGrid 89 = .ok (.ifCond .ne 5, 3) := by decide +kernel
theorem dX5_layGrid_92 : decode cX5_layGrid 92 = .ok (.iconst 0, 1) := by decide +kernel
theorem dX5_layGrid_93 : decode cX5_layGrid 93 = .ok (.ireturn, 1) := by decide +kernel
theorem dX5_layGrid_94 : decode cX5_layGrid 94 = .ok (.aload_n 0, 1) := by decide +kernel
theorem dX5_layGrid_95 : decode cX5_layGrid 95 = .ok (.getfield 25, 3) := by decide +kernel
theorem dX5_layGrid_98 : decode cX5_layGrid 98 = .ok (.iconst 0, 1) := by decide +kernel
theorem dX5_layGrid_99 : decode cX5_layGrid 99 = .ok (.iconst 0, 1) := by decide +kernel
theorem dX5_layGrid_100 : decode cX5_layGrid 100 = .ok (.iastore, 1) := by decide +kernel
theorem dX5_layGrid_101 : decode cX5_layGrid 101 = .ok (.iconst 0, 1) := by decide +kernel
theorem dX5_layGrid_102 : decode cX5_layGrid 102 = .ok (.istore_n 3, 1) := by decide +kernel
theorem dX5_layGrid_103 : decode cX5_layGrid 103 = .ok (.iload_n 3, 1) := by decide +kernel
theorem dX5_layGrid_104 : decode cX5_layGrid 104 = .ok (.aload_n 0, 1) := by decide +kernel
theorem dX5_layGrid_105 : decode cX5_layGrid 105 = .ok (.getfield 7, 3) := by decide +kernel
theorem dX5_layGrid_108 : decode cX5_layGrid 108 = .ok (.bipush 74, 2) := by decide +kernel
theorem dX5_layGrid_110 : decode cX5_layGrid 110 = .ok (.iaload, 1) := by decide +kernel
theorem dX5_layGrid_111 : decode cX5_layGrid 111 = .ok (.iconst 1, 1) := by decide +kernel
theorem dX5_layGrid_112 : decode cX5_layGrid 112 = .ok (.isub, 1) := by decide +kernel
theorem dX5_layGrid_113 : decode cX5_layGrid 113 = .ok (.if_icmp .ge 114, 3) := by decide +kernel
theorem dX5_layGrid_116 : decode cX5_layGrid 116 = .ok (.aload_n 0, 1) := by decide +kernel
theorem dX5_layGrid_117 : decode cX5_layGrid 117 = .ok (.getfield 25, 3) := by decide +kernel
theorem dX5_layGrid_120 : decode cX5_layGrid 120 = .ok (.iload_n 3, 1) := by decide +kernel
theorem dX5_layGrid_121 : decode cX5_layGrid 121 = .ok (.iaload, 1) := by decide +kernel
theorem dX5_layGrid_122 : decode cX5_layGrid 122 = .ok (.iconst 1, 1) := by decide +kernel
theorem dX5_layGrid_123 : decode cX5_layGrid 123 = .ok (.iadd, 1) := by decide +kernel
theorem dX5_layGrid_124 : decode cX5_layGrid 124 = .ok (.istore 4, 2) := by decide +kernel
theorem dX5_layGrid_126 : decode cX5_layGrid 126 = .ok (.aload_n 0, 1) := by decide +kernel
theorem dX5_layGrid_127 : decode cX5_layGrid 127 = .ok (.getfield 28, 3) := by decide +kernel
theorem dX5_layGrid_130 : decode cX5_layGrid 130 = .ok (.bipush 33, 2) := by decide +kernel
theorem dX5_layGrid_132 : decode cX5_layGrid 132 = .ok (.iload_n 3, 1) := by decide +kernel
theorem dX5_layGrid_133 : decode cX5_layGrid 133 = .ok (.imul, 1) := by decide +kernel
theorem dX5_layGrid_134 : decode cX5_layGrid 134 = .ok (.aload_n 0, 1) := by decide +kernel
theorem dX5_layGrid_135 : decode cX5_layGrid 135 = .ok (.getfield 25, 3) := by decide +kernel
theorem dX5_layGrid_138 : decode cX5_layGrid 138 = .ok (.iload_n 3, 1) := by decide +kernel
theorem dX5_layGrid_139 : decode cX5_layGrid 139 = .ok (.iaload, 1) := by decide +kernel
theorem dX5_layGrid_140 : decode cX5_layGrid 140 = .ok (.iadd, 1) := by decide +kernel
theorem dX5_layGrid_141 : decode cX5_layGrid 141 = .ok (.laload, 1) := by decide +kernel
theorem dX5_layGrid_142 : decode cX5_layGrid 142 = .ok (.aload_n 0, 1) := by decide +kernel
theorem dX5_layGrid_143 : decode cX5_layGrid 143 = .ok (.iload_n 3, 1) := by decide +kernel
theorem dX5_layGrid_144 : decode cX5_layGrid 144 = .ok (.aload_n 0, 1) := by decide +kernel
theorem dX5_layGrid_145 : decode cX5_layGrid 145 = .ok (.getfield 25, 3) := by decide +kernel
theorem dX5_layGrid_148 : decode cX5_layGrid 148 = .ok (.iload_n 3, 1) := by decide +kernel
theorem dX5_layGrid_149 : decode cX5_layGrid 149 = .ok (.iaload, 1) := by decide +kernel
theorem dX5_layGrid_150 : decode cX5_layGrid 150 = .ok (.iload_n 1, 1) := by decide +kernel
theorem dX5_layGrid_151 : decode cX5_layGrid 151 = .ok (.iload_n 2, 1) := by decide +kernel
theorem dX5_layGrid_152 : decode cX5_layGrid 152 = .ok (.invokevirtual 78, 3) := by decide +kernel
theorem dX5_layGrid_155 : decode cX5_layGrid 155 = .ok (.lsub, 1) := by decide +kernel
theorem dX5_layGrid_156 : decode cX5_layGrid 156 = .ok (.lstore 5, 2) := by decide +kernel
theorem dX5_layGrid_158 : decode cX5_layGrid 158 = .ok (.aload_n 0, 1) := by decide +kernel
theorem dX5_layGrid_159 : decode cX5_layGrid 159 = .ok (.getfield 28, 3) := by decide +kernel
theorem dX5_layGrid_162 : decode cX5_layGrid 162 = .ok (.bipush 33, 2) := by decide +kernel
theorem dX5_layGrid_164 : decode cX5_layGrid 164 = .ok (.iload_n 3, 1) := by decide +kernel
theorem dX5_layGrid_165 : decode cX5_layGrid 165 = .ok (.iconst 1, 1) := by decide +kernel
theorem dX5_layGrid_166 : decode cX5_layGrid 166 = .ok (.iadd, 1) := by decide +kernel
theorem dX5_layGrid_167 : decode cX5_layGrid 167 = .ok (.imul, 1) := by decide +kernel
theorem dX5_layGrid_168 : decode cX5_layGrid 168 = .ok (.iload 4, 2) := by decide +kernel
theorem dX5_layGrid_170 : decode cX5_layGrid 170 = .ok (.iadd, 1) := by decide +kernel
theorem dX5_layGrid_171 : decode cX5_layGrid 171 = .ok (.laload, 1) := by decide +kernel
theorem dX5_layGrid_172 : decode cX5_layGrid 172 = .ok (.lload 5, 2) := by decide +kernel
theorem dX5_layGrid_174 : decode cX5_layGrid 174 = .ok (.lcmp, 1) := by decide +kernel
theorem dX5_layGrid_175 : decode cX5_layGrid 175 = .ok (.ifCond .ne 30, 3) := by decide +kernel
theorem dX5_layGrid_178 : decode cX5_layGrid 178 = .ok (.aload_n 0, 1) := by decide +kernel
theorem dX5_layGrid_179 : decode cX5_layGrid 179 = .ok (.iload_n 3, 1) := by decide +kernel
theorem dX5_layGrid_180 : decode cX5_layGrid 180 = .ok (.iload 4, 2) := by decide +kernel
theorem dX5_layGrid_182 : decode cX5_layGrid 182 = .ok (.iload_n 1, 1) := by decide +kernel
theorem dX5_layGrid_183 : decode cX5_layGrid 183 = .ok (.iload_n 2, 1) := by decide +kernel
theorem dX5_layGrid_184 : decode cX5_layGrid 184 = .ok (.invokestatic 68, 3) := by decide +kernel
theorem dX5_layGrid_187 : decode cX5_layGrid 187 = .ok (.aload_n 0, 1) := by decide +kernel
theorem dX5_layGrid_188 : decode cX5_layGrid 188 = .ok (.getfield 25, 3) := by decide +kernel
theorem dX5_layGrid_191 : decode cX5_layGrid 191 = .ok (.iload_n 3, 1) := by decide +kernel
theorem dX5_layGrid_192 : decode cX5_layGrid 192 = .ok (.iaload, 1) := by decide +kernel
theorem dX5_layGrid_193 : decode cX5_layGrid 193 = .ok (.iload_n 1, 1) := by decide +kernel
theorem dX5_layGrid_194 : decode cX5_layGrid 194 = .ok (.iload_n 2, 1) := by decide +kernel
theorem dX5_layGrid_195 : decode cX5_layGrid 195 = .ok (.invokestatic 68, 3) := by decide +kernel
theorem dX5_layGrid_198 : decode cX5_layGrid 198 = .ok (.isub, 1) := by decide +kernel
theorem dX5_layGrid_199 : decode cX5_layGrid 199 = .ok (.invokevirtual 74, 3) := by decide +kernel
theorem dX5_layGrid_202 : decode cX5_layGrid 202 = .ok (.ifCond .ne 9, 3) := by decide +kernel
theorem dX5_layGrid_205 : decode cX5_layGrid 205 = .ok (.iinc 4 1, 3) := by decide +kernel
theorem dX5_layGrid_208 : decode cX5_layGrid 208 = .ok (.goto (-50), 3) := by decide +kernel
theorem dX5_layGrid_211 : decode cX5_layGrid 211 = .ok (.aload_n 0, 1) := by decide +kernel
theorem dX5_layGrid_212 : decode cX5_layGrid 212 = .ok (.getfield 25, 3) := by decide +kernel
theorem dX5_layGrid_215 : decode cX5_layGrid 215 = .ok (.iload_n 3, 1) := by decide +kernel
theorem dX5_layGrid_216 : decode cX5_layGrid 216 = .ok (.iconst 1, 1) := by decide +kernel
theorem dX5_layGrid_217 : decode cX5_layGrid 217 = .ok (.iadd, 1) := by decide +kernel
theorem dX5_layGrid_218 : decode cX5_layGrid 218 = .ok (.iload 4, 2) := by decide +kernel
theorem dX5_layGrid_220 : decode cX5_layGrid 220 = .ok (.iastore, 1) := by decide +kernel
theorem dX5_layGrid_221 : decode cX5_layGrid 221 = .ok (.iinc 3 1, 3) := by decide +kernel
theorem dX5_layGrid_224 : decode cX5_layGrid 224 = .ok (.goto (-121), 3) := by decide +kernel
theorem dX5_layGrid_227 : decode cX5_layGrid 227 = .ok (.aload_n 0, 1) := by decide +kernel
theorem dX5_layGrid_228 : decode cX5_layGrid 228 = .ok (.getfield 25, 3) := by decide +kernel
theorem dX5_layGrid_231 : decode cX5_layGrid 231 = .ok (.aload_n 0, 1) := by decide +kernel
theorem dX5_layGrid_232 : decode cX5_layGrid 232 = .ok (.getfield 7, 3) := by decide +kernel
theorem dX5_layGrid_235 : decode cX5_layGrid 235 = .ok (.bipush 74, 2) := by decide +kernel
theorem dX5_layGrid_237 : decode cX5_layGrid 237 = .ok (.iaload, 1) := by decide +kernel
theorem dX5_layGrid_238 : decode cX5_layGrid 238 = .ok (.iload_n 2, 1) := by decide +kernel
theorem dX5_layGrid_239 : decode cX5_layGrid 239 = .ok (.iastore, 1) := by decide +kernel
theorem dX5_layGrid_240 : decode cX5_layGrid 240 = .ok (.iconst 0, 1) := by decide +kernel
theorem dX5_layGrid_241 : decode cX5_layGrid 241 = .ok (.istore_n 3, 1) := by decide +kernel
theorem dX5_layGrid_242 : decode cX5_layGrid 242 = .ok (.iload_n 3, 1) := by decide +kernel
theorem dX5_layGrid_243 : decode cX5_layGrid 243 = .ok (.aload_n 0, 1) := by decide +kernel
theorem dX5_layGrid_244 : decode cX5_layGrid 244 = .ok (.getfield 7, 3) := by decide +kernel
theorem dX5_layGrid_247 : decode cX5_layGrid 247 = .ok (.bipush 74, 2) := by decide +kernel
theorem dX5_layGrid_249 : decode cX5_layGrid 249 = .ok (.iaload, 1) := by decide +kernel
theorem dX5_layGrid_250 : decode cX5_layGrid 250 = .ok (.if_icmp .ge 40, 3) := by decide +kernel
theorem dX5_layGrid_253 : decode cX5_layGrid 253 = .ok (.aload_n 0, 1) := by decide +kernel
theorem dX5_layGrid_254 : decode cX5_layGrid 254 = .ok (.getfield 22, 3) := by decide +kernel
theorem dX5_layGrid_257 : decode cX5_layGrid 257 = .ok (.iload_n 3, 1) := by decide +kernel
theorem dX5_layGrid_258 : decode cX5_layGrid 258 = .ok (.aload_n 0, 1) := by decide +kernel
theorem dX5_layGrid_259 : decode cX5_layGrid 259 = .ok (.getfield 25, 3) := by decide +kernel
theorem dX5_layGrid_262 : decode cX5_layGrid 262 = .ok (.iload_n 3, 1) := by decide +kernel
theorem dX5_layGrid_263 : decode cX5_layGrid 263 = .ok (.iconst 1, 1) := by decide +kernel
theorem dX5_layGrid_264 : decode cX5_layGrid 264 = .ok (.iadd, 1) := by decide +kernel
theorem dX5_layGrid_265 : decode cX5_layGrid 265 = .ok (.iaload, 1) := by decide +kernel
theorem dX5_layGrid_266 : decode cX5_layGrid 266 = .ok (.iload_n 1, 1) := by decide +kernel
theorem dX5_layGrid_267 : decode cX5_layGrid 267 = .ok (.iload_n 2, 1) := by decide +kernel
theorem dX5_layGrid_268 : decode cX5_layGrid 268 = .ok (.invokestatic 68, 3) := by decide +kernel
theorem dX5_layGrid_271 : decode cX5_layGrid 271 = .ok (.aload_n 0, 1) := by decide +kernel
theorem dX5_layGrid_272 : decode cX5_layGrid 272 = .ok (.getfield 25, 3) := by decide +kernel
theorem dX5_layGrid_275 : decode cX5_layGrid 275 = .ok (.iload_n 3, 1) := by decide +kernel
theorem dX5_layGrid_276 : decode cX5_layGrid 276 = .ok (.iaload, 1) := by decide +kernel
theorem dX5_layGrid_277 : decode cX5_layGrid 277 = .ok (.iload_n 1, 1) := by decide +kernel
theorem dX5_layGrid_278 : decode cX5_layGrid 278 = .ok (.iload_n 2, 1) := by decide +kernel
theorem dX5_layGrid_279 : decode cX5_layGrid 279 = .ok (.invokestatic 68, 3) := by decide +kernel
theorem dX5_layGrid_282 : decode cX5_layGrid 282 = .ok (.isub, 1) := by decide +kernel
theorem dX5_layGrid_283 : decode cX5_layGrid 283 = .ok (.iastore, 1) := by decide +kernel
theorem dX5_layGrid_284 : decode cX5_layGrid 284 = .ok (.iinc 3 1, 3) := by decide +kernel
theorem dX5_layGrid_287 : decode cX5_layGrid 287 = .ok (.goto (-45), 3) := by decide +kernel
theorem dX5_layGrid_290 : decode cX5_layGrid 290 = .ok (.iconst 1, 1) := by decide +kernel
theorem dX5_layGrid_291 : decode cX5_layGrid 291 = .ok (.ireturn, 1) := by decide +kernel
set_option maxRecDepth 20000 in
theorem ggX5_isLaid_X5_layGrid : GoodIn wsX5_isLaid wsX5_layGrid := goodIn_r _ [6, 1, 7, 8, 9, 10, 11, 12, 13, 14, 5, 15, 16, 17, 18, 19, 20, 21, 22, 23, 24, 25, 26, 27, 28, 29, 30, 31, 32, 33, 34, 35, 49, 50, 51, 52, 53, 54, 55, 56, 57, 58, 59] (by decide +kernel) (by decide +kernel)
set_option maxRecDepth 20000 in
theorem gX5_isLaid_X5_layGrid : GoodIn wsX5_isLaid (wsV RX5 89 RX5 yX5_layGrid wsX5_layGrid) := goodIn_app (goodIn_of _ (by decide +kernel)) ggX5_isLaid_X5_layGrid
set_option maxRecDepth 20000 in
theorem ggX5_isLaid_X5_layFree : GoodIn wsX5_isLaid wsX5_layFree := goodIn_r _ [39, 1, 11, 40, 24, 25, 26, 5, 27, 28, 29, 30, 31, 41, 42, 43, 44, 45, 46, 47, 48, 49, 50, 51, 52, 53, 54, 55, 56, 57, 58, 59] (by decide +kernel) (by decide +kernel)
set_option maxRecDepth 20000 in
theorem gX5_isLaid_X5_layFree : GoodIn wsX5_isLaid (wsV RX5 92 RX5 yX5_layFree wsX5_layFree) := goodIn_app (goodIn_of _ (by decide +kernel)) ggX5_isLaid_X5_layFree
theorem dX5_isLaid_0 : decode cX5_isLaid 0 = .ok (.aload_n 0, 1) := by decide +kernel
theorem dX5_isLaid_1 : decode cX5_isLaid 1 = .ok (.getfield 7, 3) := by decide +kernel
theorem dX5_isLaid_4 : decode cX5_isLaid 4 = .ok (.bipush 8, 2) := by decide +kernel
theorem dX5_isLaid_6 : decode cX5_isLaid 6 = .ok (.iaload, 1) := by decide +kernel
theorem dX5_isLaid_7 : decode cX5_isLaid 7 = .ok (.iconst 1, 1) := by decide +kernel
theorem dX5_isLaid_8 : decode cX5_isLaid 8 = .ok (.if_icmp .ne 22, 3) := by decide +kernel
theorem dX5_isLaid_11 : decode cX5_isLaid 11 = .ok (.aload_n 0, 1) := by decide +kernel
theorem dX5_isLaid_12 : decode cX5_isLaid 12 = .ok (.aload_n 0, 1) := by decide +kernel
theorem dX5_isLaid_13 : decode cX5_isLaid 13 = .ok (.getfield 7, 3) := by decide +kernel
theorem dX5_isLaid_16 : decode cX5_isLaid 16 = .ok (.bipush 6, 2) := by decide +kernel
theorem dX5_isLaid_18 : decode cX5_isLaid 18 = .ok (.iaload, 1) := by decide +kernel
theorem dX5_isLaid_19 : decode cX5_isLaid 19 = .ok (.aload_n 0, 1) := by decide +kernel
theorem dX5_isLaid_20 : decode cX5_isLaid 20 = .ok (.getfield 7, 3) := by decide +kernel
theorem dX5_isLaid_23 : decode cX5_isLaid 23 = .ok (.bipush 7, 2) := by decide +kernel
theorem dX5_isLaid_25 : decode cX5_isLaid 25 = .ok (.iaload, 1) := by decide +kernel
theorem dX5_isLaid_26 : decode cX5_isLaid 26 = .ok (.invokevirtual 89, 3) := by decide +kernel
theorem dX5_isLaid_29 : decode cX5_isLaid 29 = .ok (.ireturn, 1) := by decide +kernel
theorem dX5_isLaid_30 : decode cX5_isLaid 30 = .ok (.aload_n 0, 1) := by decide +kernel
theorem dX5_isLaid_31 : decode cX5_isLaid 31 = .ok (.invokevirtual 92, 3) := by decide +kernel
theorem dX5_isLaid_34 : decode cX5_isLaid 34 = .ok (.iconst 1, 1) := by decide +kernel
theorem dX5_isLaid_35 : decode cX5_isLaid 35 = .ok (.ireturn, 1) := by decide +kernel
theorem dX5_placeOf_0 : decode cX5_placeOf 0 = .ok (.iconst 0, 1) := by decide +kernel
theorem dX5_placeOf_1 : decode cX5_placeOf 1 = .ok (.istore_n 2, 1) := by decide +kernel
theorem dX5_placeOf_2 : decode cX5_placeOf 2 = .ok (.aload_n 0, 1) := by decide +kernel
theorem dX5_placeOf_3 : decode cX5_placeOf 3 = .ok (.getfield 7, 3) := by decide +kernel
theorem dX5_placeOf_6 : decode cX5_placeOf 6 = .ok (.bipush 91, 2) := by decide +kernel
theorem dX5_placeOf_8 : decode cX5_placeOf 8 = .ok (.iload_n 2, 1) := by decide +kernel
theorem dX5_placeOf_9 : decode cX5_placeOf 9 = .ok (.iadd, 1) := by decide +kernel
theorem dX5_placeOf_10 : decode cX5_placeOf 10 = .ok (.iaload, 1) := by decide +kernel
theorem dX5_placeOf_11 : decode cX5_placeOf 11 = .ok (.iload_n 1, 1) := by decide +kernel
theorem dX5_placeOf_12 : decode cX5_placeOf 12 = .ok (.if_icmp .eq 9, 3) := by decide +kernel
theorem dX5_placeOf_15 : decode cX5_placeOf 15 = .ok (.iinc 2 1, 3) := by decide +kernel
theorem dX5_placeOf_18 : decode cX5_placeOf 18 = .ok (.goto (-16), 3) := by decide +kernel
theorem dX5_placeOf_21 : decode cX5_placeOf 21 = .ok (.iload_n 2, 1) := by decide +kernel
theorem dX5_placeOf_22 : decode cX5_placeOf 22 = .ok (.ireturn, 1) := by decide +kernel
set_option maxRecDepth 20000 in
theorem ggX5_fadeOf_X5_placeOf : GoodIn wsX5_fadeOf wsX5_placeOf := goodIn_r _ [7, 1, 8, 9, 10, 11, 12, 13, 14, 15, 16, 17, 18] (by decide +kernel) (by decide +kernel)
set_option maxRecDepth 20000 in
theorem gX5_fadeOf_X5_placeOf : GoodIn wsX5_fadeOf (wsV RX5 95 RX5 yX5_placeOf wsX5_placeOf) := goodIn_app (goodIn_of _ (by decide +kernel)) ggX5_fadeOf_X5_placeOf
theorem dX5_fadeOf_0 : decode cX5_fadeOf 0 = .ok (.aload_n 0, 1) := by decide +kernel
theorem dX5_fadeOf_1 : decode cX5_fadeOf 1 = .ok (.getfield 7, 3) := by decide +kernel
theorem dX5_fadeOf_4 : decode cX5_fadeOf 4 = .ok (.bipush 91, 2) := by decide +kernel
theorem dX5_fadeOf_6 : decode cX5_fadeOf 6 = .ok (.aload_n 0, 1) := by decide +kernel
theorem dX5_fadeOf_7 : decode cX5_fadeOf 7 = .ok (.iload_n 1, 1) := by decide +kernel
theorem dX5_fadeOf_8 : decode cX5_fadeOf 8 = .ok (.invokevirtual 95, 3) := by decide +kernel
theorem dX5_fadeOf_11 : decode cX5_fadeOf 11 = .ok (.iconst 1, 1) := by decide +kernel
theorem dX5_fadeOf_12 : decode cX5_fadeOf 12 = .ok (.iadd, 1) := by decide +kernel
theorem dX5_fadeOf_13 : decode cX5_fadeOf 13 = .ok (.aload_n 0, 1) := by decide +kernel
theorem dX5_fadeOf_14 : decode cX5_fadeOf 14 = .ok (.getfield 7, 3) := by decide +kernel
theorem dX5_fadeOf_17 : decode cX5_fadeOf 17 = .ok (.bipush 74, 2) := by decide +kernel
theorem dX5_fadeOf_19 : decode cX5_fadeOf 19 = .ok (.iaload, 1) := by decide +kernel
theorem dX5_fadeOf_20 : decode cX5_fadeOf 20 = .ok (.irem, 1) := by decide +kernel
theorem dX5_fadeOf_21 : decode cX5_fadeOf 21 = .ok (.iadd, 1) := by decide +kernel
theorem dX5_fadeOf_22 : decode cX5_fadeOf 22 = .ok (.iaload, 1) := by decide +kernel
theorem dX5_fadeOf_23 : decode cX5_fadeOf 23 = .ok (.istore_n 2, 1) := by decide +kernel
theorem dX5_fadeOf_24 : decode cX5_fadeOf 24 = .ok (.aload_n 0, 1) := by decide +kernel
theorem dX5_fadeOf_25 : decode cX5_fadeOf 25 = .ok (.getfield 7, 3) := by decide +kernel
theorem dX5_fadeOf_28 : decode cX5_fadeOf 28 = .ok (.bipush 9, 2) := by decide +kernel
theorem dX5_fadeOf_30 : decode cX5_fadeOf 30 = .ok (.iaload, 1) := by decide +kernel
theorem dX5_fadeOf_31 : decode cX5_fadeOf 31 = .ok (.istore_n 3, 1) := by decide +kernel
theorem dX5_fadeOf_32 : decode cX5_fadeOf 32 = .ok (.aload_n 0, 1) := by decide +kernel
theorem dX5_fadeOf_33 : decode cX5_fadeOf 33 = .ok (.getfield 22, 3) := by decide +kernel
theorem dX5_fadeOf_36 : decode cX5_fadeOf 36 = .ok (.iload_n 1, 1) := by decide +kernel
theorem dX5_fadeOf_37 : decode cX5_fadeOf 37 = .ok (.iaload, 1) := by decide +kernel
theorem dX5_fadeOf_38 : decode cX5_fadeOf 38 = .ok (.iconst 4, 1) := by decide +kernel
theorem dX5_fadeOf_39 : decode cX5_fadeOf 39 = .ok (.idiv, 1) := by decide +kernel
theorem dX5_fadeOf_40 : decode cX5_fadeOf 40 = .ok (.iload_n 3, 1) := by decide +kernel
theorem dX5_fadeOf_41 : decode cX5_fadeOf 41 = .ok (.if_icmp .ge 14, 3) := by decide +kernel
theorem dX5_fadeOf_44 : decode cX5_fadeOf 44 = .ok (.aload_n 0, 1) := by decide +kernel
theorem dX5_fadeOf_45 : decode cX5_fadeOf 45 = .ok (.getfield 22, 3) := by decide +kernel
theorem dX5_fadeOf_48 : decode cX5_fadeOf 48 = .ok (.iload_n 1, 1) := by decide +kernel
theorem dX5_fadeOf_49 : decode cX5_fadeOf 49 = .ok (.iaload, 1) := by decide +kernel
theorem dX5_fadeOf_50 : decode cX5_fadeOf 50 = .ok (.iconst 4, 1) := by decide +kernel
theorem dX5_fadeOf_51 : decode cX5_fadeOf 51 = .ok (.idiv, 1) := by decide +kernel
theorem dX5_fadeOf_52 : decode cX5_fadeOf 52 = .ok (.goto 4, 3) := by decide +kernel
theorem dX5_fadeOf_55 : decode cX5_fadeOf 55 = .ok (.iload_n 3, 1) := by decide +kernel
theorem dX5_fadeOf_56 : decode cX5_fadeOf 56 = .ok (.istore_n 3, 1) := by decide +kernel
theorem dX5_fadeOf_57 : decode cX5_fadeOf 57 = .ok (.aload_n 0, 1) := by decide +kernel
theorem dX5_fadeOf_58 : decode cX5_fadeOf 58 = .ok (.getfield 22, 3) := by decide +kernel
theorem dX5_fadeOf_61 : decode cX5_fadeOf 61 = .ok (.iload_n 2, 1) := by decide +kernel
theorem dX5_fadeOf_62 : decode cX5_fadeOf 62 = .ok (.iaload, 1) := by decide +kernel
theorem dX5_fadeOf_63 : decode cX5_fadeOf 63 = .ok (.iconst 4, 1) := by decide +kernel
theorem dX5_fadeOf_64 : decode cX5_fadeOf 64 = .ok (.idiv, 1) := by decide +kernel
theorem dX5_fadeOf_65 : decode cX5_fadeOf 65 = .ok (.iload_n 3, 1) := by decide +kernel
theorem dX5_fadeOf_66 : decode cX5_fadeOf 66 = .ok (.if_icmp .ge 14, 3) := by decide +kernel
theorem dX5_fadeOf_69 : decode cX5_fadeOf 69 = .ok (.aload_n 0, 1) := by decide +kernel
theorem dX5_fadeOf_70 : decode cX5_fadeOf 70 = .ok (.getfield 22, 3) := by decide +kernel
theorem dX5_fadeOf_73 : decode cX5_fadeOf 73 = .ok (.iload_n 2, 1) := by decide +kernel
theorem dX5_fadeOf_74 : decode cX5_fadeOf 74 = .ok (.iaload, 1) := by decide +kernel
theorem dX5_fadeOf_75 : decode cX5_fadeOf 75 = .ok (.iconst 4, 1) := by decide +kernel
theorem dX5_fadeOf_76 : decode cX5_fadeOf 76 = .ok (.idiv, 1) := by decide +kernel
theorem dX5_fadeOf_77 : decode cX5_fadeOf 77 = .ok (.goto 4, 3) := by decide +kernel
theorem dX5_fadeOf_80 : decode cX5_fadeOf 80 = .ok (.iload_n 3, 1) := by decide +kernel
theorem dX5_fadeOf_81 : decode cX5_fadeOf 81 = .ok (.ireturn, 1) := by decide +kernel
set_option maxRecDepth 20000 in
theorem ggX5_begin_X5_isIn : GoodIn wsX5_begin wsX5_isIn := goodIn_r _ [5] (by decide +kernel) (by decide +kernel)
set_option maxRecDepth 20000 in
theorem gX5_begin_X5_isIn : GoodIn wsX5_begin (va_wsS RX5 47 yX5_isIn wsX5_isIn) := goodIn_app (goodIn_of _ (by decide +kernel)) ggX5_begin_X5_isIn
set_option maxRecDepth 20000 in
theorem ggX5_begin_X5_remember : GoodIn wsX5_begin wsX5_remember := goodIn_r _ [9, 10, 11, 1, 20, 21, 22, 23, 24, 25, 26, 27, 28, 29, 30] (by decide +kernel) (by decide +kernel)
set_option maxRecDepth 20000 in
theorem gX5_begin_X5_remember : GoodIn wsX5_begin (wsV RX5 98 RX5 yX5_remember wsX5_remember) := goodIn_app (goodIn_of _ (by decide +kernel)) ggX5_begin_X5_remember
set_option maxRecDepth 20000 in
theorem ggX5_begin_X5_layLoop : GoodIn wsX5_begin wsX5_layLoop := goodIn_r _ [15, 1, 16, 17, 18, 4, 19, 20, 21, 22, 23, 24, 25, 26, 27, 28, 29, 30] (by decide +kernel) (by decide +kernel)
set_option maxRecDepth 20000 in
theorem gX5_begin_X5_layLoop : GoodIn wsX5_begin (wsV RX5 36 RX5 yX5_layLoop wsX5_layLoop) := goodIn_app (goodIn_of _ (by decide +kernel)) ggX5_begin_X5_layLoop
theorem dX5_begin_0 : decode cX5_begin 0 = .ok (.iload_n 1, 1) := by decide +kernel
theorem dX5_begin_1 : decode cX5_begin 1 = .ok (.iconst 1, 1) := by decide +kernel
theorem dX5_begin_2 : decode cX5_begin 2 = .ok (.bipush 64, 2) := by decide +kernel
theorem dX5_begin_4 : decode cX5_begin 4 = .ok (.invokestatic 47, 3) := by decide +kernel
theorem dX5_begin_7 : decode cX5_begin 7 = .ok (.ifCond .ne 5, 3) := by decide +kernel
theorem dX5_begin_10 : decode cX5_begin 10 = .ok (.iconst (-1), 1) := by decide +kernel
theorem dX5_begin_11 : decode cX5_begin 11 = .ok (.ireturn, 1) := by decide +kernel
theorem dX5_begin_12 : decode cX5_begin 12 = .ok (.aload_n 0, 1) := by decide +kernel
theorem dX5_begin_13 : decode cX5_begin 13 = .ok (.invokevirtual 98, 3) := by decide +kernel
theorem dX5_begin_16 : decode cX5_begin 16 = .ok (.aload_n 0, 1) := by decide +kernel
theorem dX5_begin_17 : decode cX5_begin 17 = .ok (.getfield 7, 3) := by decide +kernel
theorem dX5_begin_20 : decode cX5_begin 20 = .ok (.iconst 0, 1) := by decide +kernel
theorem dX5_begin_21 : decode cX5_begin 21 = .ok (.iaload, 1) := by decide +kernel
theorem dX5_begin_22 : decode cX5_begin 22 = .ok (.istore_n 2, 1) := by decide +kernel
theorem dX5_begin_23 : decode cX5_begin 23 = .ok (.aload_n 0, 1) := by decide +kernel
theorem dX5_begin_24 : decode cX5_begin 24 = .ok (.iload_n 1, 1) := by decide +kernel
theorem dX5_begin_25 : decode cX5_begin 25 = .ok (.invokevirtual 36, 3) := by decide +kernel
theorem dX5_begin_28 : decode cX5_begin 28 = .ok (.iload_n 2, 1) := by decide +kernel
theorem dX5_begin_29 : decode cX5_begin 29 = .ok (.ireturn, 1) := by decide +kernel
set_option maxRecDepth 20000 in
theorem ggX5_sound_X5_isFrame : GoodIn wsX5_sound wsX5_isFrame := goodIn_r _ [6, 1, 7, 8, 5, 9, 16, 17, 18, 19, 20, 21, 22, 23, 24, 25, 26] (by decide +kernel) (by decide +kernel)
set_option maxRecDepth 20000 in
theorem gX5_sound_X5_isFrame : GoodIn wsX5_sound (wsV RX5 101 RX5 yX5_isFrame wsX5_isFrame) := goodIn_app (goodIn_of _ (by decide +kernel)) ggX5_sound_X5_isFrame
set_option maxRecDepth 20000 in
theorem ggX5_sound_X5_isIn : GoodIn wsX5_sound wsX5_isIn := goodIn_r _ [9] (by decide +kernel) (by decide +kernel)
set_option maxRecDepth 20000 in
theorem gX5_sound_X5_isIn : GoodIn wsX5_sound (va_wsS RX5 47 yX5_isIn wsX5_isIn) := goodIn_app (goodIn_of _ (by decide +kernel)) ggX5_sound_X5_isIn
set_option maxRecDepth 20000 in
theorem ggX5_sound_X5_remember : GoodIn wsX5_sound wsX5_remember := goodIn_r _ [13, 14, 15, 1, 16, 17, 18, 19, 20, 21, 22, 23, 24, 25, 26] (by decide +kernel) (by decide +kernel)
set_option maxRecDepth 20000 in
theorem gX5_sound_X5_remember : GoodIn wsX5_sound (wsV RX5 98 RX5 yX5_remember wsX5_remember) := goodIn_app (goodIn_of _ (by decide +kernel)) ggX5_sound_X5_remember
theorem dX5_sound_0 : decode cX5_sound 0 = .ok (.aload_n 0, 1) := by decide +kernel
theorem dX5_sound_1 : decode cX5_sound 1 = .ok (.iload_n 1, 1) := by decide +kernel
theorem dX5_sound_2 : decode cX5_sound 2 = .ok (.invokevirtual 101, 3) := by decide +kernel
theorem dX5_sound_5 : decode cX5_sound 5 = .ok (.ifCond .eq 27, 3) := by decide +kernel
theorem dX5_sound_8 : decode cX5_sound 8 = .ok (.aload_n 0, 1) := by decide +kernel
theorem dX5_sound_9 : decode cX5_sound 9 = .ok (.iload_n 2, 1) := by decide +kernel
theorem dX5_sound_10 : decode cX5_sound 10 = .ok (.invokevirtual 101, 3) := by decide +kernel
theorem dX5_sound_13 : decode cX5_sound 13 = .ok (.ifCond .eq 19, 3) := by decide +kernel
theorem dX5_sound_16 : decode cX5_sound 16 = .ok (.iload_n 2, 1) := by decide +kernel
theorem dX5_sound_17 : decode cX5_sound 17 = .ok (.iload_n 1, 1) := by decide +kernel
theorem dX5_sound_18 : decode cX5_sound 18 = .ok (.if_icmp .lt 14, 3) := by decide +kernel
theorem dX5_sound_21 : decode cX5_sound 21 = .ok (.iload_n 3, 1) := by decide +kernel
theorem dX5_sound_22 : decode cX5_sound 22 = .ok (.iconst 0, 1) := by decide +kernel
theorem dX5_sound_23 : decode cX5_sound 23 = .ok (.sipush 999, 3) := by decide +kernel
theorem dX5_sound_26 : decode cX5_sound 26 = .ok (.invokestatic 47, 3) := by decide +kernel
theorem dX5_sound_29 : decode cX5_sound 29 = .ok (.ifCond .ne 5, 3) := by decide +kernel
theorem dX5_sound_32 : decode cX5_sound 32 = .ok (.iconst (-1), 1) := by decide +kernel
theorem dX5_sound_33 : decode cX5_sound 33 = .ok (.ireturn, 1) := by decide +kernel
theorem dX5_sound_34 : decode cX5_sound 34 = .ok (.aload_n 0, 1) := by decide +kernel
theorem dX5_sound_35 : decode cX5_sound 35 = .ok (.invokevirtual 98, 3) := by decide +kernel
theorem dX5_sound_38 : decode cX5_sound 38 = .ok (.iconst 0, 1) := by decide +kernel
theorem dX5_sound_39 : decode cX5_sound 39 = .ok (.istore 4, 2) := by decide +kernel
theorem dX5_sound_41 : decode cX5_sound 41 = .ok (.iload_n 1, 1) := by decide +kernel
theorem dX5_sound_42 : decode cX5_sound 42 = .ok (.istore 5, 2) := by decide +kernel
theorem dX5_sound_44 : decode cX5_sound 44 = .ok (.iload 5, 2) := by decide +kernel
theorem dX5_sound_46 : decode cX5_sound 46 = .ok (.iload_n 2, 1) := by decide +kernel
theorem dX5_sound_47 : decode cX5_sound 47 = .ok (.if_icmp .gt 35, 3) := by decide +kernel
theorem dX5_sound_50 : decode cX5_sound 50 = .ok (.iload 4, 2) := by decide +kernel
theorem dX5_sound_52 : decode cX5_sound 52 = .ok (.aload_n 0, 1) := by decide +kernel
theorem dX5_sound_53 : decode cX5_sound 53 = .ok (.getfield 7, 3) := by decide +kernel
theorem dX5_sound_56 : decode cX5_sound 56 = .ok (.bipush 10, 2) := by decide +kernel
theorem dX5_sound_58 : decode cX5_sound 58 = .ok (.iload 5, 2) := by decide +kernel
theorem dX5_sound_60 : decode cX5_sound 60 = .ok (.iadd, 1) := by decide +kernel
theorem dX5_sound_61 : decode cX5_sound 61 = .ok (.iaload, 1) := by decide +kernel
theorem dX5_sound_62 : decode cX5_sound 62 = .ok (.iadd, 1) := by decide +kernel
theorem dX5_sound_63 : decode cX5_sound 63 = .ok (.istore 4, 2) := by decide +kernel
theorem dX5_sound_65 : decode cX5_sound 65 = .ok (.aload_n 0, 1) := by decide +kernel
theorem dX5_sound_66 : decode cX5_sound 66 = .ok (.getfield 7, 3) := by decide +kernel
theorem dX5_sound_69 : decode cX5_sound 69 = .ok (.bipush 10, 2) := by decide +kernel
theorem dX5_sound_71 : decode cX5_sound 71 = .ok (.iload 5, 2) := by decide +kernel
theorem dX5_sound_73 : decode cX5_sound 73 = .ok (.iadd, 1) := by decide +kernel
theorem dX5_sound_74 : decode cX5_sound 74 = .ok (.iload_n 3, 1) := by decide +kernel
theorem dX5_sound_75 : decode cX5_sound 75 = .ok (.iastore, 1) := by decide +kernel
theorem dX5_sound_76 : decode cX5_sound 76 = .ok (.iinc 5 1, 3) := by decide +kernel
theorem dX5_sound_79 : decode cX5_sound 79 = .ok (.goto (-35), 3) := by decide +kernel
theorem dX5_sound_82 : decode cX5_sound 82 = .ok (.iload 4, 2) := by decide +kernel
theorem dX5_sound_84 : decode cX5_sound 84 = .ok (.ireturn, 1) := by decide +kernel
set_option maxRecDepth 20000 in
theorem ggX5_isOf_X5_isIn : GoodIn wsX5_isOf wsX5_isIn := goodIn_r _ [5] (by decide +kernel) (by decide +kernel)
set_option maxRecDepth 20000 in
theorem gX5_isOf_X5_isIn : GoodIn wsX5_isOf (va_wsS RX5 47 yX5_isIn wsX5_isIn) := goodIn_app (goodIn_of _ (by decide +kernel)) ggX5_isOf_X5_isIn
theorem dX5_isOf_0 : decode cX5_isOf 0 = .ok (.iload_n 0, 1) := by decide +kernel
theorem dX5_isOf_1 : decode cX5_isOf 1 = .ok (.tableswitch 115 0 7 #[47, 56, 65, 73, 82, 92, 100, 108], 47) := by decide +kernel
theorem dX5_isOf_48 : decode cX5_isOf 48 = .ok (.iload_n 1, 1) := by decide +kernel
theorem dX5_isOf_49 : decode cX5_isOf 49 = .ok (.iconst 1, 1) := by decide +kernel
theorem dX5_isOf_50 : decode cX5_isOf 50 = .ok (.sipush 1000, 3) := by decide +kernel
theorem dX5_isOf_53 : decode cX5_isOf 53 = .ok (.invokestatic 47, 3) := by decide +kernel
theorem dX5_isOf_56 : decode cX5_isOf 56 = .ok (.ireturn, 1) := by decide +kernel
theorem dX5_isOf_57 : decode cX5_isOf 57 = .ok (.iload_n 1, 1) := by decide +kernel
theorem dX5_isOf_58 : decode cX5_isOf 58 = .ok (.iconst 1, 1) := by decide +kernel
theorem dX5_isOf_59 : decode cX5_isOf 59 = .ok (.sipush 999, 3) := by decide +kernel
theorem dX5_isOf_62 : decode cX5_isOf 62 = .ok (.invokestatic 47, 3) := by decide +kernel
theorem dX5_isOf_65 : decode cX5_isOf 65 = .ok (.ireturn, 1) := by decide +kernel
theorem dX5_isOf_66 : decode cX5_isOf 66 = .ok (.iload_n 1, 1) := by decide +kernel
theorem dX5_isOf_67 : decode cX5_isOf 67 = .ok (.iconst 1, 1) := by decide +kernel
theorem dX5_isOf_68 : decode cX5_isOf 68 = .ok (.bipush 16, 2) := by decide +kernel
theorem dX5_isOf_70 : decode cX5_isOf 70 = .ok (.invokestatic 47, 3) := by decide +kernel
theorem dX5_isOf_73 : decode cX5_isOf 73 = .ok (.ireturn, 1) := by decide +kernel
theorem dX5_isOf_74 : decode cX5_isOf 74 = .ok (.iload_n 1, 1) := by decide +kernel
theorem dX5_isOf_75 : decode cX5_isOf 75 = .ok (.bipush 10, 2) := by decide +kernel
theorem dX5_isOf_77 : decode cX5_isOf 77 = .ok (.bipush 100, 2) := by decide +kernel
theorem dX5_isOf_79 : decode cX5_isOf 79 = .ok (.invokestatic 47, 3) := by decide +kernel
theorem dX5_isOf_82 : decode cX5_isOf 82 = .ok (.ireturn, 1) := by decide +kernel
theorem dX5_isOf_83 : decode cX5_isOf 83 = .ok (.iload_n 1, 1) := by decide +kernel
theorem dX5_isOf_84 : decode cX5_isOf 84 = .ok (.bipush 100, 2) := by decide +kernel
theorem dX5_isOf_86 : decode cX5_isOf 86 = .ok (.sipush 1000, 3) := by decide +kernel
theorem dX5_isOf_89 : decode cX5_isOf 89 = .ok (.invokestatic 47, 3) := by decide +kernel
theorem dX5_isOf_92 : decode cX5_isOf 92 = .ok (.ireturn, 1) := by decide +kernel
theorem dX5_isOf_93 : decode cX5_isOf 93 = .ok (.iload_n 1, 1) := by decide +kernel
theorem dX5_isOf_94 : decode cX5_isOf 94 = .ok (.iconst 1, 1) := by decide +kernel
theorem dX5_isOf_95 : decode cX5_isOf 95 = .ok (.ldc 105, 2) := by decide +kernel
theorem dX5_isOf_97 : decode cX5_isOf 97 = .ok (.invokestatic 47, 3) := by decide +kernel
theorem dX5_isOf_100 : decode cX5_isOf 100 = .ok (.ireturn, 1) := by decide +kernel
theorem dX5_isOf_101 : decode cX5_isOf 101 = .ok (.iload_n 1, 1) := by decide +kernel
theorem dX5_isOf_102 : decode cX5_isOf 102 = .ok (.iconst 1, 1) := by decide +kernel
theorem dX5_isOf_103 : decode cX5_isOf 103 = .ok (.bipush 32, 2) := by decide +kernel
theorem dX5_isOf_105 : decode cX5_isOf 105 = .ok (.invokestatic 47, 3) := by decide +kernel
theorem dX5_isOf_108 : decode cX5_isOf 108 = .ok (.ireturn, 1) := by decide +kernel
theorem dX5_isOf_109 : decode cX5_isOf 109 = .ok (.iload_n 1, 1) := by decide +kernel
theorem dX5_isOf_110 : decode cX5_isOf 110 = .ok (.iconst 0, 1) := by decide +kernel
theorem dX5_isOf_111 : decode cX5_isOf 111 = .ok (.iconst 1, 1) := by decide +kernel
theorem dX5_isOf_112 : decode cX5_isOf 112 = .ok (.invokestatic 47, 3) := by decide +kernel
theorem dX5_isOf_115 : decode cX5_isOf 115 = .ok (.ireturn, 1) := by decide +kernel
theorem dX5_isOf_116 : decode cX5_isOf 116 = .ok (.iload_n 0, 1) := by decide +kernel
theorem dX5_isOf_117 : decode cX5_isOf 117 = .ok (.bipush 8, 2) := by decide +kernel
theorem dX5_isOf_119 : decode cX5_isOf 119 = .ok (.if_icmp .ne 18, 3) := by decide +kernel
theorem dX5_isOf_122 : decode cX5_isOf 122 = .ok (.iload_n 1, 1) := by decide +kernel
theorem dX5_isOf_123 : decode cX5_isOf 123 = .ok (.iconst 0, 1) := by decide +kernel
theorem dX5_isOf_124 : decode cX5_isOf 124 = .ok (.sipush 500, 3) := by decide +kernel
theorem dX5_isOf_127 : decode cX5_isOf 127 = .ok (.invokestatic 47, 3) := by decide +kernel
theorem dX5_isOf_130 : decode cX5_isOf 130 = .ok (.ifCond .eq 7, 3) := by decide +kernel
theorem dX5_isOf_133 : decode cX5_isOf 133 = .ok (.iconst 1, 1) := by decide +kernel
theorem dX5_isOf_134 : decode cX5_isOf 134 = .ok (.goto 4, 3) := by decide +kernel
theorem dX5_isOf_137 : decode cX5_isOf 137 = .ok (.iconst 0, 1) := by decide +kernel
theorem dX5_isOf_138 : decode cX5_isOf 138 = .ok (.ireturn, 1) := by decide +kernel
set_option maxRecDepth 20000 in
theorem ggX5_set_X5_isOf : GoodIn wsX5_set wsX5_isOf := goodIn_r _ [5, 6, 7, 8, 4, 9] (by decide +kernel) (by decide +kernel)
set_option maxRecDepth 20000 in
theorem gX5_set_X5_isOf : GoodIn wsX5_set (va_wsS RX5 106 yX5_isOf wsX5_isOf) := goodIn_app (goodIn_of _ (by decide +kernel)) ggX5_set_X5_isOf
set_option maxRecDepth 20000 in
theorem ggX5_set_X5_remember : GoodIn wsX5_set wsX5_remember := goodIn_r _ [13, 14, 15, 1, 16, 17, 18, 19, 20, 21, 22, 23, 24, 25, 26] (by decide +kernel) (by decide +kernel)
set_option maxRecDepth 20000 in
theorem gX5_set_X5_remember : GoodIn wsX5_set (wsV RX5 98 RX5 yX5_remember wsX5_remember) := goodIn_app (goodIn_of _ (by decide +kernel)) ggX5_set_X5_remember
theorem dX5_set_0 : decode cX5_set 0 = .ok (.iload_n 1, 1) := by decide +kernel
theorem dX5_set_1 : decode cX5_set 1 = .ok (.iload_n 2, 1) := by decide +kernel
theorem dX5_set_2 : decode cX5_set 2 = .ok (.invokestatic 106, 3) := by decide +kernel
theorem dX5_set_5 : decode cX5_set 5 = .ok (.ifCond .ne 5, 3) := by decide +kernel
theorem dX5_set_8 : decode cX5_set 8 = .ok (.iconst (-1), 1) := by decide +kernel
theorem dX5_set_9 : decode cX5_set 9 = .ok (.ireturn, 1) := by decide +kernel
theorem dX5_set_10 : decode cX5_set 10 = .ok (.aload_n 0, 1) := by decide +kernel
theorem dX5_set_11 : decode cX5_set 11 = .ok (.invokevirtual 98, 3) := by decide +kernel
theorem dX5_set_14 : decode cX5_set 14 = .ok (.aload_n 0, 1) := by decide +kernel
theorem dX5_set_15 : decode cX5_set 15 = .ok (.getfield 7, 3) := by decide +kernel
theorem dX5_set_18 : decode cX5_set 18 = .ok (.iconst 1, 1) := by decide +kernel
theorem dX5_set_19 : decode cX5_set 19 = .ok (.iload_n 1, 1) := by decide +kernel
theorem dX5_set_20 : decode cX5_set 20 = .ok (.iadd, 1) := by decide +kernel
theorem dX5_set_21 : decode cX5_set 21 = .ok (.iaload, 1) := by decide +kernel
theorem dX5_set_22 : decode cX5_set 22 = .ok (.istore_n 3, 1) := by decide +kernel
theorem dX5_set_23 : decode cX5_set 23 = .ok (.aload_n 0, 1) := by decide +kernel
theorem dX5_set_24 : decode cX5_set 24 = .ok (.getfield 7, 3) := by decide +kernel
theorem dX5_set_27 : decode cX5_set 27 = .ok (.iconst 1, 1) := by decide +kernel
theorem dX5_set_28 : decode cX5_set 28 = .ok (.iload_n 1, 1) := by decide +kernel
theorem dX5_set_29 : decode cX5_set 29 = .ok (.iadd, 1) := by decide +kernel
theorem dX5_set_30 : decode cX5_set 30 = .ok (.iload_n 2, 1) := by decide +kernel
theorem dX5_set_31 : decode cX5_set 31 = .ok (.iastore, 1) := by decide +kernel
theorem dX5_set_32 : decode cX5_set 32 = .ok (.iload_n 3, 1) := by decide +kernel
theorem dX5_set_33 : decode cX5_set 33 = .ok (.ireturn, 1) := by decide +kernel
set_option maxRecDepth 20000 in
theorem ggX5_find_X5_remember : GoodIn wsX5_find wsX5_remember := goodIn_r _ [7, 8, 9, 1, 18, 19, 20, 21, 22, 23, 24, 25, 26, 27, 28] (by decide +kernel) (by decide +kernel)
set_option maxRecDepth 20000 in
theorem gX5_find_X5_remember : GoodIn wsX5_find (wsV RX5 98 RX5 yX5_remember wsX5_remember) := goodIn_app (goodIn_of _ (by decide +kernel)) ggX5_find_X5_remember
set_option maxRecDepth 20000 in
theorem ggX5_find_X5_findBy : GoodIn wsX5_find wsX5_findBy := goodIn_r _ [13, 2, 1, 18, 19, 20, 21, 22, 23, 24, 25, 26, 27, 28] (by decide +kernel) (by decide +kernel)
set_option maxRecDepth 20000 in
theorem gX5_find_X5_findBy : GoodIn wsX5_find (wsV RX5 109 RX5 yX5_findBy wsX5_findBy) := goodIn_app (goodIn_of _ (by decide +kernel)) ggX5_find_X5_findBy
set_option maxRecDepth 20000 in
theorem ggX5_find_X5_layOrder : GoodIn wsX5_find wsX5_layOrder := goodIn_r _ [17, 1, 18, 19, 20, 21, 22, 23, 24, 25, 26, 27, 28] (by decide +kernel) (by decide +kernel)
set_option maxRecDepth 20000 in
theorem gX5_find_X5_layOrder : GoodIn wsX5_find (wsV RX5 40 RX5 yX5_layOrder wsX5_layOrder) := goodIn_app (goodIn_of _ (by decide +kernel)) ggX5_find_X5_layOrder
theorem dX5_find_0 : decode cX5_find 0 = .ok (.aload_n 0, 1) := by decide +kernel
theorem dX5_find_1 : decode cX5_find 1 = .ok (.invokevirtual 98, 3) := by decide +kernel
theorem dX5_find_4 : decode cX5_find 4 = .ok (.aload_n 0, 1) := by decide +kernel
theorem dX5_find_5 : decode cX5_find 5 = .ok (.getfield 7, 3) := by decide +kernel
theorem dX5_find_8 : decode cX5_find 8 = .ok (.bipush 74, 2) := by decide +kernel
theorem dX5_find_10 : decode cX5_find 10 = .ok (.aload_n 0, 1) := by decide +kernel
theorem dX5_find_11 : decode cX5_find 11 = .ok (.aload_n 0, 1) := by decide +kernel
theorem dX5_find_12 : decode cX5_find 12 = .ok (.getfield 7, 3) := by decide +kernel
theorem dX5_find_15 : decode cX5_find 15 = .ok (.iconst 2, 1) := by decide +kernel
theorem dX5_find_16 : decode cX5_find 16 = .ok (.iaload, 1) := by decide +kernel
theorem dX5_find_17 : decode cX5_find 17 = .ok (.invokevirtual 109, 3) := by decide +kernel
theorem dX5_find_20 : decode cX5_find 20 = .ok (.iastore, 1) := by decide +kernel
theorem dX5_find_21 : decode cX5_find 21 = .ok (.iconst 0, 1) := by decide +kernel
theorem dX5_find_22 : decode cX5_find 22 = .ok (.istore_n 1, 1) := by decide +kernel
theorem dX5_find_23 : decode cX5_find 23 = .ok (.iload_n 1, 1) := by decide +kernel
theorem dX5_find_24 : decode cX5_find 24 = .ok (.aload_n 0, 1) := by decide +kernel
theorem dX5_find_25 : decode cX5_find 25 = .ok (.getfield 7, 3) := by decide +kernel
theorem dX5_find_28 : decode cX5_find 28 = .ok (.bipush 74, 2) := by decide +kernel
theorem dX5_find_30 : decode cX5_find 30 = .ok (.iaload, 1) := by decide +kernel
theorem dX5_find_31 : decode cX5_find 31 = .ok (.if_icmp .ge 24, 3) := by decide +kernel
theorem dX5_find_34 : decode cX5_find 34 = .ok (.aload_n 0, 1) := by decide +kernel
theorem dX5_find_35 : decode cX5_find 35 = .ok (.getfield 7, 3) := by decide +kernel
theorem dX5_find_38 : decode cX5_find 38 = .ok (.bipush 75, 2) := by decide +kernel
theorem dX5_find_40 : decode cX5_find 40 = .ok (.iload_n 1, 1) := by decide +kernel
theorem dX5_find_41 : decode cX5_find 41 = .ok (.iadd, 1) := by decide +kernel
theorem dX5_find_42 : decode cX5_find 42 = .ok (.aload_n 0, 1) := by decide +kernel
theorem dX5_find_43 : decode cX5_find 43 = .ok (.getfield 19, 3) := by decide +kernel
theorem dX5_find_46 : decode cX5_find 46 = .ok (.iload_n 1, 1) := by decide +kernel
theorem dX5_find_47 : decode cX5_find 47 = .ok (.iaload, 1) := by decide +kernel
theorem dX5_find_48 : decode cX5_find 48 = .ok (.iastore, 1) := by decide +kernel
theorem dX5_find_49 : decode cX5_find 49 = .ok (.iinc 1 1, 3) := by decide +kernel
theorem dX5_find_52 : decode cX5_find 52 = .ok (.goto (-29), 3) := by decide +kernel
theorem dX5_find_55 : decode cX5_find 55 = .ok (.aload_n 0, 1) := by decide +kernel
theorem dX5_find_56 : decode cX5_find 56 = .ok (.invokevirtual 40, 3) := by decide +kernel
theorem dX5_find_59 : decode cX5_find 59 = .ok (.aload_n 0, 1) := by decide +kernel
theorem dX5_find_60 : decode cX5_find 60 = .ok (.getfield 7, 3) := by decide +kernel
theorem dX5_find_63 : decode cX5_find 63 = .ok (.bipush 74, 2) := by decide +kernel
theorem dX5_find_65 : decode cX5_find 65 = .ok (.iaload, 1) := by decide +kernel
theorem dX5_find_66 : decode cX5_find 66 = .ok (.ireturn, 1) := by decide +kernel
set_option maxRecDepth 20000 in
theorem ggX5_mark_X5_isFrame : GoodIn wsX5_mark wsX5_isFrame := goodIn_r _ [6, 1, 7, 8, 5, 9, 20, 21, 22, 23, 24, 25, 26, 27, 28, 29, 30] (by decide +kernel) (by decide +kernel)
set_option maxRecDepth 20000 in
theorem gX5_mark_X5_isFrame : GoodIn wsX5_mark (wsV RX5 101 RX5 yX5_isFrame wsX5_isFrame) := goodIn_app (goodIn_of _ (by decide +kernel)) ggX5_mark_X5_isFrame
set_option maxRecDepth 20000 in
theorem ggX5_mark_X5_remember : GoodIn wsX5_mark wsX5_remember := goodIn_r _ [13, 14, 15, 1, 20, 21, 22, 23, 24, 25, 26, 27, 28, 29, 30] (by decide +kernel) (by decide +kernel)
set_option maxRecDepth 20000 in
theorem gX5_mark_X5_remember : GoodIn wsX5_mark (wsV RX5 98 RX5 yX5_remember wsX5_remember) := goodIn_app (goodIn_of _ (by decide +kernel)) ggX5_mark_X5_remember
set_option maxRecDepth 20000 in
theorem ggX5_mark_X5_layOrder : GoodIn wsX5_mark wsX5_layOrder := goodIn_r _ [19, 1, 20, 21, 22, 23, 24, 25, 26, 27, 28, 29, 30] (by decide +kernel) (by decide +kernel)
set_option maxRecDepth 20000 in
theorem gX5_mark_X5_layOrder : GoodIn wsX5_mark (wsV RX5 40 RX5 yX5_layOrder wsX5_layOrder) := goodIn_app (goodIn_of _ (by decide +kernel)) ggX5_mark_X5_layOrder
theorem dX5_mark_0 : decode cX5_mark 0 = .ok (.aload_n 0, 1) := by decide +kernel
theorem dX5_mark_1 : decode cX5_mark 1 = .ok (.iload_n 1, 1) := by decide +kernel
theorem dX5_mark_2 : decode cX5_mark 2 = .ok (.invokevirtual 101, 3) := by decide +kernel
theorem dX5_mark_5 : decode cX5_mark 5 = .ok (.ifCond .ne 5, 3) := by decide +kernel
theorem dX5_mark_8 : decode cX5_mark 8 = .ok (.iconst (-1), 1) := by decide +kernel
theorem dX5_mark_9 : decode cX5_mark 9 = .ok (.ireturn, 1) := by decide +kernel
theorem dX5_mark_10 : decode cX5_mark 10 = .ok (.iconst 0, 1) := by decide +kernel
theorem dX5_mark_11 : decode cX5_mark 11 = .ok (.istore_n 2, 1) := by decide +kernel
theorem dX5_mark_12 : decode cX5_mark 12 = .ok (.iload_n 2, 1) := by decide +kernel
theorem dX5_mark_13 : decode cX5_mark 13 = .ok (.aload_n 0, 1) := by decide +kernel
theorem dX5_mark_14 : decode cX5_mark 14 = .ok (.getfield 7, 3) := by decide +kernel
theorem dX5_mark_17 : decode cX5_mark 17 = .ok (.bipush 74, 2) := by decide +kernel
theorem dX5_mark_19 : decode cX5_mark 19 = .ok (.iaload, 1) := by decide +kernel
theorem dX5_mark_20 : decode cX5_mark 20 = .ok (.if_icmp .ge 22, 3) := by decide +kernel
theorem dX5_mark_23 : decode cX5_mark 23 = .ok (.aload_n 0, 1) := by decide +kernel
theorem dX5_mark_24 : decode cX5_mark 24 = .ok (.getfield 7, 3) := by decide +kernel
theorem dX5_mark_27 : decode cX5_mark 27 = .ok (.bipush 75, 2) := by decide +kernel
theorem dX5_mark_29 : decode cX5_mark 29 = .ok (.iload_n 2, 1) := by decide +kernel
theorem dX5_mark_30 : decode cX5_mark 30 = .ok (.iadd, 1) := by decide +kernel
theorem dX5_mark_31 : decode cX5_mark 31 = .ok (.iaload, 1) := by decide +kernel
theorem dX5_mark_32 : decode cX5_mark 32 = .ok (.iload_n 1, 1) := by decide +kernel
theorem dX5_mark_33 : decode cX5_mark 33 = .ok (.if_icmp .ge 9, 3) := by decide +kernel
theorem dX5_mark_36 : decode cX5_mark 36 = .ok (.iinc 2 1, 3) := by decide +kernel
theorem dX5_mark_39 : decode cX5_mark 39 = .ok (.goto (-27), 3) := by decide +kernel
theorem dX5_mark_42 : decode cX5_mark 42 = .ok (.iload_n 2, 1) := by decide +kernel
theorem dX5_mark_43 : decode cX5_mark 43 = .ok (.aload_n 0, 1) := by decide +kernel
theorem dX5_mark_44 : decode cX5_mark 44 = .ok (.getfield 7, 3) := by decide +kernel
theorem dX5_mark_47 : decode cX5_mark 47 = .ok (.bipush 74, 2) := by decide +kernel
theorem dX5_mark_49 : decode cX5_mark 49 = .ok (.iaload, 1) := by decide +kernel
theorem dX5_mark_50 : decode cX5_mark 50 = .ok (.if_icmp .ge 19, 3) := by decide +kernel
theorem dX5_mark_53 : decode cX5_mark 53 = .ok (.aload_n 0, 1) := by decide +kernel
theorem dX5_mark_54 : decode cX5_mark 54 = .ok (.getfield 7, 3) := by decide +kernel
theorem dX5_mark_57 : decode cX5_mark 57 = .ok (.bipush 75, 2) := by decide +kernel
theorem dX5_mark_59 : decode cX5_mark 59 = .ok (.iload_n 2, 1) := by decide +kernel
theorem dX5_mark_60 : decode cX5_mark 60 = .ok (.iadd, 1) := by decide +kernel
theorem dX5_mark_61 : decode cX5_mark 61 = .ok (.iaload, 1) := by decide +kernel
theorem dX5_mark_62 : decode cX5_mark 62 = .ok (.iload_n 1, 1) := by decide +kernel
theorem dX5_mark_63 : decode cX5_mark 63 = .ok (.if_icmp .ne 6, 3) := by decide +kernel
theorem dX5_mark_66 : decode cX5_mark 66 = .ok (.bipush (-2), 2) := by decide +kernel
theorem dX5_mark_68 : decode cX5_mark 68 = .ok (.ireturn, 1) := by decide +kernel
theorem dX5_mark_69 : decode cX5_mark 69 = .ok (.aload_n 0, 1) := by decide +kernel
theorem dX5_mark_70 : decode cX5_mark 70 = .ok (.getfield 7, 3) := by decide +kernel
theorem dX5_mark_73 : decode cX5_mark 73 = .ok (.bipush 74, 2) := by decide +kernel
theorem dX5_mark_75 : decode cX5_mark 75 = .ok (.iaload, 1) := by decide +kernel
theorem dX5_mark_76 : decode cX5_mark 76 = .ok (.bipush 16, 2) := by decide +kernel
theorem dX5_mark_78 : decode cX5_mark 78 = .ok (.if_icmp .ne 6, 3) := by decide +kernel
theorem dX5_mark_81 : decode cX5_mark 81 = .ok (.bipush (-3), 2) := by decide +kernel
theorem dX5_mark_83 : decode cX5_mark 83 = .ok (.ireturn, 1) := by decide +kernel
theorem dX5_mark_84 : decode cX5_mark 84 = .ok (.aload_n 0, 1) := by decide +kernel
theorem dX5_mark_85 : decode cX5_mark 85 = .ok (.invokevirtual 98, 3) := by decide +kernel
theorem dX5_mark_88 : decode cX5_mark 88 = .ok (.aload_n 0, 1) := by decide +kernel
theorem dX5_mark_89 : decode cX5_mark 89 = .ok (.getfield 7, 3) := by decide +kernel
theorem dX5_mark_92 : decode cX5_mark 92 = .ok (.bipush 74, 2) := by decide +kernel
theorem dX5_mark_94 : decode cX5_mark 94 = .ok (.iaload, 1) := by decide +kernel
theorem dX5_mark_95 : decode cX5_mark 95 = .ok (.istore_n 3, 1) := by decide +kernel
theorem dX5_mark_96 : decode cX5_mark 96 = .ok (.iload_n 3, 1) := by decide +kernel
theorem dX5_mark_97 : decode cX5_mark 97 = .ok (.iload_n 2, 1) := by decide +kernel
theorem dX5_mark_98 : decode cX5_mark 98 = .ok (.if_icmp .le 29, 3) := by decide +kernel
theorem dX5_mark_101 : decode cX5_mark 101 = .ok (.aload_n 0, 1) := by decide +kernel
theorem dX5_mark_102 : decode cX5_mark 102 = .ok (.getfield 7, 3) := by decide +kernel
theorem dX5_mark_105 : decode cX5_mark 105 = .ok (.bipush 75, 2) := by decide +kernel
theorem dX5_mark_107 : decode cX5_mark 107 = .ok (.iload_n 3, 1) := by decide +kernel
theorem dX5_mark_108 : decode cX5_mark 108 = .ok (.iadd, 1) := by decide +kernel
theorem dX5_mark_109 : decode cX5_mark 109 = .ok (.aload_n 0, 1) := by decide +kernel
theorem dX5_mark_110 : decode cX5_mark 110 = .ok (.getfield 7, 3) := by decide +kernel
theorem dX5_mark_113 : decode cX5_mark 113 = .ok (.bipush 75, 2) := by decide +kernel
theorem dX5_mark_115 : decode cX5_mark 115 = .ok (.iload_n 3, 1) := by decide +kernel
theorem dX5_mark_116 : decode cX5_mark 116 = .ok (.iadd, 1) := by decide +kernel
theorem dX5_mark_117 : decode cX5_mark 117 = .ok (.iconst 1, 1) := by decide +kernel
theorem dX5_mark_118 : decode cX5_mark 118 = .ok (.isub, 1) := by decide +kernel
theorem dX5_mark_119 : decode cX5_mark 119 = .ok (.iaload, 1) := by decide +kernel
theorem dX5_mark_120 : decode cX5_mark 120 = .ok (.iastore, 1) := by decide +kernel
theorem dX5_mark_121 : decode cX5_mark 121 = .ok (.iinc 3 (-1), 3) := by decide +kernel
theorem dX5_mark_124 : decode cX5_mark 124 = .ok (.goto (-28), 3) := by decide +kernel
theorem dX5_mark_127 : decode cX5_mark 127 = .ok (.aload_n 0, 1) := by decide +kernel
theorem dX5_mark_128 : decode cX5_mark 128 = .ok (.getfield 7, 3) := by decide +kernel
theorem dX5_mark_131 : decode cX5_mark 131 = .ok (.bipush 75, 2) := by decide +kernel
theorem dX5_mark_133 : decode cX5_mark 133 = .ok (.iload_n 2, 1) := by decide +kernel
theorem dX5_mark_134 : decode cX5_mark 134 = .ok (.iadd, 1) := by decide +kernel
theorem dX5_mark_135 : decode cX5_mark 135 = .ok (.iload_n 1, 1) := by decide +kernel
theorem dX5_mark_136 : decode cX5_mark 136 = .ok (.iastore, 1) := by decide +kernel
theorem dX5_mark_137 : decode cX5_mark 137 = .ok (.aload_n 0, 1) := by decide +kernel
theorem dX5_mark_138 : decode cX5_mark 138 = .ok (.getfield 7, 3) := by decide +kernel
theorem dX5_mark_141 : decode cX5_mark 141 = .ok (.bipush 74, 2) := by decide +kernel
theorem dX5_mark_143 : decode cX5_mark 143 = .ok (.dup2, 1) := by decide +kernel
theorem dX5_mark_144 : decode cX5_mark 144 = .ok (.iaload, 1) := by decide +kernel
theorem dX5_mark_145 : decode cX5_mark 145 = .ok (.iconst 1, 1) := by decide +kernel
theorem dX5_mark_146 : decode cX5_mark 146 = .ok (.iadd, 1) := by decide +kernel
theorem dX5_mark_147 : decode cX5_mark 147 = .ok (.iastore, 1) := by decide +kernel
theorem dX5_mark_148 : decode cX5_mark 148 = .ok (.aload_n 0, 1) := by decide +kernel
theorem dX5_mark_149 : decode cX5_mark 149 = .ok (.invokevirtual 40, 3) := by decide +kernel
theorem dX5_mark_152 : decode cX5_mark 152 = .ok (.iload_n 2, 1) := by decide +kernel
theorem dX5_mark_153 : decode cX5_mark 153 = .ok (.ireturn, 1) := by decide +kernel
set_option maxRecDepth 20000 in
theorem ggX5_isFurther_X5_isIn : GoodIn wsX5_isFurther wsX5_isIn := goodIn_r _ [5] (by decide +kernel) (by decide +kernel)
set_option maxRecDepth 20000 in
theorem gX5_isFurther_X5_isIn : GoodIn wsX5_isFurther (va_wsS RX5 47 yX5_isIn wsX5_isIn) := goodIn_app (goodIn_of _ (by decide +kernel)) ggX5_isFurther_X5_isIn
theorem dX5_isFurther_0 : decode cX5_isFurther 0 = .ok (.iload_n 1, 1) := by decide +kernel
theorem dX5_isFurther_1 : decode cX5_isFurther 1 = .ok (.iconst 1, 1) := by decide +kernel
theorem dX5_isFurther_2 : decode cX5_isFurther 2 = .ok (.aload_n 0, 1) := by decide +kernel
theorem dX5_isFurther_3 : decode cX5_isFurther 3 = .ok (.getfield 7, 3) := by decide +kernel
theorem dX5_isFurther_6 : decode cX5_isFurther 6 = .ok (.bipush 74, 2) := by decide +kernel
theorem dX5_isFurther_8 : decode cX5_isFurther 8 = .ok (.iaload, 1) := by decide +kernel
theorem dX5_isFurther_9 : decode cX5_isFurther 9 = .ok (.iconst 1, 1) := by decide +kernel
theorem dX5_isFurther_10 : decode cX5_isFurther 10 = .ok (.isub, 1) := by decide +kernel
theorem dX5_isFurther_11 : decode cX5_isFurther 11 = .ok (.invokestatic 47, 3) := by decide +kernel
theorem dX5_isFurther_14 : decode cX5_isFurther 14 = .ok (.ireturn, 1) := by decide +kernel
set_option maxRecDepth 20000 in
theorem ggX5_unmark_X5_isFurther : GoodIn wsX5_unmark wsX5_isFurther := goodIn_r _ [6, 1, 7, 8, 5, 9, 20, 21, 22, 23, 24, 25, 26, 27, 28, 29, 30] (by decide +kernel) (by decide +kernel)
set_option maxRecDepth 20000 in
theorem gX5_unmark_X5_isFurther : GoodIn wsX5_unmark (wsV RX5 112 RX5 yX5_isFurther wsX5_isFurther) := goodIn_app (goodIn_of _ (by decide +kernel)) ggX5_unmark_X5_isFurther
set_option maxRecDepth 20000 in
theorem ggX5_unmark_X5_remember : GoodIn wsX5_unmark wsX5_remember := goodIn_r _ [13, 14, 15, 1, 20, 21, 22, 23, 24, 25, 26, 27, 28, 29, 30] (by decide +kernel) (by decide +kernel)
set_option maxRecDepth 20000 in
theorem gX5_unmark_X5_remember : GoodIn wsX5_unmark (wsV RX5 98 RX5 yX5_remember wsX5_remember) := goodIn_app (goodIn_of _ (by decide +kernel)) ggX5_unmark_X5_remember
set_option maxRecDepth 20000 in
theorem ggX5_unmark_X5_layOrder : GoodIn wsX5_unmark wsX5_layOrder := goodIn_r _ [19, 1, 20, 21, 22, 23, 24, 25, 26, 27, 28, 29, 30] (by decide +kernel) (by decide +kernel)
set_option maxRecDepth 20000 in
theorem gX5_unmark_X5_layOrder : GoodIn wsX5_unmark (wsV RX5 40 RX5 yX5_layOrder wsX5_layOrder) := goodIn_app (goodIn_of _ (by decide +kernel)) ggX5_unmark_X5_layOrder
theorem dX5_unmark_0 : decode cX5_unmark 0 = .ok (.aload_n 0, 1) := by decide +kernel
theorem dX5_unmark_1 : decode cX5_unmark 1 = .ok (.iload_n 1, 1) := by decide +kernel
theorem dX5_unmark_2 : decode cX5_unmark 2 = .ok (.invokevirtual 112, 3) := by decide +kernel
theorem dX5_unmark_5 : decode cX5_unmark 5 = .ok (.ifCond .ne 5, 3) := by decide +kernel
theorem dX5_unmark_8 : decode cX5_unmark 8 = .ok (.iconst (-1), 1) := by decide +kernel
theorem dX5_unmark_9 : decode cX5_unmark 9 = .ok (.ireturn, 1) := by decide +kernel
theorem dX5_unmark_10 : decode cX5_unmark 10 = .ok (.aload_n 0, 1) := by decide +kernel
theorem dX5_unmark_11 : decode cX5_unmark 11 = .ok (.invokevirtual 98, 3) := by decide +kernel
theorem dX5_unmark_14 : decode cX5_unmark 14 = .ok (.iload_n 1, 1) := by decide +kernel
theorem dX5_unmark_15 : decode cX5_unmark 15 = .ok (.istore_n 2, 1) := by decide +kernel
theorem dX5_unmark_16 : decode cX5_unmark 16 = .ok (.iload_n 2, 1) := by decide +kernel
theorem dX5_unmark_17 : decode cX5_unmark 17 = .ok (.iconst 1, 1) := by decide +kernel
theorem dX5_unmark_18 : decode cX5_unmark 18 = .ok (.iadd, 1) := by decide +kernel
theorem dX5_unmark_19 : decode cX5_unmark 19 = .ok (.aload_n 0, 1) := by decide +kernel
theorem dX5_unmark_20 : decode cX5_unmark 20 = .ok (.getfield 7, 3) := by decide +kernel
theorem dX5_unmark_23 : decode cX5_unmark 23 = .ok (.bipush 74, 2) := by decide +kernel
theorem dX5_unmark_25 : decode cX5_unmark 25 = .ok (.iaload, 1) := by decide +kernel
theorem dX5_unmark_26 : decode cX5_unmark 26 = .ok (.if_icmp .ge 29, 3) := by decide +kernel
theorem dX5_unmark_29 : decode cX5_unmark 29 = .ok (.aload_n 0, 1) := by decide +kernel
theorem dX5_unmark_30 : decode cX5_unmark 30 = .ok (.getfield 7, 3) := by decide +kernel
theorem dX5_unmark_33 : decode cX5_unmark 33 = .ok (.bipush 75, 2) := by decide +kernel
theorem dX5_unmark_35 : decode cX5_unmark 35 = .ok (.iload_n 2, 1) := by decide +kernel
theorem dX5_unmark_36 : decode cX5_unmark 36 = .ok (.iadd, 1) := by decide +kernel
theorem dX5_unmark_37 : decode cX5_unmark 37 = .ok (.aload_n 0, 1) := by decide +kernel
theorem dX5_unmark_38 : decode cX5_unmark 38 = .ok (.getfield 7, 3) := by decide +kernel
theorem dX5_unmark_41 : decode cX5_unmark 41 = .ok (.bipush 75, 2) := by decide +kernel
theorem dX5_unmark_43 : decode cX5_unmark 43 = .ok (.iload_n 2, 1) := by decide +kernel
theorem dX5_unmark_44 : decode cX5_unmark 44 = .ok (.iadd, 1) := by decide +kernel
theorem dX5_unmark_45 : decode cX5_unmark 45 = .ok (.iconst 1, 1) := by decide +kernel
theorem dX5_unmark_46 : decode cX5_unmark 46 = .ok (.iadd, 1) := by decide +kernel
theorem dX5_unmark_47 : decode cX5_unmark 47 = .ok (.iaload, 1) := by decide +kernel
theorem dX5_unmark_48 : decode cX5_unmark 48 = .ok (.iastore, 1) := by decide +kernel
theorem dX5_unmark_49 : decode cX5_unmark 49 = .ok (.iinc 2 1, 3) := by decide +kernel
theorem dX5_unmark_52 : decode cX5_unmark 52 = .ok (.goto (-36), 3) := by decide +kernel
theorem dX5_unmark_55 : decode cX5_unmark 55 = .ok (.aload_n 0, 1) := by decide +kernel
theorem dX5_unmark_56 : decode cX5_unmark 56 = .ok (.getfield 7, 3) := by decide +kernel
theorem dX5_unmark_59 : decode cX5_unmark 59 = .ok (.bipush 74, 2) := by decide +kernel
theorem dX5_unmark_61 : decode cX5_unmark 61 = .ok (.dup2, 1) := by decide +kernel
theorem dX5_unmark_62 : decode cX5_unmark 62 = .ok (.iaload, 1) := by decide +kernel
theorem dX5_unmark_63 : decode cX5_unmark 63 = .ok (.iconst 1, 1) := by decide +kernel
theorem dX5_unmark_64 : decode cX5_unmark 64 = .ok (.isub, 1) := by decide +kernel
theorem dX5_unmark_65 : decode cX5_unmark 65 = .ok (.iastore, 1) := by decide +kernel
theorem dX5_unmark_66 : decode cX5_unmark 66 = .ok (.aload_n 0, 1) := by decide +kernel
theorem dX5_unmark_67 : decode cX5_unmark 67 = .ok (.invokevirtual 40, 3) := by decide +kernel
theorem dX5_unmark_70 : decode cX5_unmark 70 = .ok (.aload_n 0, 1) := by decide +kernel
theorem dX5_unmark_71 : decode cX5_unmark 71 = .ok (.getfield 7, 3) := by decide +kernel
theorem dX5_unmark_74 : decode cX5_unmark 74 = .ok (.bipush 74, 2) := by decide +kernel
theorem dX5_unmark_76 : decode cX5_unmark 76 = .ok (.iaload, 1) := by decide +kernel
theorem dX5_unmark_77 : decode cX5_unmark 77 = .ok (.ireturn, 1) := by decide +kernel
set_option maxRecDepth 20000 in
theorem ggX5_moveMark_X5_isFurther : GoodIn wsX5_moveMark wsX5_isFurther := goodIn_r _ [6, 1, 7, 8, 5, 9, 24, 25, 26, 27, 28, 29, 30, 31, 32, 33, 34] (by decide +kernel) (by decide +kernel)
set_option maxRecDepth 20000 in
theorem gX5_moveMark_X5_isFurther : GoodIn wsX5_moveMark (wsV RX5 112 RX5 yX5_isFurther wsX5_isFurther) := goodIn_app (goodIn_of _ (by decide +kernel)) ggX5_moveMark_X5_isFurther
set_option maxRecDepth 20000 in
theorem ggX5_moveMark_X5_isFrame : GoodIn wsX5_moveMark wsX5_isFrame := goodIn_r _ [13, 1, 7, 8, 5, 9, 24, 25, 26, 27, 28, 29, 30, 31, 32, 33, 34] (by decide +kernel) (by decide +kernel)
set_option maxRecDepth 20000 in
theorem gX5_moveMark_X5_isFrame : GoodIn wsX5_moveMark (wsV RX5 101 RX5 yX5_isFrame wsX5_isFrame) := goodIn_app (goodIn_of _ (by decide +kernel)) ggX5_moveMark_X5_isFrame
set_option maxRecDepth 20000 in
theorem ggX5_moveMark_X5_frameOf : GoodIn wsX5_moveMark wsX5_frameOf := goodIn_r _ [17, 1, 24, 25, 26, 27, 28, 29, 30, 31, 32, 33, 34] (by decide +kernel) (by decide +kernel)
set_option maxRecDepth 20000 in
theorem gX5_moveMark_X5_frameOf : GoodIn wsX5_moveMark (wsV RX5 51 RX5 yX5_frameOf wsX5_frameOf) := goodIn_app (goodIn_of _ (by decide +kernel)) ggX5_moveMark_X5_frameOf
set_option maxRecDepth 20000 in
theorem ggX5_moveMark_X5_remember : GoodIn wsX5_moveMark wsX5_remember := goodIn_r _ [21, 22, 23, 1, 24, 25, 26, 27, 28, 29, 30, 31, 32, 33, 34] (by decide +kernel) (by decide +kernel)
set_option maxRecDepth 20000 in
theorem gX5_moveMark_X5_remember : GoodIn wsX5_moveMark (wsV RX5 98 RX5 yX5_remember wsX5_remember) := goodIn_app (goodIn_of _ (by decide +kernel)) ggX5_moveMark_X5_remember
theorem dX5_moveMark_0 : decode cX5_moveMark 0 = .ok (.aload_n 0, 1) := by decide +kernel
theorem dX5_moveMark_1 : decode cX5_moveMark 1 = .ok (.iload_n 1, 1) := by decide +kernel
theorem dX5_moveMark_2 : decode cX5_moveMark 2 = .ok (.invokevirtual 112, 3) := by decide +kernel
theorem dX5_moveMark_5 : decode cX5_moveMark 5 = .ok (.ifCond .eq 11, 3) := by decide +kernel
theorem dX5_moveMark_8 : decode cX5_moveMark 8 = .ok (.aload_n 0, 1) := by decide +kernel
theorem dX5_moveMark_9 : decode cX5_moveMark 9 = .ok (.iload_n 2, 1) := by decide +kernel
theorem dX5_moveMark_10 : decode cX5_moveMark 10 = .ok (.invokevirtual 101, 3) := by decide +kernel
theorem dX5_moveMark_13 : decode cX5_moveMark 13 = .ok (.ifCond .ne 5, 3) := by decide +kernel
theorem dX5_moveMark_16 : decode cX5_moveMark 16 = .ok (.iconst (-1), 1) := by decide +kernel
theorem dX5_moveMark_17 : decode cX5_moveMark 17 = .ok (.ireturn, 1) := by decide +kernel
theorem dX5_moveMark_18 : decode cX5_moveMark 18 = .ok (.iload_n 2, 1) := by decide +kernel
theorem dX5_moveMark_19 : decode cX5_moveMark 19 = .ok (.aload_n 0, 1) := by decide +kernel
theorem dX5_moveMark_20 : decode cX5_moveMark 20 = .ok (.iload_n 1, 1) := by decide +kernel
theorem dX5_moveMark_21 : decode cX5_moveMark 21 = .ok (.iconst 1, 1) := by decide +kernel
theorem dX5_moveMark_22 : decode cX5_moveMark 22 = .ok (.isub, 1) := by decide +kernel
theorem dX5_moveMark_23 : decode cX5_moveMark 23 = .ok (.invokevirtual 51, 3) := by decide +kernel
theorem dX5_moveMark_26 : decode cX5_moveMark 26 = .ok (.if_icmp .le 14, 3) := by decide +kernel
theorem dX5_moveMark_29 : decode cX5_moveMark 29 = .ok (.iload_n 2, 1) := by decide +kernel
theorem dX5_moveMark_30 : decode cX5_moveMark 30 = .ok (.aload_n 0, 1) := by decide +kernel
theorem dX5_moveMark_31 : decode cX5_moveMark 31 = .ok (.iload_n 1, 1) := by decide +kernel
theorem dX5_moveMark_32 : decode cX5_moveMark 32 = .ok (.iconst 1, 1) := by decide +kernel
theorem dX5_moveMark_33 : decode cX5_moveMark 33 = .ok (.iadd, 1) := by decide +kernel
theorem dX5_moveMark_34 : decode cX5_moveMark 34 = .ok (.invokevirtual 51, 3) := by decide +kernel
theorem dX5_moveMark_37 : decode cX5_moveMark 37 = .ok (.if_icmp .lt 6, 3) := by decide +kernel
theorem dX5_moveMark_40 : decode cX5_moveMark 40 = .ok (.bipush (-2), 2) := by decide +kernel
theorem dX5_moveMark_42 : decode cX5_moveMark 42 = .ok (.ireturn, 1) := by decide +kernel
theorem dX5_moveMark_43 : decode cX5_moveMark 43 = .ok (.aload_n 0, 1) := by decide +kernel
theorem dX5_moveMark_44 : decode cX5_moveMark 44 = .ok (.invokevirtual 98, 3) := by decide +kernel
theorem dX5_moveMark_47 : decode cX5_moveMark 47 = .ok (.aload_n 0, 1) := by decide +kernel
theorem dX5_moveMark_48 : decode cX5_moveMark 48 = .ok (.getfield 7, 3) := by decide +kernel
theorem dX5_moveMark_51 : decode cX5_moveMark 51 = .ok (.bipush 75, 2) := by decide +kernel
theorem dX5_moveMark_53 : decode cX5_moveMark 53 = .ok (.iload_n 1, 1) := by decide +kernel
theorem dX5_moveMark_54 : decode cX5_moveMark 54 = .ok (.iadd, 1) := by decide +kernel
theorem dX5_moveMark_55 : decode cX5_moveMark 55 = .ok (.iaload, 1) := by decide +kernel
theorem dX5_moveMark_56 : decode cX5_moveMark 56 = .ok (.istore_n 3, 1) := by decide +kernel
theorem dX5_moveMark_57 : decode cX5_moveMark 57 = .ok (.aload_n 0, 1) := by decide +kernel
theorem dX5_moveMark_58 : decode cX5_moveMark 58 = .ok (.getfield 7, 3) := by decide +kernel
theorem dX5_moveMark_61 : decode cX5_moveMark 61 = .ok (.bipush 75, 2) := by decide +kernel
theorem dX5_moveMark_63 : decode cX5_moveMark 63 = .ok (.iload_n 1, 1) := by decide +kernel
theorem dX5_moveMark_64 : decode cX5_moveMark 64 = .ok (.iadd, 1) := by decide +kernel
theorem dX5_moveMark_65 : decode cX5_moveMark 65 = .ok (.iload_n 2, 1) := by decide +kernel
theorem dX5_moveMark_66 : decode cX5_moveMark 66 = .ok (.iastore, 1) := by decide +kernel
theorem dX5_moveMark_67 : decode cX5_moveMark 67 = .ok (.iload_n 3, 1) := by decide +kernel
theorem dX5_moveMark_68 : decode cX5_moveMark 68 = .ok (.ireturn, 1) := by decide +kernel
set_option maxRecDepth 20000 in
theorem ggX5_swap_X5_isSlice : GoodIn wsX5_swap wsX5_isSlice := goodIn_r _ [6, 1, 7, 8, 5, 9, 16, 17, 18, 19, 20, 21, 22, 23, 24, 25, 26] (by decide +kernel) (by decide +kernel)
set_option maxRecDepth 20000 in
theorem gX5_swap_X5_isSlice : GoodIn wsX5_swap (wsV RX5 115 RX5 yX5_isSlice wsX5_isSlice) := goodIn_app (goodIn_of _ (by decide +kernel)) ggX5_swap_X5_isSlice
set_option maxRecDepth 20000 in
theorem ggX5_swap_X5_remember : GoodIn wsX5_swap wsX5_remember := goodIn_r _ [13, 14, 15, 1, 16, 17, 18, 19, 20, 21, 22, 23, 24, 25, 26] (by decide +kernel) (by decide +kernel)
set_option maxRecDepth 20000 in
theorem gX5_swap_X5_remember : GoodIn wsX5_swap (wsV RX5 98 RX5 yX5_remember wsX5_remember) := goodIn_app (goodIn_of _ (by decide +kernel)) ggX5_swap_X5_remember
theorem dX5_swap_0 : decode cX5_swap 0 = .ok (.aload_n 0, 1) := by decide +kernel
theorem dX5_swap_1 : decode cX5_swap 1 = .ok (.iload_n 1, 1) := by decide +kernel
theorem dX5_swap_2 : decode cX5_swap 2 = .ok (.invokevirtual 115, 3) := by decide +kernel
theorem dX5_swap_5 : decode cX5_swap 5 = .ok (.ifCond .eq 11, 3) := by decide +kernel
theorem dX5_swap_8 : decode cX5_swap 8 = .ok (.aload_n 0, 1) := by decide +kernel
theorem dX5_swap_9 : decode cX5_swap 9 = .ok (.iload_n 2, 1) := by decide +kernel
theorem dX5_swap_10 : decode cX5_swap 10 = .ok (.invokevirtual 115, 3) := by decide +kernel
theorem dX5_swap_13 : decode cX5_swap 13 = .ok (.ifCond .ne 5, 3) := by decide +kernel
theorem dX5_swap_16 : decode cX5_swap 16 = .ok (.iconst (-1), 1) := by decide +kernel
theorem dX5_swap_17 : decode cX5_swap 17 = .ok (.ireturn, 1) := by decide +kernel
theorem dX5_swap_18 : decode cX5_swap 18 = .ok (.aload_n 0, 1) := by decide +kernel
theorem dX5_swap_19 : decode cX5_swap 19 = .ok (.invokevirtual 98, 3) := by decide +kernel
theorem dX5_swap_22 : decode cX5_swap 22 = .ok (.aload_n 0, 1) := by decide +kernel
theorem dX5_swap_23 : decode cX5_swap 23 = .ok (.getfield 7, 3) := by decide +kernel
theorem dX5_swap_26 : decode cX5_swap 26 = .ok (.bipush 91, 2) := by decide +kernel
theorem dX5_swap_28 : decode cX5_swap 28 = .ok (.iload_n 1, 1) := by decide +kernel
theorem dX5_swap_29 : decode cX5_swap 29 = .ok (.iadd, 1) := by decide +kernel
theorem dX5_swap_30 : decode cX5_swap 30 = .ok (.iaload, 1) := by decide +kernel
theorem dX5_swap_31 : decode cX5_swap 31 = .ok (.istore_n 3, 1) := by decide +kernel
theorem dX5_swap_32 : decode cX5_swap 32 = .ok (.aload_n 0, 1) := by decide +kernel
theorem dX5_swap_33 : decode cX5_swap 33 = .ok (.getfield 7, 3) := by decide +kernel
theorem dX5_swap_36 : decode cX5_swap 36 = .ok (.bipush 91, 2) := by decide +kernel
theorem dX5_swap_38 : decode cX5_swap 38 = .ok (.iload_n 1, 1) := by decide +kernel
theorem dX5_swap_39 : decode cX5_swap 39 = .ok (.iadd, 1) := by decide +kernel
theorem dX5_swap_40 : decode cX5_swap 40 = .ok (.aload_n 0, 1) := by decide +kernel
theorem dX5_swap_41 : decode cX5_swap 41 = .ok (.getfield 7, 3) := by decide +kernel
theorem dX5_swap_44 : decode cX5_swap 44 = .ok (.bipush 91, 2) := by decide +kernel
theorem dX5_swap_46 : decode cX5_swap 46 = .ok (.iload_n 2, 1) := by decide +kernel
theorem dX5_swap_47 : decode cX5_swap 47 = .ok (.iadd, 1) := by decide +kernel
theorem dX5_swap_48 : decode cX5_swap 48 = .ok (.iaload, 1) := by decide +kernel
theorem dX5_swap_49 : decode cX5_swap 49 = .ok (.iastore, 1) := by decide +kernel
theorem dX5_swap_50 : decode cX5_swap 50 = .ok (.aload_n 0, 1) := by decide +kernel
theorem dX5_swap_51 : decode cX5_swap 51 = .ok (.getfield 7, 3) := by decide +kernel
theorem dX5_swap_54 : decode cX5_swap 54 = .ok (.bipush 91, 2) := by decide +kernel
theorem dX5_swap_56 : decode cX5_swap 56 = .ok (.iload_n 2, 1) := by decide +kernel
theorem dX5_swap_57 : decode cX5_swap 57 = .ok (.iadd, 1) := by decide +kernel
theorem dX5_swap_58 : decode cX5_swap 58 = .ok (.iload_n 3, 1) := by decide +kernel
theorem dX5_swap_59 : decode cX5_swap 59 = .ok (.iastore, 1) := by decide +kernel
theorem dX5_swap_60 : decode cX5_swap 60 = .ok (.aload_n 0, 1) := by decide +kernel
theorem dX5_swap_61 : decode cX5_swap 61 = .ok (.getfield 7, 3) := by decide +kernel
theorem dX5_swap_64 : decode cX5_swap 64 = .ok (.bipush 91, 2) := by decide +kernel
theorem dX5_swap_66 : decode cX5_swap 66 = .ok (.iload_n 1, 1) := by decide +kernel
theorem dX5_swap_67 : decode cX5_swap 67 = .ok (.iadd, 1) := by decide +kernel
theorem dX5_swap_68 : decode cX5_swap 68 = .ok (.iaload, 1) := by decide +kernel
theorem dX5_swap_69 : decode cX5_swap 69 = .ok (.ireturn, 1) := by decide +kernel
set_option maxRecDepth 20000 in
theorem ggX5_reverse_X5_remember : GoodIn wsX5_reverse wsX5_remember := goodIn_r _ [6, 7, 8, 1, 9, 10, 11, 12, 13, 14, 15, 16, 17, 18, 19] (by decide +kernel) (by decide +kernel)
set_option maxRecDepth 20000 in
theorem gX5_reverse_X5_remember : GoodIn wsX5_reverse (wsV RX5 98 RX5 yX5_remember wsX5_remember) := goodIn_app (goodIn_of _ (by decide +kernel)) ggX5_reverse_X5_remember
theorem dX5_reverse_0 : decode cX5_reverse 0 = .ok (.aload_n 0, 1) := by decide +kernel
theorem dX5_reverse_1 : decode cX5_reverse 1 = .ok (.invokevirtual 98, 3) := by decide +kernel
theorem dX5_reverse_4 : decode cX5_reverse 4 = .ok (.aload_n 0, 1) := by decide +kernel
theorem dX5_reverse_5 : decode cX5_reverse 5 = .ok (.getfield 7, 3) := by decide +kernel
theorem dX5_reverse_8 : decode cX5_reverse 8 = .ok (.bipush 74, 2) := by decide +kernel
theorem dX5_reverse_10 : decode cX5_reverse 10 = .ok (.iaload, 1) := by decide +kernel
theorem dX5_reverse_11 : decode cX5_reverse 11 = .ok (.istore_n 1, 1) := by decide +kernel
theorem dX5_reverse_12 : decode cX5_reverse 12 = .ok (.iconst 0, 1) := by decide +kernel
theorem dX5_reverse_13 : decode cX5_reverse 13 = .ok (.istore_n 2, 1) := by decide +kernel
theorem dX5_reverse_14 : decode cX5_reverse 14 = .ok (.iload_n 2, 1) := by decide +kernel
theorem dX5_reverse_15 : decode cX5_reverse 15 = .ok (.iload_n 1, 1) := by decide +kernel
theorem dX5_reverse_16 : decode cX5_reverse 16 = .ok (.iconst 2, 1) := by decide +kernel
theorem dX5_reverse_17 : decode cX5_reverse 17 = .ok (.idiv, 1) := by decide +kernel
theorem dX5_reverse_18 : decode cX5_reverse 18 = .ok (.if_icmp .ge 55, 3) := by decide +kernel
theorem dX5_reverse_21 : decode cX5_reverse 21 = .ok (.aload_n 0, 1) := by decide +kernel
theorem dX5_reverse_22 : decode cX5_reverse 22 = .ok (.getfield 7, 3) := by decide +kernel
theorem dX5_reverse_25 : decode cX5_reverse 25 = .ok (.bipush 91, 2) := by decide +kernel
theorem dX5_reverse_27 : decode cX5_reverse 27 = .ok (.iload_n 2, 1) := by decide +kernel
theorem dX5_reverse_28 : decode cX5_reverse 28 = .ok (.iadd, 1) := by decide +kernel
theorem dX5_reverse_29 : decode cX5_reverse 29 = .ok (.iaload, 1) := by decide +kernel
theorem dX5_reverse_30 : decode cX5_reverse 30 = .ok (.istore_n 3, 1) := by decide +kernel
theorem dX5_reverse_31 : decode cX5_reverse 31 = .ok (.aload_n 0, 1) := by decide +kernel
theorem dX5_reverse_32 : decode cX5_reverse 32 = .ok (.getfield 7, 3) := by decide +kernel
theorem dX5_reverse_35 : decode cX5_reverse 35 = .ok (.bipush 91, 2) := by decide +kernel
theorem dX5_reverse_37 : decode cX5_reverse 37 = .ok (.iload_n 2, 1) := by decide +kernel
theorem dX5_reverse_38 : decode cX5_reverse 38 = .ok (.iadd, 1) := by decide +kernel
theorem dX5_reverse_39 : decode cX5_reverse 39 = .ok (.aload_n 0, 1) := by decide +kernel
theorem dX5_reverse_40 : decode cX5_reverse 40 = .ok (.getfield 7, 3) := by decide +kernel
theorem dX5_reverse_43 : decode cX5_reverse 43 = .ok (.bipush 91, 2) := by decide +kernel
theorem dX5_reverse_45 : decode cX5_reverse 45 = .ok (.iload_n 1, 1) := by decide +kernel
theorem dX5_reverse_46 : decode cX5_reverse 46 = .ok (.iadd, 1) := by decide +kernel
theorem dX5_reverse_47 : decode cX5_reverse 47 = .ok (.iconst 1, 1) := by decide +kernel
theorem dX5_reverse_48 : decode cX5_reverse 48 = .ok (.isub, 1) := by decide +kernel
theorem dX5_reverse_49 : decode cX5_reverse 49 = .ok (.iload_n 2, 1) := by decide +kernel
theorem dX5_reverse_50 : decode cX5_reverse 50 = .ok (.isub, 1) := by decide +kernel
theorem dX5_reverse_51 : decode cX5_reverse 51 = .ok (.iaload, 1) := by decide +kernel
theorem dX5_reverse_52 : decode cX5_reverse 52 = .ok (.iastore, 1) := by decide +kernel
theorem dX5_reverse_53 : decode cX5_reverse 53 = .ok (.aload_n 0, 1) := by decide +kernel
theorem dX5_reverse_54 : decode cX5_reverse 54 = .ok (.getfield 7, 3) := by decide +kernel
theorem dX5_reverse_57 : decode cX5_reverse 57 = .ok (.bipush 91, 2) := by decide +kernel
theorem dX5_reverse_59 : decode cX5_reverse 59 = .ok (.iload_n 1, 1) := by decide +kernel
theorem dX5_reverse_60 : decode cX5_reverse 60 = .ok (.iadd, 1) := by decide +kernel
theorem dX5_reverse_61 : decode cX5_reverse 61 = .ok (.iconst 1, 1) := by decide +kernel
theorem dX5_reverse_62 : decode cX5_reverse 62 = .ok (.isub, 1) := by decide +kernel
theorem dX5_reverse_63 : decode cX5_reverse 63 = .ok (.iload_n 2, 1) := by decide +kernel
theorem dX5_reverse_64 : decode cX5_reverse 64 = .ok (.isub, 1) := by decide +kernel
theorem dX5_reverse_65 : decode cX5_reverse 65 = .ok (.iload_n 3, 1) := by decide +kernel
theorem dX5_reverse_66 : decode cX5_reverse 66 = .ok (.iastore, 1) := by decide +kernel
theorem dX5_reverse_67 : decode cX5_reverse 67 = .ok (.iinc 2 1, 3) := by decide +kernel
theorem dX5_reverse_70 : decode cX5_reverse 70 = .ok (.goto (-56), 3) := by decide +kernel
theorem dX5_reverse_73 : decode cX5_reverse 73 = .ok (.aload_n 0, 1) := by decide +kernel
theorem dX5_reverse_74 : decode cX5_reverse 74 = .ok (.getfield 7, 3) := by decide +kernel
theorem dX5_reverse_77 : decode cX5_reverse 77 = .ok (.bipush 91, 2) := by decide +kernel
theorem dX5_reverse_79 : decode cX5_reverse 79 = .ok (.iaload, 1) := by decide +kernel
theorem dX5_reverse_80 : decode cX5_reverse 80 = .ok (.ireturn, 1) := by decide +kernel
theorem dX5_undo_0 : decode cX5_undo 0 = .ok (.aload_n 0, 1) := by decide +kernel
theorem dX5_undo_1 : decode cX5_undo 1 = .ok (.getfield 43, 3) := by decide +kernel
theorem dX5_undo_4 : decode cX5_undo 4 = .ok (.ifCond .ne 6, 3) := by decide +kernel
theorem dX5_undo_7 : decode cX5_undo 7 = .ok (.bipush (-2), 2) := by decide +kernel
theorem dX5_undo_9 : decode cX5_undo 9 = .ok (.ireturn, 1) := by decide +kernel
theorem dX5_undo_10 : decode cX5_undo 10 = .ok (.aload_n 0, 1) := by decide +kernel
theorem dX5_undo_11 : decode cX5_undo 11 = .ok (.dup, 1) := by decide +kernel
theorem dX5_undo_12 : decode cX5_undo 12 = .ok (.getfield 43, 3) := by decide +kernel
theorem dX5_undo_15 : decode cX5_undo 15 = .ok (.iconst 1, 1) := by decide +kernel
theorem dX5_undo_16 : decode cX5_undo 16 = .ok (.isub, 1) := by decide +kernel
theorem dX5_undo_17 : decode cX5_undo 17 = .ok (.putfield 43, 3) := by decide +kernel
theorem dX5_undo_20 : decode cX5_undo 20 = .ok (.iconst 0, 1) := by decide +kernel
theorem dX5_undo_21 : decode cX5_undo 21 = .ok (.istore_n 1, 1) := by decide +kernel
theorem dX5_undo_22 : decode cX5_undo 22 = .ok (.iload_n 1, 1) := by decide +kernel
theorem dX5_undo_23 : decode cX5_undo 23 = .ok (.bipush 107, 2) := by decide +kernel
theorem dX5_undo_25 : decode cX5_undo 25 = .ok (.if_icmp .ge 29, 3) := by decide +kernel
theorem dX5_undo_28 : decode cX5_undo 28 = .ok (.aload_n 0, 1) := by decide +kernel
theorem dX5_undo_29 : decode cX5_undo 29 = .ok (.getfield 7, 3) := by decide +kernel
theorem dX5_undo_32 : decode cX5_undo 32 = .ok (.iload_n 1, 1) := by decide +kernel
theorem dX5_undo_33 : decode cX5_undo 33 = .ok (.aload_n 0, 1) := by decide +kernel
theorem dX5_undo_34 : decode cX5_undo 34 = .ok (.getfield 13, 3) := by decide +kernel
theorem dX5_undo_37 : decode cX5_undo 37 = .ok (.bipush 107, 2) := by decide +kernel
theorem dX5_undo_39 : decode cX5_undo 39 = .ok (.aload_n 0, 1) := by decide +kernel
theorem dX5_undo_40 : decode cX5_undo 40 = .ok (.getfield 43, 3) := by decide +kernel
theorem dX5_undo_43 : decode cX5_undo 43 = .ok (.imul, 1) := by decide +kernel
theorem dX5_undo_44 : decode cX5_undo 44 = .ok (.iload_n 1, 1) := by decide +kernel
theorem dX5_undo_45 : decode cX5_undo 45 = .ok (.iadd, 1) := by decide +kernel
theorem dX5_undo_46 : decode cX5_undo 46 = .ok (.iaload, 1) := by decide +kernel
theorem dX5_undo_47 : decode cX5_undo 47 = .ok (.iastore, 1) := by decide +kernel
theorem dX5_undo_48 : decode cX5_undo 48 = .ok (.iinc 1 1, 3) := by decide +kernel
theorem dX5_undo_51 : decode cX5_undo 51 = .ok (.goto (-29), 3) := by decide +kernel
theorem dX5_undo_54 : decode cX5_undo 54 = .ok (.aload_n 0, 1) := by decide +kernel
theorem dX5_undo_55 : decode cX5_undo 55 = .ok (.getfield 43, 3) := by decide +kernel
theorem dX5_undo_58 : decode cX5_undo 58 = .ok (.ireturn, 1) := by decide +kernel
set_option maxRecDepth 20000 in
theorem ggX5_beyond_X5_isLaid : GoodIn wsX5_beyond wsX5_isLaid := goodIn_r _ [7, 1, 8, 9, 10, 6, 11, 12, 13, 14, 15, 2, 16, 17, 18, 19, 20, 21, 22, 23, 24, 25, 26, 27, 28, 29, 30, 31, 32, 33, 34, 35, 36, 37, 38, 39, 40, 41, 42, 43, 44, 45, 46, 47, 48, 49, 50, 51, 52, 53, 54, 55, 56, 57, 58, 59, 60, 61, 62, 63] (by decide +kernel) (by decide +kernel)
set_option maxRecDepth 20000 in
theorem gX5_beyond_X5_isLaid : GoodIn wsX5_beyond (wsV RX5 118 RX5 yX5_isLaid wsX5_isLaid) := goodIn_app (goodIn_of _ (by decide +kernel)) ggX5_beyond_X5_isLaid
set_option maxRecDepth 20000 in
theorem ggX5_beyond_X5_fits : GoodIn wsX5_beyond wsX5_fits := goodIn_r _ [26, 1, 27, 28, 29, 30, 6, 31, 32, 33, 34, 35, 53, 54, 55, 56, 57, 58, 59, 60, 61, 62, 63] (by decide +kernel) (by decide +kernel)
set_option maxRecDepth 20000 in
theorem gX5_beyond_X5_fits : GoodIn wsX5_beyond (wsV RX5 74 RX5 yX5_fits wsX5_fits) := goodIn_app (goodIn_of _ (by decide +kernel)) ggX5_beyond_X5_fits
theorem dX5_beyond_0 : decode cX5_beyond 0 = .ok (.aload_n 0, 1) := by decide +kernel
theorem dX5_beyond_1 : decode cX5_beyond 1 = .ok (.invokevirtual 118, 3) := by decide +kernel
theorem dX5_beyond_4 : decode cX5_beyond 4 = .ok (.ifCond .ne 6, 3) := by decide +kernel
theorem dX5_beyond_7 : decode cX5_beyond 7 = .ok (.bipush (-9), 2) := by decide +kernel
theorem dX5_beyond_9 : decode cX5_beyond 9 = .ok (.ireturn, 1) := by decide +kernel
theorem dX5_beyond_10 : decode cX5_beyond 10 = .ok (.iconst 0, 1) := by decide +kernel
theorem dX5_beyond_11 : decode cX5_beyond 11 = .ok (.istore_n 1, 1) := by decide +kernel
theorem dX5_beyond_12 : decode cX5_beyond 12 = .ok (.iconst 0, 1) := by decide +kernel
theorem dX5_beyond_13 : decode cX5_beyond 13 = .ok (.istore_n 2, 1) := by decide +kernel
theorem dX5_beyond_14 : decode cX5_beyond 14 = .ok (.iload_n 2, 1) := by decide +kernel
theorem dX5_beyond_15 : decode cX5_beyond 15 = .ok (.aload_n 0, 1) := by decide +kernel
theorem dX5_beyond_16 : decode cX5_beyond 16 = .ok (.getfield 7, 3) := by decide +kernel
theorem dX5_beyond_19 : decode cX5_beyond 19 = .ok (.bipush 74, 2) := by decide +kernel
theorem dX5_beyond_21 : decode cX5_beyond 21 = .ok (.iaload, 1) := by decide +kernel
theorem dX5_beyond_22 : decode cX5_beyond 22 = .ok (.if_icmp .ge 31, 3) := by decide +kernel
theorem dX5_beyond_25 : decode cX5_beyond 25 = .ok (.iload_n 1, 1) := by decide +kernel
theorem dX5_beyond_26 : decode cX5_beyond 26 = .ok (.aload_n 0, 1) := by decide +kernel
theorem dX5_beyond_27 : decode cX5_beyond 27 = .ok (.iload_n 2, 1) := by decide +kernel
theorem dX5_beyond_28 : decode cX5_beyond 28 = .ok (.aload_n 0, 1) := by decide +kernel
theorem dX5_beyond_29 : decode cX5_beyond 29 = .ok (.getfield 22, 3) := by decide +kernel
theorem dX5_beyond_32 : decode cX5_beyond 32 = .ok (.iload_n 2, 1) := by decide +kernel
theorem dX5_beyond_33 : decode cX5_beyond 33 = .ok (.iaload, 1) := by decide +kernel
theorem dX5_beyond_34 : decode cX5_beyond 34 = .ok (.invokevirtual 74, 3) := by decide +kernel
theorem dX5_beyond_37 : decode cX5_beyond 37 = .ok (.ifCond .eq 7, 3) := by decide +kernel
theorem dX5_beyond_40 : decode cX5_beyond 40 = .ok (.iconst 0, 1) := by decide +kernel
theorem dX5_beyond_41 : decode cX5_beyond 41 = .ok (.goto 4, 3) := by decide +kernel
theorem dX5_beyond_44 : decode cX5_beyond 44 = .ok (.iconst 1, 1) := by decide +kernel
theorem dX5_beyond_45 : decode cX5_beyond 45 = .ok (.iadd, 1) := by decide +kernel
theorem dX5_beyond_46 : decode cX5_beyond 46 = .ok (.istore_n 1, 1) := by decide +kernel
theorem dX5_beyond_47 : decode cX5_beyond 47 = .ok (.iinc 2 1, 3) := by decide +kernel
theorem dX5_beyond_50 : decode cX5_beyond 50 = .ok (.goto (-36), 3) := by decide +kernel
theorem dX5_beyond_53 : decode cX5_beyond 53 = .ok (.iload_n 1, 1) := by decide +kernel
theorem dX5_beyond_54 : decode cX5_beyond 54 = .ok (.ireturn, 1) := by decide +kernel
set_option maxRecDepth 20000 in
theorem ggX5_fades_X5_isLaid : GoodIn wsX5_fades wsX5_isLaid := goodIn_r _ [6, 1, 7, 8, 9, 5, 10, 11, 12, 13, 14, 15, 16, 17, 18, 19, 20, 21, 22, 23, 24, 25, 26, 27, 28, 29, 30, 31, 32, 33, 34, 35, 36, 37, 38, 39, 40, 41, 42, 43, 44, 45, 46, 47, 48, 49, 50, 51, 52, 61, 62, 63, 64, 65, 66, 67, 68, 69, 70, 71] (by decide +kernel) (by decide +kernel)
set_option maxRecDepth 20000 in
theorem gX5_fades_X5_isLaid : GoodIn wsX5_fades (wsV RX5 118 RX5 yX5_isLaid wsX5_isLaid) := goodIn_app (goodIn_of _ (by decide +kernel)) ggX5_fades_X5_isLaid
set_option maxRecDepth 20000 in
theorem ggX5_fades_X5_fadeOf : GoodIn wsX5_fades wsX5_fadeOf := goodIn_r _ [56, 1, 15, 57, 58, 59, 5, 60, 61, 62, 63, 64, 65, 66, 67, 68, 69, 70, 71] (by decide +kernel) (by decide +kernel)
set_option maxRecDepth 20000 in
theorem gX5_fades_X5_fadeOf : GoodIn wsX5_fades (wsV RX5 122 RX5 yX5_fadeOf wsX5_fadeOf) := goodIn_app (goodIn_of _ (by decide +kernel)) ggX5_fades_X5_fadeOf
theorem dX5_fades_0 : decode cX5_fades 0 = .ok (.aload_n 0, 1) := by decide +kernel
theorem dX5_fades_1 : decode cX5_fades 1 = .ok (.invokevirtual 118, 3) := by decide +kernel
theorem dX5_fades_4 : decode cX5_fades 4 = .ok (.ifCond .ne 6, 3) := by decide +kernel
theorem dX5_fades_7 : decode cX5_fades 7 = .ok (.bipush (-9), 2) := by decide +kernel
theorem dX5_fades_9 : decode cX5_fades 9 = .ok (.ireturn, 1) := by decide +kernel
theorem dX5_fades_10 : decode cX5_fades 10 = .ok (.iconst 0, 1) := by decide +kernel
theorem dX5_fades_11 : decode cX5_fades 11 = .ok (.istore_n 1, 1) := by decide +kernel
theorem dX5_fades_12 : decode cX5_fades 12 = .ok (.iconst 0, 1) := by decide +kernel
theorem dX5_fades_13 : decode cX5_fades 13 = .ok (.istore_n 2, 1) := by decide +kernel
theorem dX5_fades_14 : decode cX5_fades 14 = .ok (.iload_n 2, 1) := by decide +kernel
theorem dX5_fades_15 : decode cX5_fades 15 = .ok (.aload_n 0, 1) := by decide +kernel
theorem dX5_fades_16 : decode cX5_fades 16 = .ok (.getfield 7, 3) := by decide +kernel
theorem dX5_fades_19 : decode cX5_fades 19 = .ok (.bipush 74, 2) := by decide +kernel
theorem dX5_fades_21 : decode cX5_fades 21 = .ok (.iaload, 1) := by decide +kernel
theorem dX5_fades_22 : decode cX5_fades 22 = .ok (.if_icmp .ge 17, 3) := by decide +kernel
theorem dX5_fades_25 : decode cX5_fades 25 = .ok (.iload_n 1, 1) := by decide +kernel
theorem dX5_fades_26 : decode cX5_fades 26 = .ok (.aload_n 0, 1) := by decide +kernel
theorem dX5_fades_27 : decode cX5_fades 27 = .ok (.iload_n 2, 1) := by decide +kernel
theorem dX5_fades_28 : decode cX5_fades 28 = .ok (.invokevirtual 122, 3) := by decide +kernel
theorem dX5_fades_31 : decode cX5_fades 31 = .ok (.iadd, 1) := by decide +kernel
theorem dX5_fades_32 : decode cX5_fades 32 = .ok (.istore_n 1, 1) := by decide +kernel
theorem dX5_fades_33 : decode cX5_fades 33 = .ok (.iinc 2 1, 3) := by decide +kernel
theorem dX5_fades_36 : decode cX5_fades 36 = .ok (.goto (-22), 3) := by decide +kernel
theorem dX5_fades_39 : decode cX5_fades 39 = .ok (.iload_n 1, 1) := by decide +kernel
theorem dX5_fades_40 : decode cX5_fades 40 = .ok (.ireturn, 1) := by decide +kernel
set_option maxRecDepth 20000 in
theorem ggX5_told_X5_whole : GoodIn wsX5_told wsX5_whole := goodIn_r _ [7, 1, 70, 71, 72, 73, 74, 75, 76, 77, 78, 79, 80] (by decide +kernel) (by decide +kernel)
set_option maxRecDepth 20000 in
theorem gX5_told_X5_whole : GoodIn wsX5_told (wsV RX5 58 RX5 yX5_whole wsX5_whole) := goodIn_app (goodIn_of _ (by decide +kernel)) ggX5_told_X5_whole
set_option maxRecDepth 20000 in
theorem ggX5_told_X5_isLaid : GoodIn wsX5_told wsX5_isLaid := goodIn_r _ [11, 1, 12, 13, 14, 6, 15, 16, 17, 18, 19, 20, 21, 22, 23, 24, 25, 26, 27, 28, 29, 30, 31, 32, 33, 34, 35, 36, 37, 38, 39, 40, 41, 42, 43, 44, 45, 46, 47, 48, 49, 3, 4, 5, 7, 50, 51, 52, 53, 70, 71, 72, 73, 74, 75, 76, 77, 78, 79, 80] (by decide +kernel) (by decide +kernel)
set_option maxRecDepth 20000 in
theorem gX5_told_X5_isLaid : GoodIn wsX5_told (wsV RX5 118 RX5 yX5_isLaid wsX5_isLaid) := goodIn_app (goodIn_of _ (by decide +kernel)) ggX5_told_X5_isLaid
set_option maxRecDepth 20000 in
theorem ggX5_told_X5_beyond : GoodIn wsX5_told wsX5_beyond := goodIn_r _ [57, 1, 20, 8, 9, 10, 6, 11, 12, 13, 14, 15, 16, 17, 18, 19, 21, 22, 23, 24, 25, 26, 27, 28, 29, 30, 31, 32, 33, 34, 35, 36, 37, 38, 39, 40, 41, 42, 43, 44, 45, 46, 47, 48, 49, 3, 4, 5, 7, 50, 51, 52, 53, 70, 71, 72, 73, 74, 75, 76, 77, 78, 79, 80] (by decide +kernel) (by decide +kernel)
set_option maxRecDepth 20000 in
theorem gX5_told_X5_beyond : GoodIn wsX5_told (wsV RX5 125 RX5 yX5_beyond wsX5_beyond) := goodIn_app (goodIn_of _ (by decide +kernel)) ggX5_told_X5_beyond
set_option maxRecDepth 20000 in
theorem ggX5_told_X5_fades : GoodIn wsX5_told wsX5_fades := goodIn_r _ [61, 1, 8, 9, 10, 6, 11, 12, 13, 14, 15, 16, 17, 18, 19, 20, 21, 22, 23, 24, 25, 26, 27, 28, 29, 30, 31, 32, 33, 34, 35, 36, 37, 38, 39, 40, 41, 42, 43, 44, 45, 46, 47, 48, 49, 3, 4, 5, 7, 50, 51, 52, 53, 62, 63, 64, 65, 66, 67, 68, 69, 70, 71, 72, 73, 74, 75, 76, 77, 78, 79, 80] (by decide +kernel) (by decide +kernel)
set_option maxRecDepth 20000 in
theorem gX5_told_X5_fades : GoodIn wsX5_told (wsV RX5 128 RX5 yX5_fades wsX5_fades) := goodIn_app (goodIn_of _ (by decide +kernel)) ggX5_told_X5_fades
theorem dX5_told_0 : decode cX5_told 0 = .ok (.iload_n 1, 1) := by decide +kernel
theorem dX5_told_1 : decode cX5_told 1 = .ok (.tableswitch 91 0 6 #[43, 50, 55, 63, 76, 81, 86], 43) := by decide +kernel
theorem dX5_told_44 : decode cX5_told 44 = .ok (.aload_n 0, 1) := by decide +kernel
theorem dX5_told_45 : decode cX5_told 45 = .ok (.getfield 7, 3) := by decide +kernel
theorem dX5_told_48 : decode cX5_told 48 = .ok (.iconst 0, 1) := by decide +kernel
theorem dX5_told_49 : decode cX5_told 49 = .ok (.iaload, 1) := by decide +kernel
theorem dX5_told_50 : decode cX5_told 50 = .ok (.ireturn, 1) := by decide +kernel
theorem dX5_told_51 : decode cX5_told 51 = .ok (.aload_n 0, 1) := by decide +kernel
theorem dX5_told_52 : decode cX5_told 52 = .ok (.invokevirtual 58, 3) := by decide +kernel
theorem dX5_told_55 : decode cX5_told 55 = .ok (.ireturn, 1) := by decide +kernel
theorem dX5_told_56 : decode cX5_told 56 = .ok (.aload_n 0, 1) := by decide +kernel
theorem dX5_told_57 : decode cX5_told 57 = .ok (.getfield 7, 3) := by decide +kernel
theorem dX5_told_60 : decode cX5_told 60 = .ok (.bipush 74, 2) := by decide +kernel
theorem dX5_told_62 : decode cX5_told 62 = .ok (.iaload, 1) := by decide +kernel
theorem dX5_told_63 : decode cX5_told 63 = .ok (.ireturn, 1) := by decide +kernel
theorem dX5_told_64 : decode cX5_told 64 = .ok (.aload_n 0, 1) := by decide +kernel
theorem dX5_told_65 : decode cX5_told 65 = .ok (.invokevirtual 118, 3) := by decide +kernel
theorem dX5_told_68 : decode cX5_told 68 = .ok (.ifCond .eq 7, 3) := by decide +kernel
theorem dX5_told_71 : decode cX5_told 71 = .ok (.iconst 1, 1) := by decide +kernel
theorem dX5_told_72 : decode cX5_told 72 = .ok (.goto 4, 3) := by decide +kernel
theorem dX5_told_75 : decode cX5_told 75 = .ok (.iconst 0, 1) := by decide +kernel
theorem dX5_told_76 : decode cX5_told 76 = .ok (.ireturn, 1) := by decide +kernel
theorem dX5_told_77 : decode cX5_told 77 = .ok (.aload_n 0, 1) := by decide +kernel
theorem dX5_told_78 : decode cX5_told 78 = .ok (.invokevirtual 125, 3) := by decide +kernel
theorem dX5_told_81 : decode cX5_told 81 = .ok (.ireturn, 1) := by decide +kernel
theorem dX5_told_82 : decode cX5_told 82 = .ok (.aload_n 0, 1) := by decide +kernel
theorem dX5_told_83 : decode cX5_told 83 = .ok (.invokevirtual 128, 3) := by decide +kernel
theorem dX5_told_86 : decode cX5_told 86 = .ok (.ireturn, 1) := by decide +kernel
theorem dX5_told_87 : decode cX5_told 87 = .ok (.aload_n 0, 1) := by decide +kernel
theorem dX5_told_88 : decode cX5_told 88 = .ok (.getfield 43, 3) := by decide +kernel
theorem dX5_told_91 : decode cX5_told 91 = .ok (.ireturn, 1) := by decide +kernel
theorem dX5_told_92 : decode cX5_told 92 = .ok (.iconst (-1), 1) := by decide +kernel
theorem dX5_told_93 : decode cX5_told 93 = .ok (.ireturn, 1) := by decide +kernel
set_option maxRecDepth 20000 in
theorem ggX5_setting_X5_isIn : GoodIn wsX5_setting wsX5_isIn := goodIn_r _ [5] (by decide +kernel) (by decide +kernel)
set_option maxRecDepth 20000 in
theorem gX5_setting_X5_isIn : GoodIn wsX5_setting (va_wsS RX5 47 yX5_isIn wsX5_isIn) := goodIn_app (goodIn_of _ (by decide +kernel)) ggX5_setting_X5_isIn
theorem dX5_setting_0 : decode cX5_setting 0 = .ok (.iload_n 1, 1) := by decide +kernel
theorem dX5_setting_1 : decode cX5_setting 1 = .ok (.iconst 0, 1) := by decide +kernel
theorem dX5_setting_2 : decode cX5_setting 2 = .ok (.bipush 8, 2) := by decide +kernel
theorem dX5_setting_4 : decode cX5_setting 4 = .ok (.invokestatic 47, 3) := by decide +kernel
theorem dX5_setting_7 : decode cX5_setting 7 = .ok (.ifCond .eq 14, 3) := by decide +kernel
theorem dX5_setting_10 : decode cX5_setting 10 = .ok (.aload_n 0, 1) := by decide +kernel
theorem dX5_setting_11 : decode cX5_setting 11 = .ok (.getfield 7, 3) := by decide +kernel
theorem dX5_setting_14 : decode cX5_setting 14 = .ok (.iconst 1, 1) := by decide +kernel
theorem dX5_setting_15 : decode cX5_setting 15 = .ok (.iload_n 1, 1) := by decide +kernel
theorem dX5_setting_16 : decode cX5_setting 16 = .ok (.iadd, 1) := by decide +kernel
theorem dX5_setting_17 : decode cX5_setting 17 = .ok (.iaload, 1) := by decide +kernel
theorem dX5_setting_18 : decode cX5_setting 18 = .ok (.goto 4, 3) := by decide +kernel
theorem dX5_setting_21 : decode cX5_setting 21 = .ok (.iconst (-1), 1) := by decide +kernel
theorem dX5_setting_22 : decode cX5_setting 22 = .ok (.ireturn, 1) := by decide +kernel
set_option maxRecDepth 20000 in
theorem ggX5_energy_X5_isFrame : GoodIn wsX5_energy wsX5_isFrame := goodIn_r _ [6, 1, 7, 8, 5, 9, 10, 11, 12, 13, 14, 15, 16, 17, 18, 19, 20] (by decide +kernel) (by decide +kernel)
set_option maxRecDepth 20000 in
theorem gX5_energy_X5_isFrame : GoodIn wsX5_energy (wsV RX5 101 RX5 yX5_isFrame wsX5_isFrame) := goodIn_app (goodIn_of _ (by decide +kernel)) ggX5_energy_X5_isFrame
theorem dX5_energy_0 : decode cX5_energy 0 = .ok (.aload_n 0, 1) := by decide +kernel
theorem dX5_energy_1 : decode cX5_energy 1 = .ok (.iload_n 1, 1) := by decide +kernel
theorem dX5_energy_2 : decode cX5_energy 2 = .ok (.invokevirtual 101, 3) := by decide +kernel
theorem dX5_energy_5 : decode cX5_energy 5 = .ok (.ifCond .eq 15, 3) := by decide +kernel
theorem dX5_energy_8 : decode cX5_energy 8 = .ok (.aload_n 0, 1) := by decide +kernel
theorem dX5_energy_9 : decode cX5_energy 9 = .ok (.getfield 7, 3) := by decide +kernel
theorem dX5_energy_12 : decode cX5_energy 12 = .ok (.bipush 10, 2) := by decide +kernel
theorem dX5_energy_14 : decode cX5_energy 14 = .ok (.iload_n 1, 1) := by decide +kernel
theorem dX5_energy_15 : decode cX5_energy 15 = .ok (.iadd, 1) := by decide +kernel
theorem dX5_energy_16 : decode cX5_energy 16 = .ok (.iaload, 1) := by decide +kernel
theorem dX5_energy_17 : decode cX5_energy 17 = .ok (.goto 4, 3) := by decide +kernel
theorem dX5_energy_20 : decode cX5_energy 20 = .ok (.iconst (-1), 1) := by decide +kernel
theorem dX5_energy_21 : decode cX5_energy 21 = .ok (.ireturn, 1) := by decide +kernel
set_option maxRecDepth 20000 in
theorem ggX5_loudest_X5_frameOf : GoodIn wsX5_loudest wsX5_frameOf := goodIn_r _ [6, 1, 7, 8, 9, 10, 11, 12, 13, 14, 15, 16, 17] (by decide +kernel) (by decide +kernel)
set_option maxRecDepth 20000 in
theorem gX5_loudest_X5_frameOf : GoodIn wsX5_loudest (wsV RX5 51 RX5 yX5_frameOf wsX5_frameOf) := goodIn_app (goodIn_of _ (by decide +kernel)) ggX5_loudest_X5_frameOf
theorem dX5_loudest_0 : decode cX5_loudest 0 = .ok (.aload_n 0, 1) := by decide +kernel
theorem dX5_loudest_1 : decode cX5_loudest 1 = .ok (.iload_n 1, 1) := by decide +kernel
theorem dX5_loudest_2 : decode cX5_loudest 2 = .ok (.invokevirtual 51, 3) := by decide +kernel
theorem dX5_loudest_5 : decode cX5_loudest 5 = .ok (.istore_n 2, 1) := by decide +kernel
theorem dX5_loudest_6 : decode cX5_loudest 6 = .ok (.iload_n 2, 1) := by decide +kernel
theorem dX5_loudest_7 : decode cX5_loudest 7 = .ok (.iconst 1, 1) := by decide +kernel
theorem dX5_loudest_8 : decode cX5_loudest 8 = .ok (.iadd, 1) := by decide +kernel
theorem dX5_loudest_9 : decode cX5_loudest 9 = .ok (.istore_n 3, 1) := by decide +kernel
theorem dX5_loudest_10 : decode cX5_loudest 10 = .ok (.iload_n 3, 1) := by decide +kernel
theorem dX5_loudest_11 : decode cX5_loudest 11 = .ok (.aload_n 0, 1) := by decide +kernel
theorem dX5_loudest_12 : decode cX5_loudest 12 = .ok (.iload_n 1, 1) := by decide +kernel
theorem dX5_loudest_13 : decode cX5_loudest 13 = .ok (.iconst 1, 1) := by decide +kernel
theorem dX5_loudest_14 : decode cX5_loudest 14 = .ok (.iadd, 1) := by decide +kernel
theorem dX5_loudest_15 : decode cX5_loudest 15 = .ok (.invokevirtual 51, 3) := by decide +kernel
theorem dX5_loudest_18 : decode cX5_loudest 18 = .ok (.if_icmp .ge 36, 3) := by decide +kernel
theorem dX5_loudest_21 : decode cX5_loudest 21 = .ok (.aload_n 0, 1) := by decide +kernel
theorem dX5_loudest_22 : decode cX5_loudest 22 = .ok (.getfield 7, 3) := by decide +kernel
theorem dX5_loudest_25 : decode cX5_loudest 25 = .ok (.bipush 10, 2) := by decide +kernel
theorem dX5_loudest_27 : decode cX5_loudest 27 = .ok (.iload_n 3, 1) := by decide +kernel
theorem dX5_loudest_28 : decode cX5_loudest 28 = .ok (.iadd, 1) := by decide +kernel
theorem dX5_loudest_29 : decode cX5_loudest 29 = .ok (.iaload, 1) := by decide +kernel
theorem dX5_loudest_30 : decode cX5_loudest 30 = .ok (.aload_n 0, 1) := by decide +kernel
theorem dX5_loudest_31 : decode cX5_loudest 31 = .ok (.getfield 7, 3) := by decide +kernel
theorem dX5_loudest_34 : decode cX5_loudest 34 = .ok (.bipush 10, 2) := by decide +kernel
theorem dX5_loudest_36 : decode cX5_loudest 36 = .ok (.iload_n 2, 1) := by decide +kernel
theorem dX5_loudest_37 : decode cX5_loudest 37 = .ok (.iadd, 1) := by decide +kernel
theorem dX5_loudest_38 : decode cX5_loudest 38 = .ok (.iaload, 1) := by decide +kernel
theorem dX5_loudest_39 : decode cX5_loudest 39 = .ok (.if_icmp .le 7, 3) := by decide +kernel
theorem dX5_loudest_42 : decode cX5_loudest 42 = .ok (.iload_n 3, 1) := by decide +kernel
theorem dX5_loudest_43 : decode cX5_loudest 43 = .ok (.goto 4, 3) := by decide +kernel
theorem dX5_loudest_46 : decode cX5_loudest 46 = .ok (.iload_n 2, 1) := by decide +kernel
theorem dX5_loudest_47 : decode cX5_loudest 47 = .ok (.istore_n 2, 1) := by decide +kernel
theorem dX5_loudest_48 : decode cX5_loudest 48 = .ok (.iinc 3 1, 3) := by decide +kernel
theorem dX5_loudest_51 : decode cX5_loudest 51 = .ok (.goto (-41), 3) := by decide +kernel
theorem dX5_loudest_54 : decode cX5_loudest 54 = .ok (.iload_n 2, 1) := by decide +kernel
theorem dX5_loudest_55 : decode cX5_loudest 55 = .ok (.ireturn, 1) := by decide +kernel
theorem dX5_beginOf_0 : decode cX5_beginOf 0 = .ok (.iconst 0, 1) := by decide +kernel
theorem dX5_beginOf_1 : decode cX5_beginOf 1 = .ok (.istore_n 2, 1) := by decide +kernel
theorem dX5_beginOf_2 : decode cX5_beginOf 2 = .ok (.iconst 0, 1) := by decide +kernel
theorem dX5_beginOf_3 : decode cX5_beginOf 3 = .ok (.istore_n 3, 1) := by decide +kernel
theorem dX5_beginOf_4 : decode cX5_beginOf 4 = .ok (.aload_n 0, 1) := by decide +kernel
theorem dX5_beginOf_5 : decode cX5_beginOf 5 = .ok (.getfield 7, 3) := by decide +kernel
theorem dX5_beginOf_8 : decode cX5_beginOf 8 = .ok (.bipush 91, 2) := by decide +kernel
theorem dX5_beginOf_10 : decode cX5_beginOf 10 = .ok (.iload_n 3, 1) := by decide +kernel
theorem dX5_beginOf_11 : decode cX5_beginOf 11 = .ok (.iadd, 1) := by decide +kernel
theorem dX5_beginOf_12 : decode cX5_beginOf 12 = .ok (.iaload, 1) := by decide +kernel
theorem dX5_beginOf_13 : decode cX5_beginOf 13 = .ok (.iload_n 1, 1) := by decide +kernel
theorem dX5_beginOf_14 : decode cX5_beginOf 14 = .ok (.if_icmp .eq 26, 3) := by decide +kernel
theorem dX5_beginOf_17 : decode cX5_beginOf 17 = .ok (.iload_n 2, 1) := by decide +kernel
theorem dX5_beginOf_18 : decode cX5_beginOf 18 = .ok (.aload_n 0, 1) := by decide +kernel
theorem dX5_beginOf_19 : decode cX5_beginOf 19 = .ok (.getfield 22, 3) := by decide +kernel
theorem dX5_beginOf_22 : decode cX5_beginOf 22 = .ok (.aload_n 0, 1) := by decide +kernel
theorem dX5_beginOf_23 : decode cX5_beginOf 23 = .ok (.getfield 7, 3) := by decide +kernel
theorem dX5_beginOf_26 : decode cX5_beginOf 26 = .ok (.bipush 91, 2) := by decide +kernel
theorem dX5_beginOf_28 : decode cX5_beginOf 28 = .ok (.iload_n 3, 1) := by decide +kernel
theorem dX5_beginOf_29 : decode cX5_beginOf 29 = .ok (.iadd, 1) := by decide +kernel
theorem dX5_beginOf_30 : decode cX5_beginOf 30 = .ok (.iaload, 1) := by decide +kernel
theorem dX5_beginOf_31 : decode cX5_beginOf 31 = .ok (.iaload, 1) := by decide +kernel
theorem dX5_beginOf_32 : decode cX5_beginOf 32 = .ok (.iadd, 1) := by decide +kernel
theorem dX5_beginOf_33 : decode cX5_beginOf 33 = .ok (.istore_n 2, 1) := by decide +kernel
theorem dX5_beginOf_34 : decode cX5_beginOf 34 = .ok (.iinc 3 1, 3) := by decide +kernel
theorem dX5_beginOf_37 : decode cX5_beginOf 37 = .ok (.goto (-33), 3) := by decide +kernel
theorem dX5_beginOf_40 : decode cX5_beginOf 40 = .ok (.iload_n 2, 1) := by decide +kernel
theorem dX5_beginOf_41 : decode cX5_beginOf 41 = .ok (.ireturn, 1) := by decide +kernel
set_option maxRecDepth 20000 in
theorem ggX5_slice_X5_isSlice : GoodIn wsX5_slice wsX5_isSlice := goodIn_r _ [8, 2, 9, 10, 7, 11, 76, 77, 78, 79, 80, 81, 82, 83, 84, 85, 86] (by decide +kernel) (by decide +kernel)
set_option maxRecDepth 20000 in
theorem gX5_slice_X5_isSlice : GoodIn wsX5_slice (wsV RX5 115 RX5 yX5_isSlice wsX5_isSlice) := goodIn_app (goodIn_of _ (by decide +kernel)) ggX5_slice_X5_isSlice
set_option maxRecDepth 20000 in
theorem ggX5_slice_X5_isIn : GoodIn wsX5_slice wsX5_isIn := goodIn_r _ [11] (by decide +kernel) (by decide +kernel)
set_option maxRecDepth 20000 in
theorem gX5_slice_X5_isIn : GoodIn wsX5_slice (va_wsS RX5 47 yX5_isIn wsX5_isIn) := goodIn_app (goodIn_of _ (by decide +kernel)) ggX5_slice_X5_isIn
set_option maxRecDepth 20000 in
theorem ggX5_slice_X5_frameOf : GoodIn wsX5_slice wsX5_frameOf := goodIn_r _ [15, 2, 76, 77, 78, 79, 80, 81, 82, 83, 84, 85, 86] (by decide +kernel) (by decide +kernel)
set_option maxRecDepth 20000 in
theorem gX5_slice_X5_frameOf : GoodIn wsX5_slice (wsV RX5 51 RX5 yX5_frameOf wsX5_frameOf) := goodIn_app (goodIn_of _ (by decide +kernel)) ggX5_slice_X5_frameOf
set_option maxRecDepth 20000 in
theorem ggX5_slice_X5_lengthOf : GoodIn wsX5_slice wsX5_lengthOf := goodIn_r _ [19, 2, 12, 13, 14, 7, 15, 76, 77, 78, 79, 80, 81, 82, 83, 84, 85, 86] (by decide +kernel) (by decide +kernel)
set_option maxRecDepth 20000 in
theorem gX5_slice_X5_lengthOf : GoodIn wsX5_slice (wsV RX5 55 RX5 yX5_lengthOf wsX5_lengthOf) := goodIn_app (goodIn_of _ (by decide +kernel)) ggX5_slice_X5_lengthOf
set_option maxRecDepth 20000 in
theorem ggX5_slice_X5_placeOf : GoodIn wsX5_slice wsX5_placeOf := goodIn_r _ [23, 2, 76, 77, 78, 79, 80, 81, 82, 83, 84, 85, 86] (by decide +kernel) (by decide +kernel)
set_option maxRecDepth 20000 in
theorem gX5_slice_X5_placeOf : GoodIn wsX5_slice (wsV RX5 95 RX5 yX5_placeOf wsX5_placeOf) := goodIn_app (goodIn_of _ (by decide +kernel)) ggX5_slice_X5_placeOf
set_option maxRecDepth 20000 in
theorem ggX5_slice_X5_loudest : GoodIn wsX5_slice wsX5_loudest := goodIn_r _ [27, 2, 12, 13, 14, 7, 15, 76, 77, 78, 79, 80, 81, 82, 83, 84, 85, 86] (by decide +kernel) (by decide +kernel)
set_option maxRecDepth 20000 in
theorem gX5_slice_X5_loudest : GoodIn wsX5_slice (wsV RX5 131 RX5 yX5_loudest wsX5_loudest) := goodIn_app (goodIn_of _ (by decide +kernel)) ggX5_slice_X5_loudest
set_option maxRecDepth 20000 in
theorem ggX5_slice_X5_isLaid : GoodIn wsX5_slice wsX5_isLaid := goodIn_r _ [31, 2, 32, 33, 34, 7, 35, 36, 37, 38, 3, 1, 39, 40, 41, 42, 43, 44, 45, 46, 47, 48, 49, 50, 16, 17, 18, 19, 12, 13, 14, 15, 51, 52, 53, 54, 55, 56, 57, 58, 59, 60, 61, 62, 63, 64, 65, 66, 67, 76, 77, 78, 79, 80, 81, 82, 83, 84, 85, 86] (by decide +kernel) (by decide +kernel)
set_option maxRecDepth 20000 in
theorem gX5_slice_X5_isLaid : GoodIn wsX5_slice (wsV RX5 118 RX5 yX5_isLaid wsX5_isLaid) := goodIn_app (goodIn_of _ (by decide +kernel)) ggX5_slice_X5_isLaid
set_option maxRecDepth 20000 in
theorem ggX5_slice_X5_beginOf : GoodIn wsX5_slice wsX5_beginOf := goodIn_r _ [71, 2, 1, 76, 77, 78, 79, 80, 81, 82, 83, 84, 85, 86] (by decide +kernel) (by decide +kernel)
set_option maxRecDepth 20000 in
theorem gX5_slice_X5_beginOf : GoodIn wsX5_slice (wsV RX5 134 RX5 yX5_beginOf wsX5_beginOf) := goodIn_app (goodIn_of _ (by decide +kernel)) ggX5_slice_X5_beginOf
set_option maxRecDepth 20000 in
theorem ggX5_slice_X5_fadeOf : GoodIn wsX5_slice wsX5_fadeOf := goodIn_r _ [75, 2, 1, 20, 21, 22, 7, 23, 76, 77, 78, 79, 80, 81, 82, 83, 84, 85, 86] (by decide +kernel) (by decide +kernel)
set_option maxRecDepth 20000 in
theorem gX5_slice_X5_fadeOf : GoodIn wsX5_slice (wsV RX5 122 RX5 yX5_fadeOf wsX5_fadeOf) := goodIn_app (goodIn_of _ (by decide +kernel)) ggX5_slice_X5_fadeOf
theorem dX5_slice_0 : decode cX5_slice 0 = .ok (.aload_n 0, 1) := by decide +kernel
theorem dX5_slice_1 : decode cX5_slice 1 = .ok (.iload_n 1, 1) := by decide +kernel
theorem dX5_slice_2 : decode cX5_slice 2 = .ok (.invokevirtual 115, 3) := by decide +kernel
theorem dX5_slice_5 : decode cX5_slice 5 = .ok (.ifCond .eq 13, 3) := by decide +kernel
theorem dX5_slice_8 : decode cX5_slice 8 = .ok (.iload_n 2, 1) := by decide +kernel
theorem dX5_slice_9 : decode cX5_slice 9 = .ok (.iconst 0, 1) := by decide +kernel
theorem dX5_slice_10 : decode cX5_slice 10 = .ok (.bipush 7, 2) := by decide +kernel
theorem dX5_slice_12 : decode cX5_slice 12 = .ok (.invokestatic 47, 3) := by decide +kernel
theorem dX5_slice_15 : decode cX5_slice 15 = .ok (.ifCond .ne 5, 3) := by decide +kernel
theorem dX5_slice_18 : decode cX5_slice 18 = .ok (.iconst (-1), 1) := by decide +kernel
theorem dX5_slice_19 : decode cX5_slice 19 = .ok (.ireturn, 1) := by decide +kernel
theorem dX5_slice_20 : decode cX5_slice 20 = .ok (.iload_n 2, 1) := by decide +kernel
theorem dX5_slice_21 : decode cX5_slice 21 = .ok (.tableswitch 71 0 7 #[47, 53, 71, 71, 71, 59, 71, 65], 47) := by decide +kernel
theorem dX5_slice_68 : decode cX5_slice 68 = .ok (.aload_n 0, 1) := by decide +kernel
theorem dX5_slice_69 : decode cX5_slice 69 = .ok (.iload_n 1, 1) := by decide +kernel
theorem dX5_slice_70 : decode cX5_slice 70 = .ok (.invokevirtual 51, 3) := by decide +kernel
theorem dX5_slice_73 : decode cX5_slice 73 = .ok (.ireturn, 1) := by decide +kernel
theorem dX5_slice_74 : decode cX5_slice 74 = .ok (.aload_n 0, 1) := by decide +kernel
theorem dX5_slice_75 : decode cX5_slice 75 = .ok (.iload_n 1, 1) := by decide +kernel
theorem dX5_slice_76 : decode cX5_slice 76 = .ok (.invokevirtual 55, 3) := by decide +kernel
theorem dX5_slice_79 : decode cX5_slice 79 = .ok (.ireturn, 1) := by decide +kernel
theorem dX5_slice_80 : decode cX5_slice 80 = .ok (.aload_n 0, 1) := by decide +kernel
theorem dX5_slice_81 : decode cX5_slice 81 = .ok (.iload_n 1, 1) := by decide +kernel
theorem dX5_slice_82 : decode cX5_slice 82 = .ok (.invokevirtual 95, 3) := by decide +kernel
theorem dX5_slice_85 : decode cX5_slice 85 = .ok (.ireturn, 1) := by decide +kernel
theorem dX5_slice_86 : decode cX5_slice 86 = .ok (.aload_n 0, 1) := by decide +kernel
theorem dX5_slice_87 : decode cX5_slice 87 = .ok (.iload_n 1, 1) := by decide +kernel
theorem dX5_slice_88 : decode cX5_slice 88 = .ok (.invokevirtual 131, 3) := by decide +kernel
theorem dX5_slice_91 : decode cX5_slice 91 = .ok (.ireturn, 1) := by decide +kernel
theorem dX5_slice_92 : decode cX5_slice 92 = .ok (.aload_n 0, 1) := by decide +kernel
theorem dX5_slice_93 : decode cX5_slice 93 = .ok (.invokevirtual 118, 3) := by decide +kernel
theorem dX5_slice_96 : decode cX5_slice 96 = .ok (.ifCond .ne 6, 3) := by decide +kernel
theorem dX5_slice_99 : decode cX5_slice 99 = .ok (.bipush (-9), 2) := by decide +kernel
theorem dX5_slice_101 : decode cX5_slice 101 = .ok (.ireturn, 1) := by decide +kernel
theorem dX5_slice_102 : decode cX5_slice 102 = .ok (.iload_n 2, 1) := by decide +kernel
theorem dX5_slice_103 : decode cX5_slice 103 = .ok (.tableswitch 60 2 4 #[25, 32, 54], 25) := by decide +kernel
theorem dX5_slice_128 : decode cX5_slice 128 = .ok (.aload_n 0, 1) := by decide +kernel
theorem dX5_slice_129 : decode cX5_slice 129 = .ok (.getfield 22, 3) := by decide +kernel
theorem dX5_slice_132 : decode cX5_slice 132 = .ok (.iload_n 1, 1) := by decide +kernel
theorem dX5_slice_133 : decode cX5_slice 133 = .ok (.iaload, 1) := by decide +kernel
theorem dX5_slice_134 : decode cX5_slice 134 = .ok (.ireturn, 1) := by decide +kernel
theorem dX5_slice_135 : decode cX5_slice 135 = .ok (.aload_n 0, 1) := by decide +kernel
theorem dX5_slice_136 : decode cX5_slice 136 = .ok (.getfield 7, 3) := by decide +kernel
theorem dX5_slice_139 : decode cX5_slice 139 = .ok (.bipush 8, 2) := by decide +kernel
theorem dX5_slice_141 : decode cX5_slice 141 = .ok (.iaload, 1) := by decide +kernel
theorem dX5_slice_142 : decode cX5_slice 142 = .ok (.ifCond .ne 8, 3) := by decide +kernel
theorem dX5_slice_145 : decode cX5_slice 145 = .ok (.bipush (-9), 2) := by decide +kernel
theorem dX5_slice_147 : decode cX5_slice 147 = .ok (.goto 9, 3) := by decide +kernel
theorem dX5_slice_150 : decode cX5_slice 150 = .ok (.aload_n 0, 1) := by decide +kernel
theorem dX5_slice_151 : decode cX5_slice 151 = .ok (.getfield 25, 3) := by decide +kernel
theorem dX5_slice_154 : decode cX5_slice 154 = .ok (.iload_n 1, 1) := by decide +kernel
theorem dX5_slice_155 : decode cX5_slice 155 = .ok (.iaload, 1) := by decide +kernel
theorem dX5_slice_156 : decode cX5_slice 156 = .ok (.ireturn, 1) := by decide +kernel
theorem dX5_slice_157 : decode cX5_slice 157 = .ok (.aload_n 0, 1) := by decide +kernel
theorem dX5_slice_158 : decode cX5_slice 158 = .ok (.iload_n 1, 1) := by decide +kernel
theorem dX5_slice_159 : decode cX5_slice 159 = .ok (.invokevirtual 134, 3) := by decide +kernel
theorem dX5_slice_162 : decode cX5_slice 162 = .ok (.ireturn, 1) := by decide +kernel
theorem dX5_slice_163 : decode cX5_slice 163 = .ok (.aload_n 0, 1) := by decide +kernel
theorem dX5_slice_164 : decode cX5_slice 164 = .ok (.iload_n 1, 1) := by decide +kernel
theorem dX5_slice_165 : decode cX5_slice 165 = .ok (.invokevirtual 122, 3) := by decide +kernel
theorem dX5_slice_168 : decode cX5_slice 168 = .ok (.ireturn, 1) := by decide +kernel
set_option maxRecDepth 20000 in
theorem ggX5_order_X5_isSlice : GoodIn wsX5_order wsX5_isSlice := goodIn_r _ [6, 1, 7, 8, 5, 9, 10, 11, 12, 13, 14, 15, 16, 17, 18, 19, 20] (by decide +kernel) (by decide +kernel)
set_option maxRecDepth 20000 in
theorem gX5_order_X5_isSlice : GoodIn wsX5_order (wsV RX5 115 RX5 yX5_isSlice wsX5_isSlice) := goodIn_app (goodIn_of _ (by decide +kernel)) ggX5_order_X5_isSlice
theorem dX5_order_0 : decode cX5_order 0 = .ok (.aload_n 0, 1) := by decide +kernel
theorem dX5_order_1 : decode cX5_order 1 = .ok (.iload_n 1, 1) := by decide +kernel
theorem dX5_order_2 : decode cX5_order 2 = .ok (.invokevirtual 115, 3) := by decide +kernel
theorem dX5_order_5 : decode cX5_order 5 = .ok (.ifCond .eq 15, 3) := by decide +kernel
theorem dX5_order_8 : decode cX5_order 8 = .ok (.aload_n 0, 1) := by decide +kernel
theorem dX5_order_9 : decode cX5_order 9 = .ok (.getfield 7, 3) := by decide +kernel
theorem dX5_order_12 : decode cX5_order 12 = .ok (.bipush 91, 2) := by decide +kernel
theorem dX5_order_14 : decode cX5_order 14 = .ok (.iload_n 1, 1) := by decide +kernel
theorem dX5_order_15 : decode cX5_order 15 = .ok (.iadd, 1) := by decide +kernel
theorem dX5_order_16 : decode cX5_order 16 = .ok (.iaload, 1) := by decide +kernel
theorem dX5_order_17 : decode cX5_order 17 = .ok (.goto 4, 3) := by decide +kernel
theorem dX5_order_20 : decode cX5_order 20 = .ok (.iconst (-1), 1) := by decide +kernel
theorem dX5_order_21 : decode cX5_order 21 = .ok (.ireturn, 1) := by decide +kernel
set_option maxRecDepth 20000 in
theorem ggX5_source_X5_isIn : GoodIn wsX5_source wsX5_isIn := goodIn_r _ [6] (by decide +kernel) (by decide +kernel)
set_option maxRecDepth 20000 in
theorem gX5_source_X5_isIn : GoodIn wsX5_source (va_wsS RX5 47 yX5_isIn wsX5_isIn) := goodIn_app (goodIn_of _ (by decide +kernel)) ggX5_source_X5_isIn
set_option maxRecDepth 20000 in
theorem ggX5_source_X5_isLaid : GoodIn wsX5_source wsX5_isLaid := goodIn_r _ [10, 1, 11, 12, 13, 5, 14, 15, 16, 17, 18, 2, 19, 20, 21, 22, 23, 24, 25, 26, 27, 28, 29, 30, 31, 32, 33, 34, 35, 36, 37, 38, 39, 40, 41, 42, 43, 44, 45, 46, 47, 48, 49, 50, 51, 52, 53, 54, 55, 64, 65, 66, 67, 68, 69, 70, 71, 72, 73, 74] (by decide +kernel) (by decide +kernel)
set_option maxRecDepth 20000 in
theorem gX5_source_X5_isLaid : GoodIn wsX5_source (wsV RX5 118 RX5 yX5_isLaid wsX5_isLaid) := goodIn_app (goodIn_of _ (by decide +kernel)) ggX5_source_X5_isLaid
set_option maxRecDepth 20000 in
theorem ggX5_source_X5_frameOf : GoodIn wsX5_source wsX5_frameOf := goodIn_r _ [38, 1, 64, 65, 66, 67, 68, 69, 70, 71, 72, 73, 74] (by decide +kernel) (by decide +kernel)
set_option maxRecDepth 20000 in
theorem gX5_source_X5_frameOf : GoodIn wsX5_source (wsV RX5 51 RX5 yX5_frameOf wsX5_frameOf) := goodIn_app (goodIn_of _ (by decide +kernel)) ggX5_source_X5_frameOf
set_option maxRecDepth 20000 in
theorem ggX5_source_X5_lengthOf : GoodIn wsX5_source wsX5_lengthOf := goodIn_r _ [34, 1, 35, 36, 37, 5, 38, 64, 65, 66, 67, 68, 69, 70, 71, 72, 73, 74] (by decide +kernel) (by decide +kernel)
set_option maxRecDepth 20000 in
theorem gX5_source_X5_lengthOf : GoodIn wsX5_source (wsV RX5 55 RX5 yX5_lengthOf wsX5_lengthOf) := goodIn_app (goodIn_of _ (by decide +kernel)) ggX5_source_X5_lengthOf
set_option maxRecDepth 20000 in
theorem ggX5_source_X5_fadeOf : GoodIn wsX5_source wsX5_fadeOf := goodIn_r _ [59, 1, 2, 60, 61, 62, 5, 63, 64, 65, 66, 67, 68, 69, 70, 71, 72, 73, 74] (by decide +kernel) (by decide +kernel)
set_option maxRecDepth 20000 in
theorem gX5_source_X5_fadeOf : GoodIn wsX5_source (wsV RX5 122 RX5 yX5_fadeOf wsX5_fadeOf) := goodIn_app (goodIn_of _ (by decide +kernel)) ggX5_source_X5_fadeOf
theorem dX5_source_0 : decode cX5_source 0 = .ok (.iload_n 1, 1) := by decide +kernel
theorem dX5_source_1 : decode cX5_source 1 = .ok (.iconst 0, 1) := by decide +kernel
theorem dX5_source_2 : decode cX5_source 2 = .ok (.aload_n 0, 1) := by decide +kernel
theorem dX5_source_3 : decode cX5_source 3 = .ok (.getfield 7, 3) := by decide +kernel
theorem dX5_source_6 : decode cX5_source 6 = .ok (.bipush 6, 2) := by decide +kernel
theorem dX5_source_8 : decode cX5_source 8 = .ok (.iaload, 1) := by decide +kernel
theorem dX5_source_9 : decode cX5_source 9 = .ok (.iconst 1, 1) := by decide +kernel
theorem dX5_source_10 : decode cX5_source 10 = .ok (.isub, 1) := by decide +kernel
theorem dX5_source_11 : decode cX5_source 11 = .ok (.invokestatic 47, 3) := by decide +kernel
theorem dX5_source_14 : decode cX5_source 14 = .ok (.ifCond .eq 12, 3) := by decide +kernel
theorem dX5_source_17 : decode cX5_source 17 = .ok (.iload_n 2, 1) := by decide +kernel
theorem dX5_source_18 : decode cX5_source 18 = .ok (.iconst 0, 1) := by decide +kernel
theorem dX5_source_19 : decode cX5_source 19 = .ok (.iconst 2, 1) := by decide +kernel
theorem dX5_source_20 : decode cX5_source 20 = .ok (.invokestatic 47, 3) := by decide +kernel
theorem dX5_source_23 : decode cX5_source 23 = .ok (.ifCond .ne 5, 3) := by decide +kernel
theorem dX5_source_26 : decode cX5_source 26 = .ok (.iconst (-1), 1) := by decide +kernel
theorem dX5_source_27 : decode cX5_source 27 = .ok (.ireturn, 1) := by decide +kernel
theorem dX5_source_28 : decode cX5_source 28 = .ok (.aload_n 0, 1) := by decide +kernel
theorem dX5_source_29 : decode cX5_source 29 = .ok (.invokevirtual 118, 3) := by decide +kernel
theorem dX5_source_32 : decode cX5_source 32 = .ok (.ifCond .ne 6, 3) := by decide +kernel
theorem dX5_source_35 : decode cX5_source 35 = .ok (.bipush (-9), 2) := by decide +kernel
theorem dX5_source_37 : decode cX5_source 37 = .ok (.ireturn, 1) := by decide +kernel
theorem dX5_source_38 : decode cX5_source 38 = .ok (.iconst 0, 1) := by decide +kernel
theorem dX5_source_39 : decode cX5_source 39 = .ok (.istore_n 3, 1) := by decide +kernel
theorem dX5_source_40 : decode cX5_source 40 = .ok (.iload_n 1, 1) := by decide +kernel
theorem dX5_source_41 : decode cX5_source 41 = .ok (.istore 4, 2) := by decide +kernel
theorem dX5_source_43 : decode cX5_source 43 = .ok (.iload 4, 2) := by decide +kernel
theorem dX5_source_45 : decode cX5_source 45 = .ok (.aload_n 0, 1) := by decide +kernel
theorem dX5_source_46 : decode cX5_source 46 = .ok (.getfield 22, 3) := by decide +kernel
theorem dX5_source_49 : decode cX5_source 49 = .ok (.aload_n 0, 1) := by decide +kernel
theorem dX5_source_50 : decode cX5_source 50 = .ok (.getfield 7, 3) := by decide +kernel
theorem dX5_source_53 : decode cX5_source 53 = .ok (.bipush 91, 2) := by decide +kernel
theorem dX5_source_55 : decode cX5_source 55 = .ok (.iload_n 3, 1) := by decide +kernel
theorem dX5_source_56 : decode cX5_source 56 = .ok (.iadd, 1) := by decide +kernel
theorem dX5_source_57 : decode cX5_source 57 = .ok (.iaload, 1) := by decide +kernel
theorem dX5_source_58 : decode cX5_source 58 = .ok (.iaload, 1) := by decide +kernel
theorem dX5_source_59 : decode cX5_source 59 = .ok (.if_icmp .lt 28, 3) := by decide +kernel
theorem dX5_source_62 : decode cX5_source 62 = .ok (.iload 4, 2) := by decide +kernel
theorem dX5_source_64 : decode cX5_source 64 = .ok (.aload_n 0, 1) := by decide +kernel
theorem dX5_source_65 : decode cX5_source 65 = .ok (.getfield 22, 3) := by decide +kernel
theorem dX5_source_68 : decode cX5_source 68 = .ok (.aload_n 0, 1) := by decide +kernel
theorem dX5_source_69 : decode cX5_source 69 = .ok (.getfield 7, 3) := by decide +kernel
theorem dX5_source_72 : decode cX5_source 72 = .ok (.bipush 91, 2) := by decide +kernel
theorem dX5_source_74 : decode cX5_source 74 = .ok (.iload_n 3, 1) := by decide +kernel
theorem dX5_source_75 : decode cX5_source 75 = .ok (.iadd, 1) := by decide +kernel
theorem dX5_source_76 : decode cX5_source 76 = .ok (.iaload, 1) := by decide +kernel
theorem dX5_source_77 : decode cX5_source 77 = .ok (.iaload, 1) := by decide +kernel
theorem dX5_source_78 : decode cX5_source 78 = .ok (.isub, 1) := by decide +kernel
theorem dX5_source_79 : decode cX5_source 79 = .ok (.istore 4, 2) := by decide +kernel
theorem dX5_source_81 : decode cX5_source 81 = .ok (.iinc 3 1, 3) := by decide +kernel
theorem dX5_source_84 : decode cX5_source 84 = .ok (.goto (-41), 3) := by decide +kernel
theorem dX5_source_87 : decode cX5_source 87 = .ok (.aload_n 0, 1) := by decide +kernel
theorem dX5_source_88 : decode cX5_source 88 = .ok (.getfield 7, 3) := by decide +kernel
theorem dX5_source_91 : decode cX5_source 91 = .ok (.bipush 91, 2) := by decide +kernel
theorem dX5_source_93 : decode cX5_source 93 = .ok (.iload_n 3, 1) := by decide +kernel
theorem dX5_source_94 : decode cX5_source 94 = .ok (.iadd, 1) := by decide +kernel
theorem dX5_source_95 : decode cX5_source 95 = .ok (.iaload, 1) := by decide +kernel
theorem dX5_source_96 : decode cX5_source 96 = .ok (.istore 5, 2) := by decide +kernel
theorem dX5_source_98 : decode cX5_source 98 = .ok (.iload_n 2, 1) := by decide +kernel
theorem dX5_source_99 : decode cX5_source 99 = .ok (.ifCond .ne 6, 3) := by decide +kernel
theorem dX5_source_102 : decode cX5_source 102 = .ok (.iload 5, 2) := by decide +kernel
theorem dX5_source_104 : decode cX5_source 104 = .ok (.ireturn, 1) := by decide +kernel
theorem dX5_source_105 : decode cX5_source 105 = .ok (.iload_n 2, 1) := by decide +kernel
theorem dX5_source_106 : decode cX5_source 106 = .ok (.iconst 1, 1) := by decide +kernel
theorem dX5_source_107 : decode cX5_source 107 = .ok (.if_icmp .ne 39, 3) := by decide +kernel
theorem dX5_source_110 : decode cX5_source 110 = .ok (.aload_n 0, 1) := by decide +kernel
theorem dX5_source_111 : decode cX5_source 111 = .ok (.iload 5, 2) := by decide +kernel
theorem dX5_source_113 : decode cX5_source 113 = .ok (.invokevirtual 51, 3) := by decide +kernel
theorem dX5_source_116 : decode cX5_source 116 = .ok (.aload_n 0, 1) := by decide +kernel
theorem dX5_source_117 : decode cX5_source 117 = .ok (.getfield 7, 3) := by decide +kernel
theorem dX5_source_120 : decode cX5_source 120 = .ok (.iconst 1, 1) := by decide +kernel
theorem dX5_source_121 : decode cX5_source 121 = .ok (.iaload, 1) := by decide +kernel
theorem dX5_source_122 : decode cX5_source 122 = .ok (.imul, 1) := by decide +kernel
theorem dX5_source_123 : decode cX5_source 123 = .ok (.iload 4, 2) := by decide +kernel
theorem dX5_source_125 : decode cX5_source 125 = .ok (.i2l, 1) := by decide +kernel
theorem dX5_source_126 : decode cX5_source 126 = .ok (.aload_n 0, 1) := by decide +kernel
theorem dX5_source_127 : decode cX5_source 127 = .ok (.iload 5, 2) := by decide +kernel
theorem dX5_source_129 : decode cX5_source 129 = .ok (.invokevirtual 55, 3) := by decide +kernel
theorem dX5_source_132 : decode cX5_source 132 = .ok (.i2l, 1) := by decide +kernel
theorem dX5_source_133 : decode cX5_source 133 = .ok (.lmul, 1) := by decide +kernel
theorem dX5_source_134 : decode cX5_source 134 = .ok (.aload_n 0, 1) := by decide +kernel
theorem dX5_source_135 : decode cX5_source 135 = .ok (.getfield 22, 3) := by decide +kernel
theorem dX5_source_138 : decode cX5_source 138 = .ok (.iload 5, 2) := by decide +kernel
theorem dX5_source_140 : decode cX5_source 140 = .ok (.iaload, 1) := by decide +kernel
theorem dX5_source_141 : decode cX5_source 141 = .ok (.i2l, 1) := by decide +kernel
theorem dX5_source_142 : decode cX5_source 142 = .ok (.ldiv, 1) := by decide +kernel
theorem dX5_source_143 : decode cX5_source 143 = .ok (.l2i, 1) := by decide +kernel
theorem dX5_source_144 : decode cX5_source 144 = .ok (.iadd, 1) := by decide +kernel
theorem dX5_source_145 : decode cX5_source 145 = .ok (.ireturn, 1) := by decide +kernel
theorem dX5_source_146 : decode cX5_source 146 = .ok (.iload 4, 2) := by decide +kernel
theorem dX5_source_148 : decode cX5_source 148 = .ok (.aload_n 0, 1) := by decide +kernel
theorem dX5_source_149 : decode cX5_source 149 = .ok (.getfield 22, 3) := by decide +kernel
theorem dX5_source_152 : decode cX5_source 152 = .ok (.iload 5, 2) := by decide +kernel
theorem dX5_source_154 : decode cX5_source 154 = .ok (.iaload, 1) := by decide +kernel
theorem dX5_source_155 : decode cX5_source 155 = .ok (.aload_n 0, 1) := by decide +kernel
theorem dX5_source_156 : decode cX5_source 156 = .ok (.iload 5, 2) := by decide +kernel
theorem dX5_source_158 : decode cX5_source 158 = .ok (.invokevirtual 122, 3) := by decide +kernel
theorem dX5_source_161 : decode cX5_source 161 = .ok (.isub, 1) := by decide +kernel
theorem dX5_source_162 : decode cX5_source 162 = .ok (.if_icmp .lt 7, 3) := by decide +kernel
theorem dX5_source_165 : decode cX5_source 165 = .ok (.iconst 1, 1) := by decide +kernel
theorem dX5_source_166 : decode cX5_source 166 = .ok (.goto 4, 3) := by decide +kernel
theorem dX5_source_169 : decode cX5_source 169 = .ok (.iconst 0, 1) := by decide +kernel
theorem dX5_source_170 : decode cX5_source 170 = .ok (.ireturn, 1) := by decide +kernel
set_option maxRecDepth 20000 in
theorem ggX5_warp_X5_isSlice : GoodIn wsX5_warp wsX5_isSlice := goodIn_r _ [8, 9, 10, 11, 7, 12, 62, 63, 64, 65, 66, 67, 68, 69, 70, 71, 72] (by decide +kernel) (by decide +kernel)
set_option maxRecDepth 20000 in
theorem gX5_warp_X5_isSlice : GoodIn wsX5_warp (wsV RX5 115 RX5 yX5_isSlice wsX5_isSlice) := goodIn_app (goodIn_of _ (by decide +kernel)) ggX5_warp_X5_isSlice
set_option maxRecDepth 20000 in
theorem ggX5_warp_X5_isLaid : GoodIn wsX5_warp wsX5_isLaid := goodIn_r _ [16, 9, 17, 18, 19, 7, 20, 21, 22, 23, 24, 2, 25, 26, 27, 28, 29, 30, 31, 32, 33, 34, 35, 36, 37, 38, 39, 40, 41, 42, 43, 44, 45, 46, 47, 48, 49, 50, 51, 52, 53, 54, 55, 56, 57, 58, 59, 60, 61, 62, 63, 64, 65, 66, 67, 68, 69, 70, 71, 72] (by decide +kernel) (by decide +kernel)
set_option maxRecDepth 20000 in
theorem gX5_warp_X5_isLaid : GoodIn wsX5_warp (wsV RX5 118 RX5 yX5_isLaid wsX5_isLaid) := goodIn_app (goodIn_of _ (by decide +kernel)) ggX5_warp_X5_isLaid
set_option maxRecDepth 20000 in
theorem ggX5_warp_X5_lengthOf : GoodIn wsX5_warp wsX5_lengthOf := goodIn_r _ [40, 9, 41, 42, 43, 7, 44, 62, 63, 64, 65, 66, 67, 68, 69, 70, 71, 72] (by decide +kernel) (by decide +kernel)
set_option maxRecDepth 20000 in
theorem gX5_warp_X5_lengthOf : GoodIn wsX5_warp (wsV RX5 55 RX5 yX5_lengthOf wsX5_lengthOf) := goodIn_app (goodIn_of _ (by decide +kernel)) ggX5_warp_X5_lengthOf
theorem dX5_warp_0 : decode cX5_warp 0 = .ok (.aload_n 0, 1) := by decide +kernel
theorem dX5_warp_1 : decode cX5_warp 1 = .ok (.iload_n 1, 1) := by decide +kernel
theorem dX5_warp_2 : decode cX5_warp 2 = .ok (.invokevirtual 115, 3) := by decide +kernel
theorem dX5_warp_5 : decode cX5_warp 5 = .ok (.ifCond .ne 6, 3) := by decide +kernel
theorem dX5_warp_8 : decode cX5_warp 8 = .ok (.ldc 137, 2) := by decide +kernel
theorem dX5_warp_10 : decode cX5_warp 10 = .ok (.freturn, 1) := by decide +kernel
theorem dX5_warp_11 : decode cX5_warp 11 = .ok (.aload_n 0, 1) := by decide +kernel
theorem dX5_warp_12 : decode cX5_warp 12 = .ok (.invokevirtual 118, 3) := by decide +kernel
theorem dX5_warp_15 : decode cX5_warp 15 = .ok (.ifCond .eq 20, 3) := by decide +kernel
theorem dX5_warp_18 : decode cX5_warp 18 = .ok (.aload_n 0, 1) := by decide +kernel
theorem dX5_warp_19 : decode cX5_warp 19 = .ok (.getfield 22, 3) := by decide +kernel
theorem dX5_warp_22 : decode cX5_warp 22 = .ok (.iload_n 1, 1) := by decide +kernel
theorem dX5_warp_23 : decode cX5_warp 23 = .ok (.iaload, 1) := by decide +kernel
theorem dX5_warp_24 : decode cX5_warp 24 = .ok (.i2f, 1) := by decide +kernel
theorem dX5_warp_25 : decode cX5_warp 25 = .ok (.aload_n 0, 1) := by decide +kernel
theorem dX5_warp_26 : decode cX5_warp 26 = .ok (.iload_n 1, 1) := by decide +kernel
theorem dX5_warp_27 : decode cX5_warp 27 = .ok (.invokevirtual 55, 3) := by decide +kernel
theorem dX5_warp_30 : decode cX5_warp 30 = .ok (.i2f, 1) := by decide +kernel
theorem dX5_warp_31 : decode cX5_warp 31 = .ok (.fdiv, 1) := by decide +kernel
theorem dX5_warp_32 : decode cX5_warp 32 = .ok (.goto 5, 3) := by decide +kernel
theorem dX5_warp_35 : decode cX5_warp 35 = .ok (.ldc 138, 2) := by decide +kernel
theorem dX5_warp_37 : decode cX5_warp 37 = .ok (.freturn, 1) := by decide +kernel
set_option maxRecDepth 20000 in
theorem ggX5_shift_X5_layGrid : GoodIn wsX5_shift wsX5_layGrid := goodIn_r _ [7, 1, 8, 9, 2, 10, 11, 12, 13, 14, 6, 15, 16, 17, 18, 19, 20, 21, 22, 23, 24, 25, 26, 27, 28, 29, 30, 31, 32, 33, 34, 35, 36, 37, 38, 39, 40, 41, 42, 43, 44, 45, 46] (by decide +kernel) (by decide +kernel)
set_option maxRecDepth 20000 in
theorem gX5_shift_X5_layGrid : GoodIn wsX5_shift (wsV RX5 89 RX5 yX5_layGrid wsX5_layGrid) := goodIn_app (goodIn_of _ (by decide +kernel)) ggX5_shift_X5_layGrid
theorem dX5_shift_0 : decode cX5_shift 0 = .ok (.aload_n 0, 1) := by decide +kernel
theorem dX5_shift_1 : decode cX5_shift 1 = .ok (.aload_n 0, 1) := by decide +kernel
theorem dX5_shift_2 : decode cX5_shift 2 = .ok (.getfield 7, 3) := by decide +kernel
theorem dX5_shift_5 : decode cX5_shift 5 = .ok (.bipush 6, 2) := by decide +kernel
theorem dX5_shift_7 : decode cX5_shift 7 = .ok (.iaload, 1) := by decide +kernel
theorem dX5_shift_8 : decode cX5_shift 8 = .ok (.aload_n 0, 1) := by decide +kernel
theorem dX5_shift_9 : decode cX5_shift 9 = .ok (.getfield 7, 3) := by decide +kernel
theorem dX5_shift_12 : decode cX5_shift 12 = .ok (.bipush 7, 2) := by decide +kernel
theorem dX5_shift_14 : decode cX5_shift 14 = .ok (.iaload, 1) := by decide +kernel
theorem dX5_shift_15 : decode cX5_shift 15 = .ok (.invokevirtual 89, 3) := by decide +kernel
theorem dX5_shift_18 : decode cX5_shift 18 = .ok (.ifCond .eq 19, 3) := by decide +kernel
theorem dX5_shift_21 : decode cX5_shift 21 = .ok (.aload_n 0, 1) := by decide +kernel
theorem dX5_shift_22 : decode cX5_shift 22 = .ok (.getfield 85, 3) := by decide +kernel
theorem dX5_shift_25 : decode cX5_shift 25 = .ok (.aload_n 0, 1) := by decide +kernel
theorem dX5_shift_26 : decode cX5_shift 26 = .ok (.getfield 7, 3) := by decide +kernel
theorem dX5_shift_29 : decode cX5_shift 29 = .ok (.iconst 0, 1) := by decide +kernel
theorem dX5_shift_30 : decode cX5_shift 30 = .ok (.iaload, 1) := by decide +kernel
theorem dX5_shift_31 : decode cX5_shift 31 = .ok (.i2l, 1) := by decide +kernel
theorem dX5_shift_32 : decode cX5_shift 32 = .ok (.ldiv, 1) := by decide +kernel
theorem dX5_shift_33 : decode cX5_shift 33 = .ok (.l2i, 1) := by decide +kernel
theorem dX5_shift_34 : decode cX5_shift 34 = .ok (.goto 5, 3) := by decide +kernel
theorem dX5_shift_37 : decode cX5_shift 37 = .ok (.bipush (-9), 2) := by decide +kernel
theorem dX5_shift_39 : decode cX5_shift 39 = .ok (.ireturn, 1) := by decide +kernel
set_option maxRecDepth 20000 in
theorem ggX5_leastGrid_X5_layGrid : GoodIn wsX5_leastGrid wsX5_layGrid := goodIn_r _ [6, 1, 7, 8, 9, 10, 11, 12, 13, 14, 5, 15, 16, 17, 18, 19, 20, 21, 22, 23, 24, 25, 26, 27, 28, 29, 30, 31, 32, 33, 34, 35, 36, 37, 38, 39, 40, 41, 42, 43, 44, 45, 46] (by decide +kernel) (by decide +kernel)
set_option maxRecDepth 20000 in
theorem gX5_leastGrid_X5_layGrid : GoodIn wsX5_leastGrid (wsV RX5 89 RX5 yX5_layGrid wsX5_layGrid) := goodIn_app (goodIn_of _ (by decide +kernel)) ggX5_leastGrid_X5_layGrid
theorem dX5_leastGrid_0 : decode cX5_leastGrid 0 = .ok (.iconst 1, 1) := by decide +kernel
theorem dX5_leastGrid_1 : decode cX5_leastGrid 1 = .ok (.istore_n 1, 1) := by decide +kernel
theorem dX5_leastGrid_2 : decode cX5_leastGrid 2 = .ok (.iload_n 1, 1) := by decide +kernel
theorem dX5_leastGrid_3 : decode cX5_leastGrid 3 = .ok (.bipush 32, 2) := by decide +kernel
theorem dX5_leastGrid_5 : decode cX5_leastGrid 5 = .ok (.if_icmp .gt 26, 3) := by decide +kernel
theorem dX5_leastGrid_8 : decode cX5_leastGrid 8 = .ok (.aload_n 0, 1) := by decide +kernel
theorem dX5_leastGrid_9 : decode cX5_leastGrid 9 = .ok (.aload_n 0, 1) := by decide +kernel
theorem dX5_leastGrid_10 : decode cX5_leastGrid 10 = .ok (.getfield 7, 3) := by decide +kernel
theorem dX5_leastGrid_13 : decode cX5_leastGrid 13 = .ok (.bipush 6, 2) := by decide +kernel
theorem dX5_leastGrid_15 : decode cX5_leastGrid 15 = .ok (.iaload, 1) := by decide +kernel
theorem dX5_leastGrid_16 : decode cX5_leastGrid 16 = .ok (.iload_n 1, 1) := by decide +kernel
theorem dX5_leastGrid_17 : decode cX5_leastGrid 17 = .ok (.invokevirtual 89, 3) := by decide +kernel
theorem dX5_leastGrid_20 : decode cX5_leastGrid 20 = .ok (.ifCond .eq 5, 3) := by decide +kernel
theorem dX5_leastGrid_23 : decode cX5_leastGrid 23 = .ok (.iload_n 1, 1) := by decide +kernel
theorem dX5_leastGrid_24 : decode cX5_leastGrid 24 = .ok (.ireturn, 1) := by decide +kernel
theorem dX5_leastGrid_25 : decode cX5_leastGrid 25 = .ok (.iinc 1 1, 3) := by decide +kernel
theorem dX5_leastGrid_28 : decode cX5_leastGrid 28 = .ok (.goto (-26), 3) := by decide +kernel
theorem dX5_leastGrid_31 : decode cX5_leastGrid 31 = .ok (.bipush (-9), 2) := by decide +kernel
theorem dX5_leastGrid_33 : decode cX5_leastGrid 33 = .ok (.ireturn, 1) := by decide +kernel
set_option maxRecDepth 20000 in
theorem ggX5_canBe_X5_isIn : GoodIn wsX5_canBe wsX5_isIn := goodIn_r _ [6] (by decide +kernel) (by decide +kernel)
set_option maxRecDepth 20000 in
theorem gX5_canBe_X5_isIn : GoodIn wsX5_canBe (va_wsS RX5 47 yX5_isIn wsX5_isIn) := goodIn_app (goodIn_of _ (by decide +kernel)) ggX5_canBe_X5_isIn
set_option maxRecDepth 20000 in
theorem ggX5_canBe_X5_layGrid : GoodIn wsX5_canBe wsX5_layGrid := goodIn_r _ [10, 2, 11, 12, 13, 14, 15, 16, 17, 18, 5, 19, 20, 21, 22, 23, 24, 25, 26, 27, 28, 29, 30, 31, 32, 33, 34, 35, 36, 37, 38, 39, 40, 41, 42, 43, 44, 45, 46, 47, 48, 49, 50] (by decide +kernel) (by decide +kernel)
set_option maxRecDepth 20000 in
theorem gX5_canBe_X5_layGrid : GoodIn wsX5_canBe (wsV RX5 89 RX5 yX5_layGrid wsX5_layGrid) := goodIn_app (goodIn_of _ (by decide +kernel)) ggX5_canBe_X5_layGrid
theorem dX5_canBe_0 : decode cX5_canBe 0 = .ok (.iload_n 1, 1) := by decide +kernel
theorem dX5_canBe_1 : decode cX5_canBe 1 = .ok (.iconst 1, 1) := by decide +kernel
theorem dX5_canBe_2 : decode cX5_canBe 2 = .ok (.ldc 105, 2) := by decide +kernel
theorem dX5_canBe_4 : decode cX5_canBe 4 = .ok (.invokestatic 47, 3) := by decide +kernel
theorem dX5_canBe_7 : decode cX5_canBe 7 = .ok (.ifCond .eq 22, 3) := by decide +kernel
theorem dX5_canBe_10 : decode cX5_canBe 10 = .ok (.aload_n 0, 1) := by decide +kernel
theorem dX5_canBe_11 : decode cX5_canBe 11 = .ok (.iload_n 1, 1) := by decide +kernel
theorem dX5_canBe_12 : decode cX5_canBe 12 = .ok (.aload_n 0, 1) := by decide +kernel
theorem dX5_canBe_13 : decode cX5_canBe 13 = .ok (.getfield 7, 3) := by decide +kernel
theorem dX5_canBe_16 : decode cX5_canBe 16 = .ok (.bipush 7, 2) := by decide +kernel
theorem dX5_canBe_18 : decode cX5_canBe 18 = .ok (.iaload, 1) := by decide +kernel
theorem dX5_canBe_19 : decode cX5_canBe 19 = .ok (.invokevirtual 89, 3) := by decide +kernel
theorem dX5_canBe_22 : decode cX5_canBe 22 = .ok (.ifCond .eq 7, 3) := by decide +kernel
theorem dX5_canBe_25 : decode cX5_canBe 25 = .ok (.iconst 1, 1) := by decide +kernel
theorem dX5_canBe_26 : decode cX5_canBe 26 = .ok (.goto 4, 3) := by decide +kernel
theorem dX5_canBe_29 : decode cX5_canBe 29 = .ok (.iconst 0, 1) := by decide +kernel
theorem dX5_canBe_30 : decode cX5_canBe 30 = .ok (.ireturn, 1) := by decide +kernel
set_option maxRecDepth 20000 in
theorem ggX5_nearTarget_X5_isIn : GoodIn wsX5_nearTarget wsX5_isIn := goodIn_r _ [5] (by decide +kernel) (by decide +kernel)
set_option maxRecDepth 20000 in
theorem gX5_nearTarget_X5_isIn : GoodIn wsX5_nearTarget (va_wsS RX5 47 yX5_isIn wsX5_isIn) := goodIn_app (goodIn_of _ (by decide +kernel)) ggX5_nearTarget_X5_isIn
set_option maxRecDepth 20000 in
theorem ggX5_nearTarget_X5_canBe : GoodIn wsX5_nearTarget wsX5_canBe := goodIn_r _ [9, 10, 1, 2, 3, 4, 5, 11, 12, 13, 14, 15, 16, 17, 18, 19, 20, 21, 22, 23, 24, 25, 26, 27, 28, 29, 30, 31, 32, 33, 34, 35, 36, 37, 38, 39, 40, 41, 42, 43, 44, 45, 46, 47, 48, 49, 50, 51, 52, 53, 54] (by decide +kernel) (by decide +kernel)
set_option maxRecDepth 20000 in
theorem gX5_nearTarget_X5_canBe : GoodIn wsX5_nearTarget (wsV RX5 139 RX5 yX5_canBe wsX5_canBe) := goodIn_app (goodIn_of _ (by decide +kernel)) ggX5_nearTarget_X5_canBe
theorem dX5_nearTarget_0 : decode cX5_nearTarget 0 = .ok (.iload_n 1, 1) := by decide +kernel
theorem dX5_nearTarget_1 : decode cX5_nearTarget 1 = .ok (.iconst 0, 1) := by decide +kernel
theorem dX5_nearTarget_2 : decode cX5_nearTarget 2 = .ok (.sipush 200, 3) := by decide +kernel
theorem dX5_nearTarget_5 : decode cX5_nearTarget 5 = .ok (.invokestatic 47, 3) := by decide +kernel
theorem dX5_nearTarget_8 : decode cX5_nearTarget 8 = .ok (.ifCond .ne 5, 3) := by decide +kernel
theorem dX5_nearTarget_11 : decode cX5_nearTarget 11 = .ok (.iconst (-1), 1) := by decide +kernel
theorem dX5_nearTarget_12 : decode cX5_nearTarget 12 = .ok (.ireturn, 1) := by decide +kernel
theorem dX5_nearTarget_13 : decode cX5_nearTarget 13 = .ok (.iconst 0, 1) := by decide +kernel
theorem dX5_nearTarget_14 : decode cX5_nearTarget 14 = .ok (.istore_n 2, 1) := by decide +kernel
theorem dX5_nearTarget_15 : decode cX5_nearTarget 15 = .ok (.iload_n 2, 1) := by decide +kernel
theorem dX5_nearTarget_16 : decode cX5_nearTarget 16 = .ok (.iload_n 1, 1) := by decide +kernel
theorem dX5_nearTarget_17 : decode cX5_nearTarget 17 = .ok (.if_icmp .gt 61, 3) := by decide +kernel
theorem dX5_nearTarget_20 : decode cX5_nearTarget 20 = .ok (.aload_n 0, 1) := by decide +kernel
theorem dX5_nearTarget_21 : decode cX5_nearTarget 21 = .ok (.aload_n 0, 1) := by decide +kernel
theorem dX5_nearTarget_22 : decode cX5_nearTarget 22 = .ok (.getfield 7, 3) := by decide +kernel
theorem dX5_nearTarget_25 : decode cX5_nearTarget 25 = .ok (.bipush 6, 2) := by decide +kernel
theorem dX5_nearTarget_27 : decode cX5_nearTarget 27 = .ok (.iaload, 1) := by decide +kernel
theorem dX5_nearTarget_28 : decode cX5_nearTarget 28 = .ok (.iload_n 2, 1) := by decide +kernel
theorem dX5_nearTarget_29 : decode cX5_nearTarget 29 = .ok (.isub, 1) := by decide +kernel
theorem dX5_nearTarget_30 : decode cX5_nearTarget 30 = .ok (.invokevirtual 139, 3) := by decide +kernel
theorem dX5_nearTarget_33 : decode cX5_nearTarget 33 = .ok (.ifCond .eq 13, 3) := by decide +kernel
theorem dX5_nearTarget_36 : decode cX5_nearTarget 36 = .ok (.aload_n 0, 1) := by decide +kernel
theorem dX5_nearTarget_37 : decode cX5_nearTarget 37 = .ok (.getfield 7, 3) := by decide +kernel
theorem dX5_nearTarget_40 : decode cX5_nearTarget 40 = .ok (.bipush 6, 2) := by decide +kernel
theorem dX5_nearTarget_42 : decode cX5_nearTarget 42 = .ok (.iaload, 1) := by decide +kernel
theorem dX5_nearTarget_43 : decode cX5_nearTarget 43 = .ok (.iload_n 2, 1) := by decide +kernel
theorem dX5_nearTarget_44 : decode cX5_nearTarget 44 = .ok (.isub, 1) := by decide +kernel
theorem dX5_nearTarget_45 : decode cX5_nearTarget 45 = .ok (.ireturn, 1) := by decide +kernel
theorem dX5_nearTarget_46 : decode cX5_nearTarget 46 = .ok (.aload_n 0, 1) := by decide +kernel
theorem dX5_nearTarget_47 : decode cX5_nearTarget 47 = .ok (.aload_n 0, 1) := by decide +kernel
theorem dX5_nearTarget_48 : decode cX5_nearTarget 48 = .ok (.getfield 7, 3) := by decide +kernel
theorem dX5_nearTarget_51 : decode cX5_nearTarget 51 = .ok (.bipush 6, 2) := by decide +kernel
theorem dX5_nearTarget_53 : decode cX5_nearTarget 53 = .ok (.iaload, 1) := by decide +kernel
theorem dX5_nearTarget_54 : decode cX5_nearTarget 54 = .ok (.iload_n 2, 1) := by decide +kernel
theorem dX5_nearTarget_55 : decode cX5_nearTarget 55 = .ok (.iadd, 1) := by decide +kernel
theorem dX5_nearTarget_56 : decode cX5_nearTarget 56 = .ok (.invokevirtual 139, 3) := by decide +kernel
theorem dX5_nearTarget_59 : decode cX5_nearTarget 59 = .ok (.ifCond .eq 13, 3) := by decide +kernel
theorem dX5_nearTarget_62 : decode cX5_nearTarget 62 = .ok (.aload_n 0, 1) := by decide +kernel
theorem dX5_nearTarget_63 : decode cX5_nearTarget 63 = .ok (.getfield 7, 3) := by decide +kernel
theorem dX5_nearTarget_66 : decode cX5_nearTarget 66 = .ok (.bipush 6, 2) := by decide +kernel
theorem dX5_nearTarget_68 : decode cX5_nearTarget 68 = .ok (.iaload, 1) := by decide +kernel
theorem dX5_nearTarget_69 : decode cX5_nearTarget 69 = .ok (.iload_n 2, 1) := by decide +kernel
theorem dX5_nearTarget_70 : decode cX5_nearTarget 70 = .ok (.iadd, 1) := by decide +kernel
theorem dX5_nearTarget_71 : decode cX5_nearTarget 71 = .ok (.ireturn, 1) := by decide +kernel
theorem dX5_nearTarget_72 : decode cX5_nearTarget 72 = .ok (.iinc 2 1, 3) := by decide +kernel
theorem dX5_nearTarget_75 : decode cX5_nearTarget 75 = .ok (.goto (-60), 3) := by decide +kernel
theorem dX5_nearTarget_78 : decode cX5_nearTarget 78 = .ok (.bipush (-9), 2) := by decide +kernel
theorem dX5_nearTarget_80 : decode cX5_nearTarget 80 = .ok (.ireturn, 1) := by decide +kernel
set_option maxRecDepth 20000 in
theorem ggX5_marksWith_X5_isIn : GoodIn wsX5_marksWith wsX5_isIn := goodIn_r _ [4] (by decide +kernel) (by decide +kernel)
set_option maxRecDepth 20000 in
theorem gX5_marksWith_X5_isIn : GoodIn wsX5_marksWith (va_wsS RX5 47 yX5_isIn wsX5_isIn) := goodIn_app (goodIn_of _ (by decide +kernel)) ggX5_marksWith_X5_isIn
set_option maxRecDepth 20000 in
theorem ggX5_marksWith_X5_findBy : GoodIn wsX5_marksWith wsX5_findBy := goodIn_r _ [8, 9, 10, 11, 12, 13, 14, 15, 16, 17, 18, 19, 20, 21] (by decide +kernel) (by decide +kernel)
set_option maxRecDepth 20000 in
theorem gX5_marksWith_X5_findBy : GoodIn wsX5_marksWith (wsV RX5 109 RX5 yX5_findBy wsX5_findBy) := goodIn_app (goodIn_of _ (by decide +kernel)) ggX5_marksWith_X5_findBy
theorem dX5_marksWith_0 : decode cX5_marksWith 0 = .ok (.iload_n 1, 1) := by decide +kernel
theorem dX5_marksWith_1 : decode cX5_marksWith 1 = .ok (.iconst 1, 1) := by decide +kernel
theorem dX5_marksWith_2 : decode cX5_marksWith 2 = .ok (.sipush 999, 3) := by decide +kernel
theorem dX5_marksWith_5 : decode cX5_marksWith 5 = .ok (.invokestatic 47, 3) := by decide +kernel
theorem dX5_marksWith_8 : decode cX5_marksWith 8 = .ok (.ifCond .eq 11, 3) := by decide +kernel
theorem dX5_marksWith_11 : decode cX5_marksWith 11 = .ok (.aload_n 0, 1) := by decide +kernel
theorem dX5_marksWith_12 : decode cX5_marksWith 12 = .ok (.iload_n 1, 1) := by decide +kernel
theorem dX5_marksWith_13 : decode cX5_marksWith 13 = .ok (.invokevirtual 109, 3) := by decide +kernel
theorem dX5_marksWith_16 : decode cX5_marksWith 16 = .ok (.goto 4, 3) := by decide +kernel
theorem dX5_marksWith_19 : decode cX5_marksWith 19 = .ok (.iconst (-1), 1) := by decide +kernel
theorem dX5_marksWith_20 : decode cX5_marksWith 20 = .ok (.ireturn, 1) := by decide +kernel
set_option maxRecDepth 20000 in
theorem ggX5_thresholdFor_X5_isIn : GoodIn wsX5_thresholdFor wsX5_isIn := goodIn_r _ [4] (by decide +kernel) (by decide +kernel)
set_option maxRecDepth 20000 in
theorem gX5_thresholdFor_X5_isIn : GoodIn wsX5_thresholdFor (va_wsS RX5 47 yX5_isIn wsX5_isIn) := goodIn_app (goodIn_of _ (by decide +kernel)) ggX5_thresholdFor_X5_isIn
set_option maxRecDepth 20000 in
theorem ggX5_thresholdFor_X5_findBy : GoodIn wsX5_thresholdFor wsX5_findBy := goodIn_r _ [8, 9, 10, 11, 12, 13, 14, 15, 16, 17, 18, 19, 20, 21] (by decide +kernel) (by decide +kernel)
set_option maxRecDepth 20000 in
theorem gX5_thresholdFor_X5_findBy : GoodIn wsX5_thresholdFor (wsV RX5 109 RX5 yX5_findBy wsX5_findBy) := goodIn_app (goodIn_of _ (by decide +kernel)) ggX5_thresholdFor_X5_findBy
theorem dX5_thresholdFor_0 : decode cX5_thresholdFor 0 = .ok (.iload_n 1, 1) := by decide +kernel
theorem dX5_thresholdFor_1 : decode cX5_thresholdFor 1 = .ok (.iconst 1, 1) := by decide +kernel
theorem dX5_thresholdFor_2 : decode cX5_thresholdFor 2 = .ok (.bipush 16, 2) := by decide +kernel
theorem dX5_thresholdFor_4 : decode cX5_thresholdFor 4 = .ok (.invokestatic 47, 3) := by decide +kernel
theorem dX5_thresholdFor_7 : decode cX5_thresholdFor 7 = .ok (.ifCond .ne 5, 3) := by decide +kernel
theorem dX5_thresholdFor_10 : decode cX5_thresholdFor 10 = .ok (.iconst (-1), 1) := by decide +kernel
theorem dX5_thresholdFor_11 : decode cX5_thresholdFor 11 = .ok (.ireturn, 1) := by decide +kernel
theorem dX5_thresholdFor_12 : decode cX5_thresholdFor 12 = .ok (.sipush 999, 3) := by decide +kernel
theorem dX5_thresholdFor_15 : decode cX5_thresholdFor 15 = .ok (.istore_n 2, 1) := by decide +kernel
theorem dX5_thresholdFor_16 : decode cX5_thresholdFor 16 = .ok (.iload_n 2, 1) := by decide +kernel
theorem dX5_thresholdFor_17 : decode cX5_thresholdFor 17 = .ok (.ifCond .le 20, 3) := by decide +kernel
theorem dX5_thresholdFor_20 : decode cX5_thresholdFor 20 = .ok (.aload_n 0, 1) := by decide +kernel
theorem dX5_thresholdFor_21 : decode cX5_thresholdFor 21 = .ok (.iload_n 2, 1) := by decide +kernel
theorem dX5_thresholdFor_22 : decode cX5_thresholdFor 22 = .ok (.invokevirtual 109, 3) := by decide +kernel
theorem dX5_thresholdFor_25 : decode cX5_thresholdFor 25 = .ok (.iload_n 1, 1) := by decide +kernel
theorem dX5_thresholdFor_26 : decode cX5_thresholdFor 26 = .ok (.if_icmp .lt 5, 3) := by decide +kernel
theorem dX5_thresholdFor_29 : decode cX5_thresholdFor 29 = .ok (.iload_n 2, 1) := by decide +kernel
theorem dX5_thresholdFor_30 : decode cX5_thresholdFor 30 = .ok (.ireturn, 1) := by decide +kernel
theorem dX5_thresholdFor_31 : decode cX5_thresholdFor 31 = .ok (.iinc 2 (-1), 3) := by decide +kernel
theorem dX5_thresholdFor_34 : decode cX5_thresholdFor 34 = .ok (.goto (-18), 3) := by decide +kernel
theorem dX5_thresholdFor_37 : decode cX5_thresholdFor 37 = .ok (.bipush (-9), 2) := by decide +kernel
theorem dX5_thresholdFor_39 : decode cX5_thresholdFor 39 = .ok (.ireturn, 1) := by decide +kernel
set_option maxRecDepth 20000 in
theorem ggX5_isImage_X5_isIn : GoodIn wsX5_isImage wsX5_isIn := goodIn_r _ [4] (by decide +kernel) (by decide +kernel)
set_option maxRecDepth 20000 in
theorem gX5_isImage_X5_isIn : GoodIn wsX5_isImage (va_wsS RX5 47 yX5_isIn wsX5_isIn) := goodIn_app (goodIn_of _ (by decide +kernel)) ggX5_isImage_X5_isIn
theorem dX5_isImage_0 : decode cX5_isImage 0 = .ok (.iload_n 0, 1) := by decide +kernel
theorem dX5_isImage_1 : decode cX5_isImage 1 = .ok (.iconst 0, 1) := by decide +kernel
theorem dX5_isImage_2 : decode cX5_isImage 2 = .ok (.iconst 1, 1) := by decide +kernel
theorem dX5_isImage_3 : decode cX5_isImage 3 = .ok (.invokestatic 47, 3) := by decide +kernel
theorem dX5_isImage_6 : decode cX5_isImage 6 = .ok (.ireturn, 1) := by decide +kernel
set_option maxRecDepth 20000 in
theorem ggX5_keep_X5_isImage : GoodIn wsX5_keep wsX5_isImage := goodIn_r _ [7, 8, 9, 6, 10] (by decide +kernel) (by decide +kernel)
set_option maxRecDepth 20000 in
theorem gX5_keep_X5_isImage : GoodIn wsX5_keep (va_wsS RX5 142 yX5_isImage wsX5_isImage) := goodIn_app (goodIn_of _ (by decide +kernel)) ggX5_keep_X5_isImage
theorem dX5_keep_0 : decode cX5_keep 0 = .ok (.iload_n 1, 1) := by decide +kernel
theorem dX5_keep_1 : decode cX5_keep 1 = .ok (.invokestatic 142, 3) := by decide +kernel
theorem dX5_keep_4 : decode cX5_keep 4 = .ok (.ifCond .ne 5, 3) := by decide +kernel
theorem dX5_keep_7 : decode cX5_keep 7 = .ok (.iconst (-1), 1) := by decide +kernel
theorem dX5_keep_8 : decode cX5_keep 8 = .ok (.ireturn, 1) := by decide +kernel
theorem dX5_keep_9 : decode cX5_keep 9 = .ok (.iconst 0, 1) := by decide +kernel
theorem dX5_keep_10 : decode cX5_keep 10 = .ok (.istore_n 2, 1) := by decide +kernel
theorem dX5_keep_11 : decode cX5_keep 11 = .ok (.iload_n 2, 1) := by decide +kernel
theorem dX5_keep_12 : decode cX5_keep 12 = .ok (.bipush 107, 2) := by decide +kernel
theorem dX5_keep_14 : decode cX5_keep 14 = .ok (.if_icmp .ge 26, 3) := by decide +kernel
theorem dX5_keep_17 : decode cX5_keep 17 = .ok (.aload_n 0, 1) := by decide +kernel
theorem dX5_keep_18 : decode cX5_keep 18 = .ok (.getfield 16, 3) := by decide +kernel
theorem dX5_keep_21 : decode cX5_keep 21 = .ok (.bipush 107, 2) := by decide +kernel
theorem dX5_keep_23 : decode cX5_keep 23 = .ok (.iload_n 1, 1) := by decide +kernel
theorem dX5_keep_24 : decode cX5_keep 24 = .ok (.imul, 1) := by decide +kernel
theorem dX5_keep_25 : decode cX5_keep 25 = .ok (.iload_n 2, 1) := by decide +kernel
theorem dX5_keep_26 : decode cX5_keep 26 = .ok (.iadd, 1) := by decide +kernel
theorem dX5_keep_27 : decode cX5_keep 27 = .ok (.aload_n 0, 1) := by decide +kernel
theorem dX5_keep_28 : decode cX5_keep 28 = .ok (.getfield 7, 3) := by decide +kernel
theorem dX5_keep_31 : decode cX5_keep 31 = .ok (.iload_n 2, 1) := by decide +kernel
theorem dX5_keep_32 : decode cX5_keep 32 = .ok (.iaload, 1) := by decide +kernel
theorem dX5_keep_33 : decode cX5_keep 33 = .ok (.iastore, 1) := by decide +kernel
theorem dX5_keep_34 : decode cX5_keep 34 = .ok (.iinc 2 1, 3) := by decide +kernel
theorem dX5_keep_37 : decode cX5_keep 37 = .ok (.goto (-26), 3) := by decide +kernel
theorem dX5_keep_40 : decode cX5_keep 40 = .ok (.aload_n 0, 1) := by decide +kernel
theorem dX5_keep_41 : decode cX5_keep 41 = .ok (.dup, 1) := by decide +kernel
theorem dX5_keep_42 : decode cX5_keep 42 = .ok (.getfield 145, 3) := by decide +kernel
theorem dX5_keep_45 : decode cX5_keep 45 = .ok (.iconst 1, 1) := by decide +kernel
theorem dX5_keep_46 : decode cX5_keep 46 = .ok (.iload_n 1, 1) := by decide +kernel
theorem dX5_keep_47 : decode cX5_keep 47 = .ok (.ishl, 1) := by decide +kernel
theorem dX5_keep_48 : decode cX5_keep 48 = .ok (.ior, 1) := by decide +kernel
theorem dX5_keep_49 : decode cX5_keep 49 = .ok (.putfield 145, 3) := by decide +kernel
theorem dX5_keep_52 : decode cX5_keep 52 = .ok (.aload_n 0, 1) := by decide +kernel
theorem dX5_keep_53 : decode cX5_keep 53 = .ok (.getfield 7, 3) := by decide +kernel
theorem dX5_keep_56 : decode cX5_keep 56 = .ok (.bipush 74, 2) := by decide +kernel
theorem dX5_keep_58 : decode cX5_keep 58 = .ok (.iaload, 1) := by decide +kernel
theorem dX5_keep_59 : decode cX5_keep 59 = .ok (.ireturn, 1) := by decide +kernel
set_option maxRecDepth 20000 in
theorem ggX5_back_X5_isImage : GoodIn wsX5_back wsX5_isImage := goodIn_r _ [7, 8, 9, 6, 10] (by decide +kernel) (by decide +kernel)
set_option maxRecDepth 20000 in
theorem gX5_back_X5_isImage : GoodIn wsX5_back (va_wsS RX5 142 yX5_isImage wsX5_isImage) := goodIn_app (goodIn_of _ (by decide +kernel)) ggX5_back_X5_isImage
set_option maxRecDepth 20000 in
theorem ggX5_back_X5_remember : GoodIn wsX5_back wsX5_remember := goodIn_r _ [14, 15, 16, 2, 17, 18, 19, 20, 21, 22, 23, 24, 25, 26, 27] (by decide +kernel) (by decide +kernel)
set_option maxRecDepth 20000 in
theorem gX5_back_X5_remember : GoodIn wsX5_back (wsV RX5 98 RX5 yX5_remember wsX5_remember) := goodIn_app (goodIn_of _ (by decide +kernel)) ggX5_back_X5_remember
theorem dX5_back_0 : decode cX5_back 0 = .ok (.iload_n 1, 1) := by decide +kernel
theorem dX5_back_1 : decode cX5_back 1 = .ok (.invokestatic 142, 3) := by decide +kernel
theorem dX5_back_4 : decode cX5_back 4 = .ok (.ifCond .ne 5, 3) := by decide +kernel
theorem dX5_back_7 : decode cX5_back 7 = .ok (.iconst (-1), 1) := by decide +kernel
theorem dX5_back_8 : decode cX5_back 8 = .ok (.ireturn, 1) := by decide +kernel
theorem dX5_back_9 : decode cX5_back 9 = .ok (.aload_n 0, 1) := by decide +kernel
theorem dX5_back_10 : decode cX5_back 10 = .ok (.getfield 145, 3) := by decide +kernel
theorem dX5_back_13 : decode cX5_back 13 = .ok (.iload_n 1, 1) := by decide +kernel
theorem dX5_back_14 : decode cX5_back 14 = .ok (.ishr, 1) := by decide +kernel
theorem dX5_back_15 : decode cX5_back 15 = .ok (.iconst 1, 1) := by decide +kernel
theorem dX5_back_16 : decode cX5_back 16 = .ok (.iand, 1) := by decide +kernel
theorem dX5_back_17 : decode cX5_back 17 = .ok (.ifCond .ne 6, 3) := by decide +kernel
theorem dX5_back_20 : decode cX5_back 20 = .ok (.bipush (-2), 2) := by decide +kernel
theorem dX5_back_22 : decode cX5_back 22 = .ok (.ireturn, 1) := by decide +kernel
theorem dX5_back_23 : decode cX5_back 23 = .ok (.aload_n 0, 1) := by decide +kernel
theorem dX5_back_24 : decode cX5_back 24 = .ok (.invokevirtual 98, 3) := by decide +kernel
theorem dX5_back_27 : decode cX5_back 27 = .ok (.iconst 0, 1) := by decide +kernel
theorem dX5_back_28 : decode cX5_back 28 = .ok (.istore_n 2, 1) := by decide +kernel
theorem dX5_back_29 : decode cX5_back 29 = .ok (.iload_n 2, 1) := by decide +kernel
theorem dX5_back_30 : decode cX5_back 30 = .ok (.bipush 107, 2) := by decide +kernel
theorem dX5_back_32 : decode cX5_back 32 = .ok (.if_icmp .ge 26, 3) := by decide +kernel
theorem dX5_back_35 : decode cX5_back 35 = .ok (.aload_n 0, 1) := by decide +kernel
theorem dX5_back_36 : decode cX5_back 36 = .ok (.getfield 7, 3) := by decide +kernel
theorem dX5_back_39 : decode cX5_back 39 = .ok (.iload_n 2, 1) := by decide +kernel
theorem dX5_back_40 : decode cX5_back 40 = .ok (.aload_n 0, 1) := by decide +kernel
theorem dX5_back_41 : decode cX5_back 41 = .ok (.getfield 16, 3) := by decide +kernel
theorem dX5_back_44 : decode cX5_back 44 = .ok (.bipush 107, 2) := by decide +kernel
theorem dX5_back_46 : decode cX5_back 46 = .ok (.iload_n 1, 1) := by decide +kernel
theorem dX5_back_47 : decode cX5_back 47 = .ok (.imul, 1) := by decide +kernel
theorem dX5_back_48 : decode cX5_back 48 = .ok (.iload_n 2, 1) := by decide +kernel
theorem dX5_back_49 : decode cX5_back 49 = .ok (.iadd, 1) := by decide +kernel
theorem dX5_back_50 : decode cX5_back 50 = .ok (.iaload, 1) := by decide +kernel
theorem dX5_back_51 : decode cX5_back 51 = .ok (.iastore, 1) := by decide +kernel
theorem dX5_back_52 : decode cX5_back 52 = .ok (.iinc 2 1, 3) := by decide +kernel
theorem dX5_back_55 : decode cX5_back 55 = .ok (.goto (-26), 3) := by decide +kernel
theorem dX5_back_58 : decode cX5_back 58 = .ok (.aload_n 0, 1) := by decide +kernel
theorem dX5_back_59 : decode cX5_back 59 = .ok (.getfield 7, 3) := by decide +kernel
theorem dX5_back_62 : decode cX5_back 62 = .ok (.bipush 74, 2) := by decide +kernel
theorem dX5_back_64 : decode cX5_back 64 = .ok (.iaload, 1) := by decide +kernel
theorem dX5_back_65 : decode cX5_back 65 = .ok (.ireturn, 1) := by decide +kernel
end
section
/-! Java's numbers as whole numbers: an int is iI z, a long is lI z, for a whole number z; a row of ints is aI f for f over whole numbers -/
def iI (z : Int) : Int32 := Int32.ofInt z
def lI (z : Int) : Int64 := Int64.ofInt z
def aI (f : Int → Int) : Nat → Int32 := fun k => iI (f (k : Int))
def aL (f : Int → Int) : Nat → Int64 := fun k => lI (f (k : Int))
def ups (f : Int → Int) (i v : Int) : Int → Int := fun j => if j = i then v else f j
theorem ups_s (f : Int → Int) (i v : Int) : ups f i v i = v := if_pos rfl
theorem ups_n (f : Int → Int) {i j : Int} (v : Int) (h : j ≠ i) : ups f i v j = f j := if_neg h
theorem iI_add (a b : Int) : iI a + iI b = iI (a + b) := (Int32.ofInt_add a b).symm
theorem iI_sub (a b : Int) : iI a - iI b = iI (a - b) := (Int32.ofInt_sub a b).symm
theorem iI_mul (a b : Int) : iI a * iI b = iI (a * b) := (Int32.ofInt_mul a b).symm
theorem iI_neg (a : Int) : -iI a = iI (-a) := (Int32.ofInt_neg a).symm
theorem lI_add (a b : Int) : lI a + lI b = lI (a + b) := (Int64.ofInt_add a b).symm
theorem lI_sub (a b : Int) : lI a - lI b = lI (a - b) := (Int64.ofInt_sub a b).symm
theorem lI_mul (a b : Int) : lI a * lI b = lI (a * b) := (Int64.ofInt_mul a b).symm
theorem lI_neg (a : Int) : -lI a = lI (-a) := (Int64.ofInt_neg a).symm
theorem iI_toInt {a : Int} (h : -2147483648 ≤ a ∧ a < 2147483648) : (iI a).toInt = a := Int32.toInt_ofInt_of_le (by omega) (by omega)
theorem lI_toInt {a : Int} (h : -9223372036854775808 ≤ a ∧ a < 9223372036854775808) : (lI a).toInt = a := Int64.toInt_ofInt_of_le (by omega) (by omega)
theorem iI_of (x : Int32) : iI x.toInt = x := Int32.ofInt_toInt x
theorem iI_rng (x : Int32) : -2147483648 ≤ x.toInt ∧ x.toInt < 2147483648 := ⟨by have := Int32.le_toInt x; omega, by have := Int32.toInt_lt x; omega⟩
theorem iI_lt {a b : Int} (h : -2147483648 ≤ a ∧ a < 2147483648 ∧ -2147483648 ≤ b ∧ b < 2147483648) : iI a < iI b ↔ a < b := by
  rw [Int32.lt_iff_toInt_lt, iI_toInt ⟨h.1, h.2.1⟩, iI_toInt h.2.2]
theorem iI_le {a b : Int} (h : -2147483648 ≤ a ∧ a < 2147483648 ∧ -2147483648 ≤ b ∧ b < 2147483648) : iI a ≤ iI b ↔ a ≤ b := by
  rw [Int32.le_iff_toInt_le, iI_toInt ⟨h.1, h.2.1⟩, iI_toInt h.2.2]
theorem iI_eq {a b : Int} (h : -2147483648 ≤ a ∧ a < 2147483648 ∧ -2147483648 ≤ b ∧ b < 2147483648) : iI a = iI b ↔ a = b := by
  rw [← Int32.toInt_inj, iI_toInt ⟨h.1, h.2.1⟩, iI_toInt h.2.2]
theorem lI_lt {a b : Int} (h : -9223372036854775808 ≤ a ∧ a < 9223372036854775808 ∧ -9223372036854775808 ≤ b ∧ b < 9223372036854775808) : lI a < lI b ↔ a < b := by
  rw [Int64.lt_iff_toInt_lt, lI_toInt ⟨h.1, h.2.1⟩, lI_toInt h.2.2]
theorem lI_eq {a b : Int} (h : -9223372036854775808 ≤ a ∧ a < 9223372036854775808 ∧ -9223372036854775808 ≤ b ∧ b < 9223372036854775808) : lI a = lI b ↔ a = b := by
  rw [← Int64.toInt_inj, lI_toInt ⟨h.1, h.2.1⟩, lI_toInt h.2.2]
theorem iI_div {a b : Int} (h : 0 ≤ a ∧ a < 2147483648 ∧ 0 < b ∧ b < 2147483648) : iI a / iI b = iI (a / b) := by
  apply Int32.toInt_inj.mp
  have hd : 0 ≤ a / b := Int.ediv_nonneg h.1 (by omega)
  have hd2 : a / b ≤ a := Int.ediv_le_self b h.1
  have e1 : (iI a).toInt = a := iI_toInt ⟨by omega, by omega⟩
  have e2 : (iI b).toInt = b := iI_toInt ⟨by omega, by omega⟩
  rw [Int32.toInt_div_of_ne_right _ _ (fun q => by rw [q] at e2; have : ((-1 : Int32)).toInt = -1 := rfl; omega), e1, e2, Int.tdiv_eq_ediv_of_nonneg h.1, iI_toInt ⟨by omega, by omega⟩]
theorem lI_div {a b : Int} (h : 0 ≤ a ∧ a < 9223372036854775808 ∧ 0 < b ∧ b < 9223372036854775808) : lI a / lI b = lI (a / b) := by
  apply Int64.toInt_inj.mp
  have hd : 0 ≤ a / b := Int.ediv_nonneg h.1 (by omega)
  have hd2 : a / b ≤ a := Int.ediv_le_self b h.1
  have e1 : (lI a).toInt = a := lI_toInt ⟨by omega, by omega⟩
  have e2 : (lI b).toInt = b := lI_toInt ⟨by omega, by omega⟩
  rw [Int64.toInt_div_of_ne_right _ _ (fun q => by rw [q] at e2; have : ((-1 : Int64)).toInt = -1 := rfl; omega), e1, e2, Int.tdiv_eq_ediv_of_nonneg h.1, lI_toInt ⟨by omega, by omega⟩]
theorem iI_rem {a b : Int} (h : 0 ≤ a ∧ a < 2147483648 ∧ 0 < b ∧ b < 2147483648) : iI a - iI a / iI b * iI b = iI (a % b) := by
  rw [iI_div h, iI_mul, iI_sub]
  congr 1
  have := Int.mul_ediv_add_emod a b
  have e := Int.mul_comm (a / b) b
  omega
theorem lI_rem {a b : Int} (h : 0 ≤ a ∧ a < 9223372036854775808 ∧ 0 < b ∧ b < 9223372036854775808) : lI a - lI a / lI b * lI b = lI (a % b) := by
  rw [lI_div h, lI_mul, lI_sub]
  congr 1
  have := Int.mul_ediv_add_emod a b
  have e := Int.mul_comm (a / b) b
  omega
theorem iI_l {a : Int} (h : -2147483648 ≤ a ∧ a < 2147483648) : (iI a).toInt64 = lI a := by
  apply Int64.toInt_inj.mp
  rw [Int32.toInt_toInt64, iI_toInt h, lI_toInt ⟨by omega, by omega⟩]
theorem lI_i (a : Int) : (lI a).toInt32 = iI a := Int64.toInt32_ofInt
theorem iI_in {i : Int} {n : Nat} (hn : n < 2147483648) (h : 0 ≤ i ∧ i < (n : Int)) : vp_in (iI i) n := by
  rw [vp_in_iff, iI_toInt ⟨by omega, by omega⟩]
  exact h
theorem iI_cl {i : Int} (h : 0 ≤ i ∧ i < 2147483648) : (((iI i).toNatClampNeg : Nat) : Int) = i := by
  show (((iI i).toInt.toNat : Nat) : Int) = i
  rw [iI_toInt ⟨by omega, by omega⟩]
  omega
theorem aI_at (f : Int → Int) {i : Int} (h : 0 ≤ i ∧ i < 2147483648) : aI f (iI i).toNatClampNeg = iI (f i) := by
  unfold aI
  rw [iI_cl h]
theorem aL_at (f : Int → Int) {i : Int} (h : 0 ≤ i ∧ i < 2147483648) : aL f (iI i).toNatClampNeg = lI (f i) := by
  unfold aL
  rw [iI_cl h]
theorem aI_up (f : Int → Int) {i : Int} (v : Int) (h : 0 ≤ i ∧ i < 2147483648) : upd (aI f) (iI i).toNatClampNeg (iI v) = aI (ups f i v) := by
  funext k
  have e := iI_cl h
  unfold upd aI ups
  by_cases hk : k = (iI i).toNatClampNeg
  · rw [if_pos hk, if_pos (by omega)]
  · rw [if_neg hk, if_neg (by omega)]
theorem aL_up (f : Int → Int) {i : Int} (v : Int) (h : 0 ≤ i ∧ i < 2147483648) : vp_updL (aL f) (iI i).toNatClampNeg (lI v) = aL (ups f i v) := by
  funext k
  have e := iI_cl h
  unfold vp_updL aL ups
  by_cases hk : k = (iI i).toNatClampNeg
  · rw [if_pos hk, if_pos (by omega)]
  · rw [if_neg hk, if_neg (by omega)]
section TROWS
variable {p : Program} {l : Launch} {e : Env} {R : Room} {s : State} {m : MethodId} {args : Array Value} {below : List Frame} {meth : Method} {c : Code} {H : Heap} {locs : List Loc} {cells slots : Nat} {Q : State → Prop}
variable {cc : ByteArray} {pc : Nat} {ls : Array Slot} {rest : List Value}
theorem zt_iadd (hx : p.tables.exec = Jvm.exec) (hb : c.code = cc) {a b : Int} (hdg : decode cc pc = .ok (.iadd, 1)) (k : W p l e R s m args below meth c H locs cells slots Q (F0 m (pc + 1) ls (.int (iI (a + b)) :: rest))) : W p l e R s m args below meth c H locs cells slots Q (F0 m pc ls (.int (iI b) :: .int (iI a) :: rest)) := lv_iadd hx hb hdg (by rw [iI_add]; exact k)
theorem zt_isub (hx : p.tables.exec = Jvm.exec) (hb : c.code = cc) {a b : Int} (hdg : decode cc pc = .ok (.isub, 1)) (k : W p l e R s m args below meth c H locs cells slots Q (F0 m (pc + 1) ls (.int (iI (a - b)) :: rest))) : W p l e R s m args below meth c H locs cells slots Q (F0 m pc ls (.int (iI b) :: .int (iI a) :: rest)) := lv_isub hx hb hdg (by rw [iI_sub]; exact k)
theorem zt_imul (hx : p.tables.exec = Jvm.exec) (hb : c.code = cc) {a b : Int} (hdg : decode cc pc = .ok (.imul, 1)) (k : W p l e R s m args below meth c H locs cells slots Q (F0 m (pc + 1) ls (.int (iI (a * b)) :: rest))) : W p l e R s m args below meth c H locs cells slots Q (F0 m pc ls (.int (iI b) :: .int (iI a) :: rest)) := lv_imul hx hb hdg (by rw [iI_mul]; exact k)
theorem zt_idiv (hx : p.tables.exec = Jvm.exec) (hb : c.code = cc) {a b : Int} (h : 0 ≤ a ∧ a < 2147483648 ∧ 0 < b ∧ b < 2147483648) (hdg : decode cc pc = .ok (.idiv, 1)) (k : W p l e R s m args below meth c H locs cells slots Q (F0 m (pc + 1) ls (.int (iI (a / b)) :: rest))) : W p l e R s m args below meth c H locs cells slots Q (F0 m pc ls (.int (iI b) :: .int (iI a) :: rest)) :=
  lv_idiv hx hb hdg (fun q => by rw [show (0 : Int32) = iI 0 from rfl, iI_eq ⟨by omega, by omega, by omega, by omega⟩] at q; omega) (by rw [iI_div h]; exact k)
theorem zt_irem (hx : p.tables.exec = Jvm.exec) (hb : c.code = cc) {a b : Int} (h : 0 ≤ a ∧ a < 2147483648 ∧ 0 < b ∧ b < 2147483648) (hdg : decode cc pc = .ok (.irem, 1)) (k : W p l e R s m args below meth c H locs cells slots Q (F0 m (pc + 1) ls (.int (iI (a % b)) :: rest))) : W p l e R s m args below meth c H locs cells slots Q (F0 m pc ls (.int (iI b) :: .int (iI a) :: rest)) :=
  lv_irem hx hb hdg (fun q => by rw [show (0 : Int32) = iI 0 from rfl, iI_eq ⟨by omega, by omega, by omega, by omega⟩] at q; omega) (by rw [iI_rem h]; exact k)
theorem zt_ladd (hx : p.tables.exec = Jvm.exec) (hb : c.code = cc) {a b : Int} (hdg : decode cc pc = .ok (.ladd, 1)) (k : W p l e R s m args below meth c H locs cells slots Q (F0 m (pc + 1) ls (.long (lI (a + b)) :: rest))) : W p l e R s m args below meth c H locs cells slots Q (F0 m pc ls (.long (lI b) :: .long (lI a) :: rest)) := lv_ladd hx hb hdg (by rw [lI_add]; exact k)
theorem zt_lsub (hx : p.tables.exec = Jvm.exec) (hb : c.code = cc) {a b : Int} (hdg : decode cc pc = .ok (.lsub, 1)) (k : W p l e R s m args below meth c H locs cells slots Q (F0 m (pc + 1) ls (.long (lI (a - b)) :: rest))) : W p l e R s m args below meth c H locs cells slots Q (F0 m pc ls (.long (lI b) :: .long (lI a) :: rest)) := lv_lsub hx hb hdg (by rw [lI_sub]; exact k)
theorem zt_lmul (hx : p.tables.exec = Jvm.exec) (hb : c.code = cc) {a b : Int} (hdg : decode cc pc = .ok (.lmul, 1)) (k : W p l e R s m args below meth c H locs cells slots Q (F0 m (pc + 1) ls (.long (lI (a * b)) :: rest))) : W p l e R s m args below meth c H locs cells slots Q (F0 m pc ls (.long (lI b) :: .long (lI a) :: rest)) := lv_lmul hx hb hdg (by rw [lI_mul]; exact k)
theorem zt_lneg (hx : p.tables.exec = Jvm.exec) (hb : c.code = cc) {a : Int} (hdg : decode cc pc = .ok (.lneg, 1)) (k : W p l e R s m args below meth c H locs cells slots Q (F0 m (pc + 1) ls (.long (lI (-a)) :: rest))) : W p l e R s m args below meth c H locs cells slots Q (F0 m pc ls (.long (lI a) :: rest)) := lv_lneg hx hb hdg (by first | (rw [lI_neg]; exact k) | (rw [Int64.zero_sub, lI_neg]; exact k))
theorem zt_ldiv (hx : p.tables.exec = Jvm.exec) (hb : c.code = cc) {a b : Int} (h : 0 ≤ a ∧ a < 9223372036854775808 ∧ 0 < b ∧ b < 9223372036854775808) (hdg : decode cc pc = .ok (.ldiv, 1)) (k : W p l e R s m args below meth c H locs cells slots Q (F0 m (pc + 1) ls (.long (lI (a / b)) :: rest))) : W p l e R s m args below meth c H locs cells slots Q (F0 m pc ls (.long (lI b) :: .long (lI a) :: rest)) :=
  lv_ldiv hx hb hdg (fun q => by rw [show (0 : Int64) = lI 0 from rfl, lI_eq ⟨by omega, by omega, by omega, by omega⟩] at q; omega) (by rw [lI_div h]; exact k)
theorem zt_lrem (hx : p.tables.exec = Jvm.exec) (hb : c.code = cc) {a b : Int} (h : 0 ≤ a ∧ a < 9223372036854775808 ∧ 0 < b ∧ b < 9223372036854775808) (hdg : decode cc pc = .ok (.lrem, 1)) (k : W p l e R s m args below meth c H locs cells slots Q (F0 m (pc + 1) ls (.long (lI (a % b)) :: rest))) : W p l e R s m args below meth c H locs cells slots Q (F0 m pc ls (.long (lI b) :: .long (lI a) :: rest)) :=
  lv_lrem hx hb hdg (fun q => by rw [show (0 : Int64) = lI 0 from rfl, lI_eq ⟨by omega, by omega, by omega, by omega⟩] at q; omega) (by rw [lI_rem h]; exact k)
theorem zt_i2l (hx : p.tables.exec = Jvm.exec) (hb : c.code = cc) {a : Int} (h : -2147483648 ≤ a ∧ a < 2147483648) (hdg : decode cc pc = .ok (.i2l, 1)) (k : W p l e R s m args below meth c H locs cells slots Q (F0 m (pc + 1) ls (.long (lI a) :: rest))) : W p l e R s m args below meth c H locs cells slots Q (F0 m pc ls (.int (iI a) :: rest)) := lv_i2l hx hb hdg (iI_l h) k
theorem zt_l2i (hx : p.tables.exec = Jvm.exec) (hb : c.code = cc) {a : Int} (hdg : decode cc pc = .ok (.l2i, 1)) (k : W p l e R s m args below meth c H locs cells slots Q (F0 m (pc + 1) ls (.int (iI a) :: rest))) : W p l e R s m args below meth c H locs cells slots Q (F0 m pc ls (.long (lI a) :: rest)) := lv_l2i hx hb hdg (lI_i a) k
/-- the number on top by another name for it -/
theorem zt_nm {a b : Int} (h : a = b) (k : W p l e R s m args below meth c H locs cells slots Q (F0 m pc ls (.int (iI b) :: rest))) : W p l e R s m args below meth c H locs cells slots Q (F0 m pc ls (.int (iI a) :: rest)) := h ▸ k
theorem zt_nml {a b : Int} (h : a = b) (k : W p l e R s m args below meth c H locs cells slots Q (F0 m pc ls (.long (lI b) :: rest))) : W p l e R s m args below meth c H locs cells slots Q (F0 m pc ls (.long (lI a) :: rest)) := h ▸ k
theorem zt_icmp_lt (hx : p.tables.exec = Jvm.exec) (hb : c.code = cc) {a b : Int} {off : Int} {tgt : Nat} (h : -2147483648 ≤ a ∧ a < 2147483648 ∧ -2147483648 ≤ b ∧ b < 2147483648) (hdg : decode cc pc = .ok (.if_icmp .lt off, 3)) (ht : (pc : Int) + off = (tgt : Int)) (kt : a < b → W p l e R s m args below meth c H locs cells slots Q (F0 m tgt ls rest)) (kf : b ≤ a → W p l e R s m args below meth c H locs cells slots Q (F0 m (pc + 3) ls rest)) : W p l e R s m args below meth c H locs cells slots Q (F0 m pc ls (.int (iI b) :: .int (iI a) :: rest)) :=
  lv_icmp_lt hx hb hdg ht (fun q => kt ((iI_lt h).mp q)) (fun q => kf (by have := mt (iI_lt h).mpr q; omega))
theorem zt_icmp_ge (hx : p.tables.exec = Jvm.exec) (hb : c.code = cc) {a b : Int} {off : Int} {tgt : Nat} (h : -2147483648 ≤ a ∧ a < 2147483648 ∧ -2147483648 ≤ b ∧ b < 2147483648) (hdg : decode cc pc = .ok (.if_icmp .ge off, 3)) (ht : (pc : Int) + off = (tgt : Int)) (kt : b ≤ a → W p l e R s m args below meth c H locs cells slots Q (F0 m tgt ls rest)) (kf : a < b → W p l e R s m args below meth c H locs cells slots Q (F0 m (pc + 3) ls rest)) : W p l e R s m args below meth c H locs cells slots Q (F0 m pc ls (.int (iI b) :: .int (iI a) :: rest)) :=
  lv_icmp_ge hx hb hdg ht (fun q => kt ((iI_le ⟨h.2.2.1, h.2.2.2, h.1, h.2.1⟩).mp q)) (fun q => kf (by have := mt (iI_le ⟨h.2.2.1, h.2.2.2, h.1, h.2.1⟩).mpr q; omega))
theorem zt_icmp_gt (hx : p.tables.exec = Jvm.exec) (hb : c.code = cc) {a b : Int} {off : Int} {tgt : Nat} (h : -2147483648 ≤ a ∧ a < 2147483648 ∧ -2147483648 ≤ b ∧ b < 2147483648) (hdg : decode cc pc = .ok (.if_icmp .gt off, 3)) (ht : (pc : Int) + off = (tgt : Int)) (kt : b < a → W p l e R s m args below meth c H locs cells slots Q (F0 m tgt ls rest)) (kf : a ≤ b → W p l e R s m args below meth c H locs cells slots Q (F0 m (pc + 3) ls rest)) : W p l e R s m args below meth c H locs cells slots Q (F0 m pc ls (.int (iI b) :: .int (iI a) :: rest)) :=
  lv_icmp_gt hx hb hdg ht (fun q => kt ((iI_lt ⟨h.2.2.1, h.2.2.2, h.1, h.2.1⟩).mp q)) (fun q => kf (by have := mt (iI_lt ⟨h.2.2.1, h.2.2.2, h.1, h.2.1⟩).mpr q; omega))
theorem zt_icmp_le (hx : p.tables.exec = Jvm.exec) (hb : c.code = cc) {a b : Int} {off : Int} {tgt : Nat} (h : -2147483648 ≤ a ∧ a < 2147483648 ∧ -2147483648 ≤ b ∧ b < 2147483648) (hdg : decode cc pc = .ok (.if_icmp .le off, 3)) (ht : (pc : Int) + off = (tgt : Int)) (kt : a ≤ b → W p l e R s m args below meth c H locs cells slots Q (F0 m tgt ls rest)) (kf : b < a → W p l e R s m args below meth c H locs cells slots Q (F0 m (pc + 3) ls rest)) : W p l e R s m args below meth c H locs cells slots Q (F0 m pc ls (.int (iI b) :: .int (iI a) :: rest)) :=
  lv_icmp_le hx hb hdg ht (fun q => kt ((iI_le h).mp q)) (fun q => kf (by have := mt (iI_le h).mpr q; omega))
theorem zt_icmp_eq (hx : p.tables.exec = Jvm.exec) (hb : c.code = cc) {a b : Int} {off : Int} {tgt : Nat} (h : -2147483648 ≤ a ∧ a < 2147483648 ∧ -2147483648 ≤ b ∧ b < 2147483648) (hdg : decode cc pc = .ok (.if_icmp .eq off, 3)) (ht : (pc : Int) + off = (tgt : Int)) (kt : a = b → W p l e R s m args below meth c H locs cells slots Q (F0 m tgt ls rest)) (kf : a ≠ b → W p l e R s m args below meth c H locs cells slots Q (F0 m (pc + 3) ls rest)) : W p l e R s m args below meth c H locs cells slots Q (F0 m pc ls (.int (iI b) :: .int (iI a) :: rest)) :=
  lv_icmp_eq hx hb hdg ht (fun q => kt ((iI_eq h).mp q)) (fun q => kf (mt (iI_eq h).mpr q))
theorem zt_icmp_ne (hx : p.tables.exec = Jvm.exec) (hb : c.code = cc) {a b : Int} {off : Int} {tgt : Nat} (h : -2147483648 ≤ a ∧ a < 2147483648 ∧ -2147483648 ≤ b ∧ b < 2147483648) (hdg : decode cc pc = .ok (.if_icmp .ne off, 3)) (ht : (pc : Int) + off = (tgt : Int)) (kt : a ≠ b → W p l e R s m args below meth c H locs cells slots Q (F0 m tgt ls rest)) (kf : a = b → W p l e R s m args below meth c H locs cells slots Q (F0 m (pc + 3) ls rest)) : W p l e R s m args below meth c H locs cells slots Q (F0 m pc ls (.int (iI b) :: .int (iI a) :: rest)) :=
  lv_icmp_ne hx hb hdg ht (fun q => kt (mt (iI_eq h).mpr q)) (fun q => kf ((iI_eq h).mp q))
theorem zt_if_eq (hx : p.tables.exec = Jvm.exec) (hb : c.code = cc) {a : Int} {off : Int} {tgt : Nat} (h : -2147483648 ≤ a ∧ a < 2147483648) (hdg : decode cc pc = .ok (.ifCond .eq off, 3)) (ht : (pc : Int) + off = (tgt : Int)) (kt : a = 0 → W p l e R s m args below meth c H locs cells slots Q (F0 m tgt ls rest)) (kf : a ≠ 0 → W p l e R s m args below meth c H locs cells slots Q (F0 m (pc + 3) ls rest)) : W p l e R s m args below meth c H locs cells slots Q (F0 m pc ls (.int (iI a) :: rest)) :=
  lv_if_eq hx hb hdg ht (fun q => kt ((iI_eq (b := 0) ⟨h.1, h.2, by omega, by omega⟩).mp q)) (fun q => kf (mt (iI_eq (b := 0) ⟨h.1, h.2, by omega, by omega⟩).mpr q))
theorem zt_if_ne (hx : p.tables.exec = Jvm.exec) (hb : c.code = cc) {a : Int} {off : Int} {tgt : Nat} (h : -2147483648 ≤ a ∧ a < 2147483648) (hdg : decode cc pc = .ok (.ifCond .ne off, 3)) (ht : (pc : Int) + off = (tgt : Int)) (kt : a ≠ 0 → W p l e R s m args below meth c H locs cells slots Q (F0 m tgt ls rest)) (kf : a = 0 → W p l e R s m args below meth c H locs cells slots Q (F0 m (pc + 3) ls rest)) : W p l e R s m args below meth c H locs cells slots Q (F0 m pc ls (.int (iI a) :: rest)) :=
  lv_if_ne hx hb hdg ht (fun q => kt (mt (iI_eq (b := 0) ⟨h.1, h.2, by omega, by omega⟩).mpr q)) (fun q => kf ((iI_eq (b := 0) ⟨h.1, h.2, by omega, by omega⟩).mp q))
theorem zt_if_lt (hx : p.tables.exec = Jvm.exec) (hb : c.code = cc) {a : Int} {off : Int} {tgt : Nat} (h : -2147483648 ≤ a ∧ a < 2147483648) (hdg : decode cc pc = .ok (.ifCond .lt off, 3)) (ht : (pc : Int) + off = (tgt : Int)) (kt : a < 0 → W p l e R s m args below meth c H locs cells slots Q (F0 m tgt ls rest)) (kf : 0 ≤ a → W p l e R s m args below meth c H locs cells slots Q (F0 m (pc + 3) ls rest)) : W p l e R s m args below meth c H locs cells slots Q (F0 m pc ls (.int (iI a) :: rest)) :=
  lv_if_lt hx hb hdg ht (fun q => kt ((iI_lt (b := 0) ⟨h.1, h.2, by omega, by omega⟩).mp q)) (fun q => kf (by have := mt (iI_lt (b := 0) ⟨h.1, h.2, by omega, by omega⟩).mpr q; omega))
theorem zt_if_ge (hx : p.tables.exec = Jvm.exec) (hb : c.code = cc) {a : Int} {off : Int} {tgt : Nat} (h : -2147483648 ≤ a ∧ a < 2147483648) (hdg : decode cc pc = .ok (.ifCond .ge off, 3)) (ht : (pc : Int) + off = (tgt : Int)) (kt : 0 ≤ a → W p l e R s m args below meth c H locs cells slots Q (F0 m tgt ls rest)) (kf : a < 0 → W p l e R s m args below meth c H locs cells slots Q (F0 m (pc + 3) ls rest)) : W p l e R s m args below meth c H locs cells slots Q (F0 m pc ls (.int (iI a) :: rest)) :=
  lv_if_ge hx hb hdg ht (fun q => kt ((iI_le (a := 0) (b := a) ⟨by omega, by omega, h.1, h.2⟩).mp q)) (fun q => kf (by have := mt (iI_le (a := 0) (b := a) ⟨by omega, by omega, h.1, h.2⟩).mpr q; omega))
theorem zt_if_gt (hx : p.tables.exec = Jvm.exec) (hb : c.code = cc) {a : Int} {off : Int} {tgt : Nat} (h : -2147483648 ≤ a ∧ a < 2147483648) (hdg : decode cc pc = .ok (.ifCond .gt off, 3)) (ht : (pc : Int) + off = (tgt : Int)) (kt : 0 < a → W p l e R s m args below meth c H locs cells slots Q (F0 m tgt ls rest)) (kf : a ≤ 0 → W p l e R s m args below meth c H locs cells slots Q (F0 m (pc + 3) ls rest)) : W p l e R s m args below meth c H locs cells slots Q (F0 m pc ls (.int (iI a) :: rest)) :=
  lv_if_gt hx hb hdg ht (fun q => kt ((iI_lt (a := 0) (b := a) ⟨by omega, by omega, h.1, h.2⟩).mp q)) (fun q => kf (by have := mt (iI_lt (a := 0) (b := a) ⟨by omega, by omega, h.1, h.2⟩).mpr q; omega))
theorem zt_if_le (hx : p.tables.exec = Jvm.exec) (hb : c.code = cc) {a : Int} {off : Int} {tgt : Nat} (h : -2147483648 ≤ a ∧ a < 2147483648) (hdg : decode cc pc = .ok (.ifCond .le off, 3)) (ht : (pc : Int) + off = (tgt : Int)) (kt : a ≤ 0 → W p l e R s m args below meth c H locs cells slots Q (F0 m tgt ls rest)) (kf : 0 < a → W p l e R s m args below meth c H locs cells slots Q (F0 m (pc + 3) ls rest)) : W p l e R s m args below meth c H locs cells slots Q (F0 m pc ls (.int (iI a) :: rest)) :=
  lv_if_le hx hb hdg ht (fun q => kt ((iI_le (b := 0) ⟨h.1, h.2, by omega, by omega⟩).mp q)) (fun q => kf (by have := mt (iI_le (b := 0) ⟨h.1, h.2, by omega, by omega⟩).mpr q; omega))
/-- a truth value, 1 or 0, and a jump on it -/
theorem zt_ifb_eq (hx : p.tables.exec = Jvm.exec) (hb : c.code = cc) {P : Prop} {v : Int} (hv : (P ∧ v = 1) ∨ (¬ P ∧ v = 0)) {off : Int} {tgt : Nat} (hdg : decode cc pc = .ok (.ifCond .eq off, 3)) (ht : (pc : Int) + off = (tgt : Int)) (kt : ¬ P → W p l e R s m args below meth c H locs cells slots Q (F0 m tgt ls rest)) (kf : P → W p l e R s m args below meth c H locs cells slots Q (F0 m (pc + 3) ls rest)) : W p l e R s m args below meth c H locs cells slots Q (F0 m pc ls (.int (iI v) :: rest)) :=
  zt_if_eq hx hb (by omega) hdg ht (fun q => kt (hv.elim (fun h => absurd q (by omega)) (fun h => h.1))) (fun q => kf (hv.elim (fun h => h.1) (fun h => absurd h.2 q)))
theorem zt_ifb_ne (hx : p.tables.exec = Jvm.exec) (hb : c.code = cc) {P : Prop} {v : Int} (hv : (P ∧ v = 1) ∨ (¬ P ∧ v = 0)) {off : Int} {tgt : Nat} (hdg : decode cc pc = .ok (.ifCond .ne off, 3)) (ht : (pc : Int) + off = (tgt : Int)) (kt : P → W p l e R s m args below meth c H locs cells slots Q (F0 m tgt ls rest)) (kf : ¬ P → W p l e R s m args below meth c H locs cells slots Q (F0 m (pc + 3) ls rest)) : W p l e R s m args below meth c H locs cells slots Q (F0 m pc ls (.int (iI v) :: rest)) :=
  zt_if_ne hx hb (by omega) hdg ht (fun q => kt (hv.elim (fun h => h.1) (fun h => absurd h.2 q))) (fun q => kf (hv.elim (fun h => absurd q (by omega)) (fun h => h.1)))
theorem lI_cmp {a b : Int} (h : -9223372036854775808 ≤ a ∧ a < 9223372036854775808 ∧ -9223372036854775808 ≤ b ∧ b < 9223372036854775808) : (b < a ∧ lg_cmp (lI a) (lI b) = iI 1) ∨ (a = b ∧ lg_cmp (lI a) (lI b) = iI 0) ∨ (a < b ∧ lg_cmp (lI a) (lI b) = iI (-1)) := by
  have h1 : lI b < lI a ↔ b < a := lI_lt ⟨h.2.2.1, h.2.2.2, h.1, h.2.1⟩
  have h2 : lI a = lI b ↔ a = b := lI_eq h
  have h3 : lI a < lI b ↔ a < b := lI_lt h
  rcases Int.lt_trichotomy a b with q | q | q
  · exact Or.inr (Or.inr ⟨q, by simp [lg_cmp, h1, h2, h3, q, Int.not_lt.mpr (Int.le_of_lt q), Int.ne_of_lt q]; rfl⟩)
  · exact Or.inr (Or.inl ⟨q, by subst q; simp [lg_cmp]; try rfl⟩)
  · exact Or.inl ⟨q, by simp [lg_cmp, h1, h2, h3, q]; rfl⟩
/-- lcmp, then: what stands on the stack is d, a number with the order of a and b -/
theorem zt_lcmp (hx : p.tables.exec = Jvm.exec) (hb : c.code = cc) {a b : Int} (h : -9223372036854775808 ≤ a ∧ a < 9223372036854775808 ∧ -9223372036854775808 ≤ b ∧ b < 9223372036854775808) (hdg : decode cc pc = .ok (.lcmp, 1)) (k : ∀ d : Int, (-1 ≤ d ∧ d ≤ 1 ∧ (0 < d ↔ b < a) ∧ (d < 0 ↔ a < b)) → W p l e R s m args below meth c H locs cells slots Q (F0 m (pc + 1) ls (.int (iI d) :: rest))) : W p l e R s m args below meth c H locs cells slots Q (F0 m pc ls (.long (lI b) :: .long (lI a) :: rest)) := by
  refine W.lcmp hx hb hdg ?_
  rcases lI_cmp h with ⟨q, e⟩ | ⟨q, e⟩ | ⟨q, e⟩
  · rw [e]; exact k 1 (by omega)
  · rw [e]; exact k 0 (by omega)
  · rw [e]; exact k (-1) (by omega)
end TROWS
end
section
/-! a world that a function lays out: what it holds (σ: by component and place) names the cells (wf σ); contracts over it, calls with it, ends of methods -/
abbrev gW (G : va_G) (tys : List (ClassId × FieldType)) (A : Nat → Prop) (wf : (Nat → Int → Int) → va_W) (σ : Nat → Int → Int) (U : State) : Prop := va_P G vwCl (wf σ) U.heap ∧ va_K G vwCl tys U ∧ va_D A (wf σ)
def st (σ : Nat → Int → Int) (c : Nat) (i v : Int) : Nat → Int → Int := fun d => bif Nat.beq d c then ups (σ c) i v else σ d
def sc (σ : Nat → Int → Int) (c : Nat) (f : Int → Int) : Nat → Int → Int := fun d => bif Nat.beq d c then f else σ d
theorem st_s (σ : Nat → Int → Int) (c : Nat) (i v : Int) : st σ c i v c = ups (σ c) i v := by unfold st; rw [Nat.beq_refl]; rfl
theorem st_d (σ : Nat → Int → Int) {c d : Nat} (i v : Int) (h : d ≠ c) : st σ c i v d = σ d := by
  unfold st
  cases q : Nat.beq d c
  · rfl
  · exact absurd (Nat.eq_of_beq_eq_true q) h
theorem st_a (σ : Nat → Int → Int) (c d : Nat) (i v k : Int) : st σ c i v d k = if d = c ∧ k = i then v else σ d k := by
  by_cases h : d = c
  · subst h
    rw [st_s]
    unfold ups
    by_cases h2 : k = i
    · rw [if_pos h2, if_pos ⟨rfl, h2⟩]
    · rw [if_neg h2, if_neg (fun q => h2 q.2)]
  · rw [st_d _ _ _ h, if_neg (fun q => h q.1)]
theorem sc_s (σ : Nat → Int → Int) (c : Nat) (f : Int → Int) : sc σ c f c = f := by unfold sc; rw [Nat.beq_refl]; rfl
theorem sc_d (σ : Nat → Int → Int) {c d : Nat} (f : Int → Int) (h : d ≠ c) : sc σ c f d = σ d := by
  unfold sc
  cases q : Nat.beq d c
  · rfl
  · exact absurd (Nat.eq_of_beq_eq_true q) h
/-- rows that agree where they are, are one row -/
theorem arrV_ext (cA : ClassId) {n : Nat} {f g : Nat → Value} (h : ∀ k, k < n → f k = g k) : arrV cA n f = arrV cA n g := by
  unfold arrV
  have e : (fun j : Fin n => f j.val) = (fun j : Fin n => g j.val) := funext fun j => h j.val j.isLt
  rw [e]
theorem at_I {D : va_G} {cl : List vw_C} {b n : Nat} {cA : ClassId} {f g : Int → Int} (h : ∀ k : Int, 0 ≤ k → k < (n : Int) → f k = g k) (H : Heap) (hp : va_at D cl (b, .inl (cA, n, .inl (aI f))) H) : va_at D cl (b, .inl (cA, n, .inl (aI g))) H := by
  have e : vp_cell cA (n, .inl (aI f)) = vp_cell cA (n, .inl (aI g)) := by
    rw [vp_cell_i, vp_cell_i]
    exact arrV_ext cA fun k hk => by show Value.int (iI (f k)) = Value.int (iI (g k)); rw [h k (by omega) (by omega)]
  show H[b]? = some (vp_cell cA (n, .inl (aI g)))
  rw [← e]
  exact hp
theorem at_L {D : va_G} {cl : List vw_C} {b n : Nat} {cA : ClassId} {f g : Int → Int} (h : ∀ k : Int, 0 ≤ k → k < (n : Int) → f k = g k) (H : Heap) (hp : va_at D cl (b, .inl (cA, n, .inr (.inl (aL f)))) H) : va_at D cl (b, .inl (cA, n, .inr (.inl (aL g)))) H := by
  have e : vp_cell cA (n, .inr (.inl (aL f))) = vp_cell cA (n, .inr (.inl (aL g))) := by
    rw [vp_cell_l, vp_cell_l]
    exact arrV_ext cA fun k hk => by show Value.long (lI (f k)) = Value.long (lI (g k)); rw [h k (by omega) (by omega)]
  show H[b]? = some (vp_cell cA (n, .inr (.inl (aL g))))
  rw [← e]
  exact hp
/-- a world said by other words, cell by cell -/
def leW (D : va_G) (cl : List vw_C) : va_W → va_W → Prop
  | [], [] => True
  | x :: xs, y :: ys => (x.1 = y.1 ∧ ∀ H, va_at D cl x H → va_at D cl y H) ∧ leW D cl xs ys
  | _, _ => False
theorem leW_at {D : va_G} {cl : List vw_C} : ∀ {ws ws' : va_W}, leW D cl ws ws' → ∀ (k : Nat) (q : Nat × va_E), ws'[k]? = some q → ∃ q0, ws[k]? = some q0 ∧ q0.1 = q.1 ∧ ∀ H, va_at D cl q0 H → va_at D cl q H
  | [], [], _, k, q, hq => by simp at hq
  | [], y :: ys, h, k, q, hq => h.elim
  | x :: xs, [], h, k, q, hq => h.elim
  | x :: xs, y :: ys, h, 0, q, hq => by
    rw [List.getElem?_cons_zero] at hq
    cases hq
    exact ⟨x, List.getElem?_cons_zero, h.1⟩
  | x :: xs, y :: ys, h, k + 1, q, hq => by
    rw [List.getElem?_cons_succ] at hq
    obtain ⟨q0, h1, h2⟩ := leW_at h.2 k q hq
    exact ⟨q0, by rw [List.getElem?_cons_succ]; exact h1, h2⟩
theorem leW_P {D : va_G} {cl : List vw_C} {ws ws' : va_W} {H : Heap} (h : leW D cl ws ws') (hP : va_P D cl ws H) : va_P D cl ws' H := fun k q hq => by
  obtain ⟨q0, h1, -, h2⟩ := leW_at h k q hq
  exact h2 H (hP k q0 h1)
theorem leW_D {D : va_G} {cl : List vw_C} {A : Nat → Prop} {ws ws' : va_W} (h : leW D cl ws ws') (hD : va_D A ws) : va_D A ws' := by
  refine ⟨fun i j x y hi hj hxy => ?_, fun k q hq => ?_⟩
  · obtain ⟨x0, h1, h2, -⟩ := leW_at h i x hi
    obtain ⟨y0, h3, h4, -⟩ := leW_at h j y hj
    exact hD.1 i j x0 y0 h1 h3 (h2.trans (hxy.trans h4.symm))
  · obtain ⟨q0, h1, h2, -⟩ := leW_at h k q hq
    rw [← h2]
    exact hD.2 k q0 h1
theorem leW_r {D : va_G} {cl : List vw_C} {x y : Nat × va_E} {xs ys : va_W} (h : leW D cl xs ys) (h1 : x.1 = y.1) (h2 : ∀ H, va_at D cl x H → va_at D cl y H) : leW D cl (x :: xs) (y :: ys) := ⟨⟨h1, h2⟩, h⟩
theorem leW_k {D : va_G} {cl : List vw_C} {x : Nat × va_E} {xs ys : va_W} (h : leW D cl xs ys) : leW D cl (x :: xs) (x :: ys) := ⟨⟨rfl, fun _ q => q⟩, h⟩
theorem leW_0 {D : va_G} {cl : List vw_C} : leW D cl [] [] := trivial
theorem leW_i {D : va_G} {cl : List vw_C} {b n : Nat} {cA : ClassId} {f g : Int → Int} {xs ys : va_W} (h : leW D cl xs ys) (hf : ∀ k : Int, 0 ≤ k → k < (n : Int) → f k = g k) : leW D cl ((b, .inl (cA, n, .inl (aI f))) :: xs) ((b, .inl (cA, n, .inl (aI g))) :: ys) := ⟨⟨rfl, at_I hf⟩, h⟩
theorem leW_l {D : va_G} {cl : List vw_C} {b n : Nat} {cA : ClassId} {f g : Int → Int} {xs ys : va_W} (h : leW D cl xs ys) (hf : ∀ k : Int, 0 ≤ k → k < (n : Int) → f k = g k) : leW D cl ((b, .inl (cA, n, .inr (.inl (aL f)))) :: xs) ((b, .inl (cA, n, .inr (.inl (aL g)))) :: ys) := ⟨⟨rfl, at_L hf⟩, h⟩
/-- an object whose fields are the same values -/
theorem leW_o {D : va_G} {cl : List vw_C} {b ci : Nat} {fs gs : List Value} {xs ys : va_W} (h : leW D cl xs ys) (hf : fs = gs) : leW D cl ((b, .inr (ci, fs)) :: xs) ((b, .inr (ci, gs)) :: ys) := by subst hf; exact leW_k h
theorem nar_b {P : Prop} {v : Int} (h : (P ∧ v = 1) ∨ (¬ P ∧ v = 0)) : narrow .boolean (.int (iI v)) = .int (iI v) := by
  rcases h with ⟨-, rfl⟩ | ⟨-, rfl⟩ <;> rfl
section GROWS
variable {p : Program} {l : Launch} {e : Env} {R : Room} {s : State} {m : MethodId} {args : Array Value} {below : List Frame} {meth : Method} {c : Code} {H : Heap} {locs : List Loc} {cells slots : Nat} {Q : State → Prop}
variable {cc : ByteArray} {pc : Nat} {ls : Array Slot} {rest : List Value} {G : va_G} {tys : List (ClassId × FieldType)} {A A0 : Nat → Prop} {wf : (Nat → Int → Int) → va_W} {σ : Nat → Int → Int} {H0 : Heap}
theorem g_blind {av : List Value} : FrameBlind (va_Pc av (gW G tys A wf σ)) := fun a U g mk q => ⟨q.1, q.2.1, va_K.moved (u := U) (U := U.calling g mk a) (Vm.Alike.refl U.vm) q.2.2.1, q.2.2.2⟩
theorem g_preV (hK : va_K G vwCl tys s) (hP : va_P G vwCl (wf σ) H) (hD : va_D A (wf σ)) (q0 ci : Nat) {q : vw_C} {b : Nat} {fs : List Value} (hc : vwCl[ci]? = some q) (he : (wf σ)[q0]? = some (b, .inr (ci, fs))) {As : List Value} : PreV s H q.1 b (va_Pc (.ref b :: As) (gW G tys A wf σ)) As :=
  ⟨g_blind, va_recv hK hP hc he, fun U hU hW => ⟨rfl, by rw [hU]; exact hP, va_K.moved hW.alike hK, hD⟩⟩
variable {y : MethodName} {bytes : ByteArray} {maxL nL n index : Nat} {ret : Option FieldType} {ws : List Cond} {rm : Room} {Ts : List Cond} {own : String} {b : Addr} {st0 : List Value} {q : vw_C} {fs : List Value}
theorem g_calli {post : Int32 → (Nat → Int → Int) → Prop} (As : List Value) (S : CallFix p m c cc nL s args Ts own) (hM : Met l y ws rm (va_Pc (.ref b :: As) (gW G tys A wf σ)) (va_Qi post (gW G tys A wf) A) 0 0 A) (cw : CallW R s args own q.1 index y bytes maxL ret ws rm 0 0 n)
    (hK : va_K G vwCl tys s) (hP : va_P G vwCl (wf σ) H) (hD : va_D A (wf σ)) (hS : va_S A0 H0 H locs) (hA : ∀ z, A z → A0 z) (q0 ci : Nat) (hc : vwCl[ci]? = some q) (he : (wf σ)[q0]? = some (b, .inr (ci, fs))) (hst : st0 = As.reverse ++ .ref b :: rest) (hn : As.length = n) (hsz : ls.size = nL) (hW : (rest.map fun v => v.category).sum ≤ 8) (hdg : decode cc pc = .ok (.invokevirtual index, 3)) (hf : cells ≤ R.cells ∧ slots ≤ R.slots)
    (kk : ∀ (r : Int32) (u : Nat → Int → Int) (H1 : Heap) (locs1 : List Loc), post r u → va_P G vwCl (wf u) H1 → va_D A (wf u) → va_S A0 H0 H1 locs1 → H.size ≤ H1.size → (∀ z : Nat, z < H.size → ¬ A z → H1[z]? = H[z]?) → W p l e R s m args below meth c H1 locs1 cells slots Q (F0 m (pc + 3) ls (.int r :: rest))) : W p l e R s m args below meth c H locs cells slots Q (F0 m pc ls st0) := by
  subst hst
  exact va_calli (va_runV S hM cw (g_preV hK hP hD q0 ci hc he) rfl hn hsz rfl (lv_room hW) hdg hf) hS (fun z _ h => hA z h) hA (fun r u t H1 locs1 ht hvm hw hB hz hk hS1 => kk r u H1 locs1 hw (by rw [← ht]; exact hB.1) hB.2.2 hS1 hz hk)
theorem g_calll {post : Int64 → (Nat → Int → Int) → Prop} (As : List Value) (S : CallFix p m c cc nL s args Ts own) (hM : Met l y ws rm (va_Pc (.ref b :: As) (gW G tys A wf σ)) (va_Ql post (gW G tys A wf) A) 0 0 A) (cw : CallW R s args own q.1 index y bytes maxL ret ws rm 0 0 n)
    (hK : va_K G vwCl tys s) (hP : va_P G vwCl (wf σ) H) (hD : va_D A (wf σ)) (hS : va_S A0 H0 H locs) (hA : ∀ z, A z → A0 z) (q0 ci : Nat) (hc : vwCl[ci]? = some q) (he : (wf σ)[q0]? = some (b, .inr (ci, fs))) (hst : st0 = As.reverse ++ .ref b :: rest) (hn : As.length = n) (hsz : ls.size = nL) (hW : (rest.map fun v => v.category).sum ≤ 8) (hdg : decode cc pc = .ok (.invokevirtual index, 3)) (hf : cells ≤ R.cells ∧ slots ≤ R.slots)
    (kk : ∀ (r : Int64) (u : Nat → Int → Int) (H1 : Heap) (locs1 : List Loc), post r u → va_P G vwCl (wf u) H1 → va_D A (wf u) → va_S A0 H0 H1 locs1 → H.size ≤ H1.size → (∀ z : Nat, z < H.size → ¬ A z → H1[z]? = H[z]?) → W p l e R s m args below meth c H1 locs1 cells slots Q (F0 m (pc + 3) ls (.long r :: rest))) : W p l e R s m args below meth c H locs cells slots Q (F0 m pc ls st0) := by
  subst hst
  exact va_calll (va_runV S hM cw (g_preV hK hP hD q0 ci hc he) rfl hn hsz rfl (lv_room hW) hdg hf) hS (fun z _ h => hA z h) hA (fun r u t H1 locs1 ht hvm hw hB hz hk hS1 => kk r u H1 locs1 hw (by rw [← ht]; exact hB.1) hB.2.2 hS1 hz hk)
theorem g_callf {post : UInt32 → (Nat → Int → Int) → Prop} (As : List Value) (S : CallFix p m c cc nL s args Ts own) (hM : Met l y ws rm (va_Pc (.ref b :: As) (gW G tys A wf σ)) (va_Qf post (gW G tys A wf) A) 0 0 A) (cw : CallW R s args own q.1 index y bytes maxL ret ws rm 0 0 n)
    (hK : va_K G vwCl tys s) (hP : va_P G vwCl (wf σ) H) (hD : va_D A (wf σ)) (hS : va_S A0 H0 H locs) (hA : ∀ z, A z → A0 z) (q0 ci : Nat) (hc : vwCl[ci]? = some q) (he : (wf σ)[q0]? = some (b, .inr (ci, fs))) (hst : st0 = As.reverse ++ .ref b :: rest) (hn : As.length = n) (hsz : ls.size = nL) (hW : (rest.map fun v => v.category).sum ≤ 8) (hdg : decode cc pc = .ok (.invokevirtual index, 3)) (hf : cells ≤ R.cells ∧ slots ≤ R.slots)
    (kk : ∀ (r : UInt32) (u : Nat → Int → Int) (H1 : Heap) (locs1 : List Loc), post r u → va_P G vwCl (wf u) H1 → va_D A (wf u) → va_S A0 H0 H1 locs1 → H.size ≤ H1.size → (∀ z : Nat, z < H.size → ¬ A z → H1[z]? = H[z]?) → W p l e R s m args below meth c H1 locs1 cells slots Q (F0 m (pc + 3) ls (.float r :: rest))) : W p l e R s m args below meth c H locs cells slots Q (F0 m pc ls st0) := by
  subst hst
  exact va_callf (va_runV S hM cw (g_preV hK hP hD q0 ci hc he) rfl hn hsz rfl (lv_room hW) hdg hf) hS (fun z _ h => hA z h) hA (fun r u t H1 locs1 ht hvm hw hB hz hk hS1 => kk r u H1 locs1 hw (by rw [← ht]; exact hB.1) hB.2.2 hS1 hz hk)
theorem g_callv {post : (Nat → Int → Int) → Prop} (As : List Value) (S : CallFix p m c cc nL s args Ts own) (hM : Met l y ws rm (va_Pc (.ref b :: As) (gW G tys A wf σ)) (va_Qv post (gW G tys A wf) A) 0 0 A) (cw : CallW R s args own q.1 index y bytes maxL ret ws rm 0 0 n)
    (hK : va_K G vwCl tys s) (hP : va_P G vwCl (wf σ) H) (hD : va_D A (wf σ)) (hS : va_S A0 H0 H locs) (hA : ∀ z, A z → A0 z) (q0 ci : Nat) (hc : vwCl[ci]? = some q) (he : (wf σ)[q0]? = some (b, .inr (ci, fs))) (hst : st0 = As.reverse ++ .ref b :: rest) (hn : As.length = n) (hsz : ls.size = nL) (hW : (rest.map fun v => v.category).sum ≤ 8) (hdg : decode cc pc = .ok (.invokevirtual index, 3)) (hf : cells ≤ R.cells ∧ slots ≤ R.slots)
    (kk : ∀ (u : Nat → Int → Int) (H1 : Heap) (locs1 : List Loc), post u → va_P G vwCl (wf u) H1 → va_D A (wf u) → va_S A0 H0 H1 locs1 → H.size ≤ H1.size → (∀ z : Nat, z < H.size → ¬ A z → H1[z]? = H[z]?) → W p l e R s m args below meth c H1 locs1 cells slots Q (F0 m (pc + 3) ls rest)) : W p l e R s m args below meth c H locs cells slots Q (F0 m pc ls st0) := by
  subst hst
  exact va_callv (va_runV S hM cw (g_preV hK hP hD q0 ci hc he) rfl hn hsz rfl (lv_room hW) hdg hf) hS (fun z _ h => hA z h) hA (fun u t H1 locs1 ht hvm hw hB hz hk hS1 => kk u H1 locs1 hw (by rw [← ht]; exact hB.1) hB.2.2 hS1 hz hk)
/-- a static method that touches no cell: numbers to a number -/
theorem g_callS {post : Int32 → Unit → Prop} (As : List Value) (S : CallFix p m c cc nL s args Ts own) (hM : Met l y ws rm (va_Pc As (fun _ => True)) (va_Qi post (fun _ _ => True) (fun _ => False)) 0 0 (fun _ => False)) (cw : CallB R s args own index y bytes maxL ret ws rm 0 0 n ∧ (Cond.static y).before args s = true)
    (hP : va_P G vwCl (wf σ) H) (hS : va_S A0 H0 H locs) (hst : st0 = As.reverse ++ rest) (hn : As.length = n) (hsz : ls.size = nL) (hW : (rest.map fun v => v.category).sum ≤ 8) (hdg : decode cc pc = .ok (.invokestatic index, 3)) (hf : cells ≤ R.cells ∧ slots ≤ R.slots)
    (kk : ∀ (r : Int32) (H1 : Heap) (locs1 : List Loc), post r () → va_P G vwCl (wf σ) H1 → va_S A0 H0 H1 locs1 → W p l e R s m args below meth c H1 locs1 cells slots Q (F0 m (pc + 3) ls (.int r :: rest))) : W p l e R s m args below meth c H locs cells slots Q (F0 m pc ls st0) := by
  subst hst
  exact va_calli (va_runS S hM cw ⟨fun a U g mk q => q, fun U hU hW => ⟨rfl, trivial⟩⟩ rfl hn hsz rfl (lv_room hW) hdg hf) hS (fun z _ h => h.elim) (fun z h => h.elim) (fun r u t H1 locs1 ht hvm hw hB hz hk hS1 => kk r H1 locs1 hw (hP.kept fun k x hx => hk x.1 (hP k x hx).lt (fun z => z)) hS1)
/-- the ends -/
theorem g_iret {post : Int32 → (Nat → Int → Int) → Prop} {v : Int32} {u : Nat → Int → Int} (hx : p.tables.exec = Jvm.exec) (hb : c.code = cc) (hr : meth.sig.returnType = some .int) (hlocks : meth.locks = false) (hK : va_K G vwCl tys s) (hP : va_P G vwCl (wf u) H) (hD : va_D A (wf u)) (hS : va_S A s.heap H locs) (hpost : post v u) (hdg : decode cc pc = .ok (.ireturn, 1)) : W p l e R s m args below meth c H locs cells slots (MQ below (va_Qi post (gW G tys A wf) A) args s cells slots A) (F0 m pc ls [.int v]) :=
  W.iret hx hb hr (fun t ht hW => ⟨⟨v, u, rfl, hpost, by rw [ht]; exact hP, va_K.moved hW.alike hK, hD⟩, hS.F ht⟩) hS.2.2 hdg hlocks
theorem g_zret {post : Int32 → (Nat → Int → Int) → Prop} {v : Int32} {u : Nat → Int → Int} (hx : p.tables.exec = Jvm.exec) (hb : c.code = cc) (hr : meth.sig.returnType = some .boolean) (hlocks : meth.locks = false) (hn : narrow .boolean (.int v) = .int v) (hK : va_K G vwCl tys s) (hP : va_P G vwCl (wf u) H) (hD : va_D A (wf u)) (hS : va_S A s.heap H locs) (hpost : post v u) (hdg : decode cc pc = .ok (.ireturn, 1)) : W p l e R s m args below meth c H locs cells slots (MQ below (va_Qi post (gW G tys A wf) A) args s cells slots A) (F0 m pc ls [.int v]) :=
  W.zret hx hb hr hn (fun t ht hW => ⟨⟨v, u, rfl, hpost, by rw [ht]; exact hP, va_K.moved hW.alike hK, hD⟩, hS.F ht⟩) hS.2.2 hdg hlocks
theorem g_vret {post : (Nat → Int → Int) → Prop} {u : Nat → Int → Int} (hx : p.tables.exec = Jvm.exec) (hb : c.code = cc) (hr : meth.sig.returnType = none) (hlocks : meth.locks = false) (hK : va_K G vwCl tys s) (hP : va_P G vwCl (wf u) H) (hD : va_D A (wf u)) (hS : va_S A s.heap H locs) (hpost : post u) (hdg : decode cc pc = .ok (.return_, 1)) : W p l e R s m args below meth c H locs cells slots (MQ below (va_Qv post (gW G tys A wf) A) args s cells slots A) (F0 m pc ls []) :=
  W.vret hx hb hr (fun t ht hW => ⟨⟨u, rfl, hpost, by rw [ht]; exact hP, va_K.moved hW.alike hK, hD⟩, hS.F ht⟩) hS.2.2 hdg hlocks
theorem g_lret {post : Int64 → (Nat → Int → Int) → Prop} {v : Int64} {u : Nat → Int → Int} (hx : p.tables.exec = Jvm.exec) (hb : c.code = cc) (hr : meth.sig.returnType = some .long) (hlocks : meth.locks = false) (hK : va_K G vwCl tys s) (hP : va_P G vwCl (wf u) H) (hD : va_D A (wf u)) (hS : va_S A s.heap H locs) (hpost : post v u) (hdg : decode cc pc = .ok (.lreturn, 1)) : W p l e R s m args below meth c H locs cells slots (MQ below (va_Ql post (gW G tys A wf) A) args s cells slots A) (F0 m pc ls [.long v]) :=
  W.lret hx hb hr (fun t ht hW => ⟨⟨v, u, rfl, hpost, by rw [ht]; exact hP, va_K.moved hW.alike hK, hD⟩, hS.F ht⟩) hS.2.2 hdg hlocks
theorem g_fret {post : UInt32 → (Nat → Int → Int) → Prop} {v : UInt32} {u : Nat → Int → Int} (hx : p.tables.exec = Jvm.exec) (hb : c.code = cc) (hr : meth.sig.returnType = some .float) (hlocks : meth.locks = false) (hK : va_K G vwCl tys s) (hP : va_P G vwCl (wf u) H) (hD : va_D A (wf u)) (hS : va_S A s.heap H locs) (hpost : post v u) (hdg : decode cc pc = .ok (.freturn, 1)) : W p l e R s m args below meth c H locs cells slots (MQ below (va_Qf post (gW G tys A wf) A) args s cells slots A) (F0 m pc ls [.float v]) :=
  W.fret hx hb hr (fun t ht hW => ⟨⟨v, u, rfl, hpost, by rw [ht]; exact hP, va_K.moved hW.alike hK, hD⟩, hS.F ht⟩) hS.2.2 hdg hlocks
/-- rows: a read, a write; behind a write the world is said by the words of a new σ -/
theorem g_iald {a : Nat} {cA : ClassId} {n : Nat} {f : Int → Int} {v : Int} (hx : p.tables.exec = Jvm.exec) (hb : c.code = cc) (hK : va_K G vwCl tys s) (hP : va_P G vwCl (wf σ) H) (q0 t0 : Nat) (ha : (wf σ)[q0]? = some (a, .inl (cA, n, .inl (aI f)))) (ht : tys[t0]? = some (cA, .int)) {i : Int} (hn : n < 2147483648) (h : 0 ≤ i ∧ i < (n : Int)) (hv : f i = v) (hdg : decode cc pc = .ok (.iaload, 1))
    (kk : W p l e R s m args below meth c H locs cells slots Q (F0 m (pc + 1) ls (.int (iI v) :: rest))) : W p l e R s m args below meth c H locs cells slots Q (F0 m pc ls (.int (iI i) :: .ref a :: rest)) :=
  va_iald hx hb hK hP q0 t0 ha ht (iI_in hn h) hdg (by rw [aI_at f ⟨h.1, by omega⟩, hv]; exact kk)
theorem g_zald {a : Nat} {cA : ClassId} {n : Nat} {f : Int → Int} {v : Int} (hx : p.tables.exec = Jvm.exec) (hb : c.code = cc) (hK : va_K G vwCl tys s) (hP : va_P G vwCl (wf σ) H) (q0 t0 : Nat) (ha : (wf σ)[q0]? = some (a, .inl (cA, n, .inl (aI f)))) (ht : tys[t0]? = some (cA, .boolean)) {i : Int} (hn : n < 2147483648) (h : 0 ≤ i ∧ i < (n : Int)) (hv : f i = v) (hdg : decode cc pc = .ok (.baload, 1))
    (kk : W p l e R s m args below meth c H locs cells slots Q (F0 m (pc + 1) ls (.int (iI v) :: rest))) : W p l e R s m args below meth c H locs cells slots Q (F0 m pc ls (.int (iI i) :: .ref a :: rest)) :=
  va_zald hx hb hK hP q0 t0 ha ht (iI_in hn h) hdg (by rw [aI_at f ⟨h.1, by omega⟩, hv]; exact kk)
theorem g_lald {a : Nat} {cA : ClassId} {n : Nat} {f : Int → Int} {v : Int} (hx : p.tables.exec = Jvm.exec) (hb : c.code = cc) (hK : va_K G vwCl tys s) (hP : va_P G vwCl (wf σ) H) (q0 t0 : Nat) (ha : (wf σ)[q0]? = some (a, .inl (cA, n, .inr (.inl (aL f))))) (ht : tys[t0]? = some (cA, .long)) {i : Int} (hn : n < 2147483648) (h : 0 ≤ i ∧ i < (n : Int)) (hv : f i = v) (hdg : decode cc pc = .ok (.laload, 1))
    (kk : W p l e R s m args below meth c H locs cells slots Q (F0 m (pc + 1) ls (.long (lI v) :: rest))) : W p l e R s m args below meth c H locs cells slots Q (F0 m pc ls (.int (iI i) :: .ref a :: rest)) :=
  va_lald hx hb hK hP q0 t0 ha ht (iI_in hn h) hdg (by rw [aL_at f ⟨h.1, by omega⟩, hv]; exact kk)
theorem g_iast {a : Nat} {cA : ClassId} {n : Nat} {f : Int → Int} {i v : Int} {τ : Nat → Int → Int} (hx : p.tables.exec = Jvm.exec) (hb : c.code = cc) (hK : va_K G vwCl tys s) (hP : va_P G vwCl (wf σ) H) (hD : va_D A (wf σ)) (hS : va_S A H0 H locs) (q0 t0 : Nat) (ha : (wf σ)[q0]? = some (a, .inl (cA, n, .inl (aI f)))) (ht : tys[t0]? = some (cA, .int)) (hn : n < 2147483648) (h : 0 ≤ i ∧ i < (n : Int)) (hdg : decode cc pc = .ok (.iastore, 1)) (hL : leW G vwCl ((wf σ).set q0 (a, .inl (cA, n, .inl (aI (ups f i v))))) (wf τ))
    (kk : ∀ (H1 : Heap) (locs1 : List Loc), va_P G vwCl (wf τ) H1 → va_D A (wf τ) → va_S A H0 H1 locs1 → W p l e R s m args below meth c H1 locs1 cells slots Q (F0 m (pc + 1) ls rest)) : W p l e R s m args below meth c H locs cells slots Q (F0 m pc ls (.int (iI v) :: .int (iI i) :: .ref a :: rest)) :=
  va_iast hx hb hK hP hD hS q0 t0 ha ht (iI_in hn h) hdg (fun H1 locs1 q1 q2 q3 => by
    rw [aI_up f v ⟨h.1, by omega⟩] at q1 q2
    exact kk H1 locs1 (leW_P hL q1) (leW_D hL q2) q3)
theorem nar_z (v : Int) (h : v = 0 ∨ v = 1) : vp_nar .boolean (iI v) = iI v := by rcases h with rfl | rfl <;> rfl
theorem g_zast {a : Nat} {cA : ClassId} {n : Nat} {f : Int → Int} {i v : Int} {τ : Nat → Int → Int} (hx : p.tables.exec = Jvm.exec) (hb : c.code = cc) (hK : va_K G vwCl tys s) (hP : va_P G vwCl (wf σ) H) (hD : va_D A (wf σ)) (hS : va_S A H0 H locs) (q0 t0 : Nat) (ha : (wf σ)[q0]? = some (a, .inl (cA, n, .inl (aI f)))) (ht : tys[t0]? = some (cA, .boolean)) (hn : n < 2147483648) (h : 0 ≤ i ∧ i < (n : Int)) (hv : v = 0 ∨ v = 1) (hdg : decode cc pc = .ok (.bastore, 1)) (hL : leW G vwCl ((wf σ).set q0 (a, .inl (cA, n, .inl (aI (ups f i v))))) (wf τ))
    (kk : ∀ (H1 : Heap) (locs1 : List Loc), va_P G vwCl (wf τ) H1 → va_D A (wf τ) → va_S A H0 H1 locs1 → W p l e R s m args below meth c H1 locs1 cells slots Q (F0 m (pc + 1) ls rest)) : W p l e R s m args below meth c H locs cells slots Q (F0 m pc ls (.int (iI v) :: .int (iI i) :: .ref a :: rest)) :=
  va_zast hx hb hK hP hD hS q0 t0 ha ht (iI_in hn h) hdg (fun H1 locs1 q1 q2 q3 => by
    rw [nar_z v hv, aI_up f v ⟨h.1, by omega⟩] at q1 q2
    exact kk H1 locs1 (leW_P hL q1) (leW_D hL q2) q3)
theorem g_last {a : Nat} {cA : ClassId} {n : Nat} {f : Int → Int} {i v : Int} {τ : Nat → Int → Int} (hx : p.tables.exec = Jvm.exec) (hb : c.code = cc) (hK : va_K G vwCl tys s) (hP : va_P G vwCl (wf σ) H) (hD : va_D A (wf σ)) (hS : va_S A H0 H locs) (q0 t0 : Nat) (ha : (wf σ)[q0]? = some (a, .inl (cA, n, .inr (.inl (aL f))))) (ht : tys[t0]? = some (cA, .long)) (hn : n < 2147483648) (h : 0 ≤ i ∧ i < (n : Int)) (hdg : decode cc pc = .ok (.lastore, 1)) (hL : leW G vwCl ((wf σ).set q0 (a, .inl (cA, n, .inr (.inl (aL (ups f i v)))))) (wf τ))
    (kk : ∀ (H1 : Heap) (locs1 : List Loc), va_P G vwCl (wf τ) H1 → va_D A (wf τ) → va_S A H0 H1 locs1 → W p l e R s m args below meth c H1 locs1 cells slots Q (F0 m (pc + 1) ls rest)) : W p l e R s m args below meth c H locs cells slots Q (F0 m pc ls (.long (lI v) :: .int (iI i) :: .ref a :: rest)) :=
  va_last hx hb hK hP hD hS q0 t0 ha ht (iI_in hn h) hdg (fun H1 locs1 q1 q2 q3 => by
    rw [aL_up f v ⟨h.1, by omega⟩] at q1 q2
    exact kk H1 locs1 (leW_P hL q1) (leW_D hL q2) q3)
end GROWS
end
section
/-! the two worlds, written by wip/gen/worlds.py: wx the program, wm the reference; a row that is written, a field that is put -/
def wx (cx a : Nat → Nat) (σ : Nat → Int → Int) : va_W :=
  [(a 0, .inr (4, [.ref (a 3), .ref (a 8), .ref (a 14), .ref (a 17), .ref (a 59), .ref (a 1), .ref (a 2)])),
   (a 1, .inl (cx 2, 2, .inl (aI (σ 11)))),
   (a 2, .inl (cx 0, 16, .inl (aI (σ 13)))),
   (a 3, .inr (2, [.int (iI (σ 0 0)), .int (iI (σ 0 74)), .ref (a 4), .ref (a 5), .ref (a 6), .ref (a 7)])),
   (a 4, .inl (cx 0, 64, .inl (aI (fun k => σ 0 (10 + k))))),
   (a 5, .inl (cx 0, 9, .inl (aI (fun k => σ 0 (1 + k))))),
   (a 6, .inl (cx 0, 16, .inl (aI (fun k => σ 0 (75 + k))))),
   (a 7, .inl (cx 0, 16, .inl (aI (fun k => σ 0 (91 + k))))),
   (a 8, .inr (0, [.ref (a 3), .int (iI (σ 21 0)), .int (iI (σ 21 1)), .ref (a 9), .ref (a 10), .ref (a 11), .ref (a 12), .ref (a 13)])),
   (a 9, .inl (cx 0, 33, .inl (aI (σ 14)))),
   (a 10, .inl (cx 0, 16, .inl (aI (σ 15)))),
   (a 11, .inl (cx 0, 16, .inl (aI (σ 16)))),
   (a 12, .inl (cx 0, 561, .inl (aI (σ 17)))),
   (a 13, .inl (cx 0, 17, .inl (aI (σ 18)))),
   (a 14, .inr (3, [.ref (a 3), .ref (a 8), .ref (a 15), .ref (a 16)])),
   (a 15, .inl (cx 0, 16, .inl (aI (σ 19)))),
   (a 16, .inl (cx 1, 16, .inr (.inl (aL (σ 20))))),
   (a 17, .inr (1, [.ref (a 18), .int (iI (σ 12 0)), .int (iI (σ 12 1))])),
   (a 18, .inl (cx 3, 8, .inr (.inr (.inr (.inr (fun k => some (a (19 + 5 * k)))))))),
   (a 19, .inr (2, [.int (iI (σ 1 0)), .int (iI (σ 1 74)), .ref (a 20), .ref (a 21), .ref (a 22), .ref (a 23)])),
   (a 20, .inl (cx 0, 64, .inl (aI (fun k => σ 1 (10 + k))))),
   (a 21, .inl (cx 0, 9, .inl (aI (fun k => σ 1 (1 + k))))),
   (a 22, .inl (cx 0, 16, .inl (aI (fun k => σ 1 (75 + k))))),
   (a 23, .inl (cx 0, 16, .inl (aI (fun k => σ 1 (91 + k))))),
   (a 24, .inr (2, [.int (iI (σ 2 0)), .int (iI (σ 2 74)), .ref (a 25), .ref (a 26), .ref (a 27), .ref (a 28)])),
   (a 25, .inl (cx 0, 64, .inl (aI (fun k => σ 2 (10 + k))))),
   (a 26, .inl (cx 0, 9, .inl (aI (fun k => σ 2 (1 + k))))),
   (a 27, .inl (cx 0, 16, .inl (aI (fun k => σ 2 (75 + k))))),
   (a 28, .inl (cx 0, 16, .inl (aI (fun k => σ 2 (91 + k))))),
   (a 29, .inr (2, [.int (iI (σ 3 0)), .int (iI (σ 3 74)), .ref (a 30), .ref (a 31), .ref (a 32), .ref (a 33)])),
   (a 30, .inl (cx 0, 64, .inl (aI (fun k => σ 3 (10 + k))))),
   (a 31, .inl (cx 0, 9, .inl (aI (fun k => σ 3 (1 + k))))),
   (a 32, .inl (cx 0, 16, .inl (aI (fun k => σ 3 (75 + k))))),
   (a 33, .inl (cx 0, 16, .inl (aI (fun k => σ 3 (91 + k))))),
   (a 34, .inr (2, [.int (iI (σ 4 0)), .int (iI (σ 4 74)), .ref (a 35), .ref (a 36), .ref (a 37), .ref (a 38)])),
   (a 35, .inl (cx 0, 64, .inl (aI (fun k => σ 4 (10 + k))))),
   (a 36, .inl (cx 0, 9, .inl (aI (fun k => σ 4 (1 + k))))),
   (a 37, .inl (cx 0, 16, .inl (aI (fun k => σ 4 (75 + k))))),
   (a 38, .inl (cx 0, 16, .inl (aI (fun k => σ 4 (91 + k))))),
   (a 39, .inr (2, [.int (iI (σ 5 0)), .int (iI (σ 5 74)), .ref (a 40), .ref (a 41), .ref (a 42), .ref (a 43)])),
   (a 40, .inl (cx 0, 64, .inl (aI (fun k => σ 5 (10 + k))))),
   (a 41, .inl (cx 0, 9, .inl (aI (fun k => σ 5 (1 + k))))),
   (a 42, .inl (cx 0, 16, .inl (aI (fun k => σ 5 (75 + k))))),
   (a 43, .inl (cx 0, 16, .inl (aI (fun k => σ 5 (91 + k))))),
   (a 44, .inr (2, [.int (iI (σ 6 0)), .int (iI (σ 6 74)), .ref (a 45), .ref (a 46), .ref (a 47), .ref (a 48)])),
   (a 45, .inl (cx 0, 64, .inl (aI (fun k => σ 6 (10 + k))))),
   (a 46, .inl (cx 0, 9, .inl (aI (fun k => σ 6 (1 + k))))),
   (a 47, .inl (cx 0, 16, .inl (aI (fun k => σ 6 (75 + k))))),
   (a 48, .inl (cx 0, 16, .inl (aI (fun k => σ 6 (91 + k))))),
   (a 49, .inr (2, [.int (iI (σ 7 0)), .int (iI (σ 7 74)), .ref (a 50), .ref (a 51), .ref (a 52), .ref (a 53)])),
   (a 50, .inl (cx 0, 64, .inl (aI (fun k => σ 7 (10 + k))))),
   (a 51, .inl (cx 0, 9, .inl (aI (fun k => σ 7 (1 + k))))),
   (a 52, .inl (cx 0, 16, .inl (aI (fun k => σ 7 (75 + k))))),
   (a 53, .inl (cx 0, 16, .inl (aI (fun k => σ 7 (91 + k))))),
   (a 54, .inr (2, [.int (iI (σ 8 0)), .int (iI (σ 8 74)), .ref (a 55), .ref (a 56), .ref (a 57), .ref (a 58)])),
   (a 55, .inl (cx 0, 64, .inl (aI (fun k => σ 8 (10 + k))))),
   (a 56, .inl (cx 0, 9, .inl (aI (fun k => σ 8 (1 + k))))),
   (a 57, .inl (cx 0, 16, .inl (aI (fun k => σ 8 (75 + k))))),
   (a 58, .inl (cx 0, 16, .inl (aI (fun k => σ 8 (91 + k))))),
   (a 59, .inl (cx 3, 2, .inr (.inr (.inr (.inr (fun k => some (a (60 + 5 * k)))))))),
   (a 60, .inr (2, [.int (iI (σ 9 0)), .int (iI (σ 9 74)), .ref (a 61), .ref (a 62), .ref (a 63), .ref (a 64)])),
   (a 61, .inl (cx 0, 64, .inl (aI (fun k => σ 9 (10 + k))))),
   (a 62, .inl (cx 0, 9, .inl (aI (fun k => σ 9 (1 + k))))),
   (a 63, .inl (cx 0, 16, .inl (aI (fun k => σ 9 (75 + k))))),
   (a 64, .inl (cx 0, 16, .inl (aI (fun k => σ 9 (91 + k))))),
   (a 65, .inr (2, [.int (iI (σ 10 0)), .int (iI (σ 10 74)), .ref (a 66), .ref (a 67), .ref (a 68), .ref (a 69)])),
   (a 66, .inl (cx 0, 64, .inl (aI (fun k => σ 10 (10 + k))))),
   (a 67, .inl (cx 0, 9, .inl (aI (fun k => σ 10 (1 + k))))),
   (a 68, .inl (cx 0, 16, .inl (aI (fun k => σ 10 (75 + k))))),
   (a 69, .inl (cx 0, 16, .inl (aI (fun k => σ 10 (91 + k)))))]

def wm (cx a : Nat → Nat) (σ : Nat → Int → Int) : va_W :=
  [(a 0, .inr (5, [.ref (a 1), .ref (a 2), .int (iI (σ 2 0)), .ref (a 3), .int (iI (σ 2 1)), .ref (a 4), .ref (a 5), .ref (a 6), .ref (a 7), .long (lI (σ 2 2)), .ref (a 8)])),
   (a 1, .inl (cx 0, 107, .inl (aI (σ 0)))),
   (a 2, .inl (cx 0, 856, .inl (aI (σ 1)))),
   (a 3, .inl (cx 0, 214, .inl (aI (σ 3)))),
   (a 4, .inl (cx 0, 16, .inl (aI (σ 4)))),
   (a 5, .inl (cx 0, 16, .inl (aI (σ 5)))),
   (a 6, .inl (cx 0, 17, .inl (aI (σ 6)))),
   (a 7, .inl (cx 1, 544, .inr (.inl (aL (σ 7))))),
   (a 8, .inl (cx 2, 16, .inl (aI (σ 8))))]

abbrev tx (cx : Nat → Nat) : List (ClassId × FieldType) := [(cx 0, .int), (cx 1, .long), (cx 2, .boolean), (cx 3, .object "LoopSlicer$Loop")]
abbrev tm (cx : Nat → Nat) : List (ClassId × FieldType) := [(cx 0, .int), (cx 1, .long), (cx 2, .boolean)]
def XA (a : Nat → Nat) : Nat → Prop := fun q => ∃ k, k < 70 ∧ q = a k
def MA (a : Nat → Nat) : Nat → Prop := fun q => ∃ k, k < 9 ∧ q = a k
theorem wx_up_1 {G : va_G} {cx a : Nat → Nat} {σ : Nat → Int → Int} {i v : Int} (h : 0 ≤ i ∧ i < 2) : leW G vwCl ((wx cx a σ).set 1 (a 1, .inl (cx 2, 2, .inl (aI (ups (σ 11) i v))))) (wx cx a (st σ 11 i v)) := by
  refine leW_k ?_
  refine leW_k ?_
  refine leW_k ?_
  refine leW_k ?_
  refine leW_k ?_
  refine leW_k ?_
  refine leW_k ?_
  refine leW_k ?_
  refine leW_k ?_
  refine leW_k ?_
  refine leW_k ?_
  refine leW_k ?_
  refine leW_k ?_
  refine leW_k ?_
  refine leW_k ?_
  refine leW_k ?_
  refine leW_k ?_
  refine leW_k ?_
  refine leW_k ?_
  refine leW_k ?_
  refine leW_k ?_
  refine leW_k ?_
  refine leW_k ?_
  refine leW_k ?_
  refine leW_k ?_
  refine leW_k ?_
  refine leW_k ?_
  refine leW_k ?_
  refine leW_k ?_
  refine leW_k ?_
  refine leW_k ?_
  refine leW_k ?_
  refine leW_k ?_
  refine leW_k ?_
  refine leW_k ?_
  refine leW_k ?_
  refine leW_k ?_
  refine leW_k ?_
  refine leW_k ?_
  refine leW_k ?_
  refine leW_k ?_
  refine leW_k ?_
  refine leW_k ?_
  refine leW_k ?_
  refine leW_k ?_
  refine leW_k ?_
  refine leW_k ?_
  refine leW_k ?_
  refine leW_k ?_
  refine leW_k ?_
  refine leW_k ?_
  refine leW_k ?_
  refine leW_k ?_
  refine leW_k ?_
  refine leW_k ?_
  refine leW_k ?_
  refine leW_k ?_
  refine leW_k ?_
  refine leW_k ?_
  refine leW_k ?_
  refine leW_k ?_
  refine leW_k ?_
  refine leW_k ?_
  refine leW_k ?_
  refine leW_k ?_
  refine leW_k ?_
  refine leW_k ?_
  refine leW_k ?_
  refine leW_k ?_
  refine leW_k ?_
  exact leW_0

theorem wx_up_2 {G : va_G} {cx a : Nat → Nat} {σ : Nat → Int → Int} {i v : Int} (h : 0 ≤ i ∧ i < 16) : leW G vwCl ((wx cx a σ).set 2 (a 2, .inl (cx 0, 16, .inl (aI (ups (σ 13) i v))))) (wx cx a (st σ 13 i v)) := by
  refine leW_k ?_
  refine leW_k ?_
  refine leW_k ?_
  refine leW_k ?_
  refine leW_k ?_
  refine leW_k ?_
  refine leW_k ?_
  refine leW_k ?_
  refine leW_k ?_
  refine leW_k ?_
  refine leW_k ?_
  refine leW_k ?_
  refine leW_k ?_
  refine leW_k ?_
  refine leW_k ?_
  refine leW_k ?_
  refine leW_k ?_
  refine leW_k ?_
  refine leW_k ?_
  refine leW_k ?_
  refine leW_k ?_
  refine leW_k ?_
  refine leW_k ?_
  refine leW_k ?_
  refine leW_k ?_
  refine leW_k ?_
  refine leW_k ?_
  refine leW_k ?_
  refine leW_k ?_
  refine leW_k ?_
  refine leW_k ?_
  refine leW_k ?_
  refine leW_k ?_
  refine leW_k ?_
  refine leW_k ?_
  refine leW_k ?_
  refine leW_k ?_
  refine leW_k ?_
  refine leW_k ?_
  refine leW_k ?_
  refine leW_k ?_
  refine leW_k ?_
  refine leW_k ?_
  refine leW_k ?_
  refine leW_k ?_
  refine leW_k ?_
  refine leW_k ?_
  refine leW_k ?_
  refine leW_k ?_
  refine leW_k ?_
  refine leW_k ?_
  refine leW_k ?_
  refine leW_k ?_
  refine leW_k ?_
  refine leW_k ?_
  refine leW_k ?_
  refine leW_k ?_
  refine leW_k ?_
  refine leW_k ?_
  refine leW_k ?_
  refine leW_k ?_
  refine leW_k ?_
  refine leW_k ?_
  refine leW_k ?_
  refine leW_k ?_
  refine leW_k ?_
  refine leW_k ?_
  refine leW_k ?_
  refine leW_k ?_
  refine leW_k ?_
  exact leW_0

theorem wx_pf_3_0 {G : va_G} {cx a : Nat → Nat} {σ : Nat → Int → Int} {v : Int} : leW G vwCl ((wx cx a σ).set 3 (a 3, .inr (2, [.int (iI v), .int (iI (σ 0 74)), .ref (a 4), .ref (a 5), .ref (a 6), .ref (a 7)]))) (wx cx a (st σ 0 0 v)) := by
  refine leW_k ?_
  refine leW_k ?_
  refine leW_k ?_
  refine leW_o ?_ ?_
  rotate_left
  · rw [show st σ 0 0 v 0 0 = v from by rw [st_a]; exact if_pos ⟨rfl, rfl⟩, show st σ 0 0 v 0 74 = σ 0 74 from by rw [st_a]; exact if_neg (by omega)]
  refine leW_i ?_ (fun k h1 h2 => ?_)
  rotate_left
  · show σ 0 (10 + k) = (if 10 + k = 0 then v else σ 0 (10 + k))
    rw [if_neg (by omega)]
  refine leW_i ?_ (fun k h1 h2 => ?_)
  rotate_left
  · show σ 0 (1 + k) = (if 1 + k = 0 then v else σ 0 (1 + k))
    rw [if_neg (by omega)]
  refine leW_i ?_ (fun k h1 h2 => ?_)
  rotate_left
  · show σ 0 (75 + k) = (if 75 + k = 0 then v else σ 0 (75 + k))
    rw [if_neg (by omega)]
  refine leW_i ?_ (fun k h1 h2 => ?_)
  rotate_left
  · show σ 0 (91 + k) = (if 91 + k = 0 then v else σ 0 (91 + k))
    rw [if_neg (by omega)]
  refine leW_k ?_
  refine leW_k ?_
  refine leW_k ?_
  refine leW_k ?_
  refine leW_k ?_
  refine leW_k ?_
  refine leW_k ?_
  refine leW_k ?_
  refine leW_k ?_
  refine leW_k ?_
  refine leW_k ?_
  refine leW_k ?_
  refine leW_k ?_
  refine leW_k ?_
  refine leW_k ?_
  refine leW_k ?_
  refine leW_k ?_
  refine leW_k ?_
  refine leW_k ?_
  refine leW_k ?_
  refine leW_k ?_
  refine leW_k ?_
  refine leW_k ?_
  refine leW_k ?_
  refine leW_k ?_
  refine leW_k ?_
  refine leW_k ?_
  refine leW_k ?_
  refine leW_k ?_
  refine leW_k ?_
  refine leW_k ?_
  refine leW_k ?_
  refine leW_k ?_
  refine leW_k ?_
  refine leW_k ?_
  refine leW_k ?_
  refine leW_k ?_
  refine leW_k ?_
  refine leW_k ?_
  refine leW_k ?_
  refine leW_k ?_
  refine leW_k ?_
  refine leW_k ?_
  refine leW_k ?_
  refine leW_k ?_
  refine leW_k ?_
  refine leW_k ?_
  refine leW_k ?_
  refine leW_k ?_
  refine leW_k ?_
  refine leW_k ?_
  refine leW_k ?_
  refine leW_k ?_
  refine leW_k ?_
  refine leW_k ?_
  refine leW_k ?_
  refine leW_k ?_
  refine leW_k ?_
  refine leW_k ?_
  refine leW_k ?_
  refine leW_k ?_
  refine leW_k ?_
  exact leW_0

theorem wx_pf_3_1 {G : va_G} {cx a : Nat → Nat} {σ : Nat → Int → Int} {v : Int} : leW G vwCl ((wx cx a σ).set 3 (a 3, .inr (2, [.int (iI (σ 0 0)), .int (iI v), .ref (a 4), .ref (a 5), .ref (a 6), .ref (a 7)]))) (wx cx a (st σ 0 74 v)) := by
  refine leW_k ?_
  refine leW_k ?_
  refine leW_k ?_
  refine leW_o ?_ ?_
  rotate_left
  · rw [show st σ 0 74 v 0 74 = v from by rw [st_a]; exact if_pos ⟨rfl, rfl⟩, show st σ 0 74 v 0 0 = σ 0 0 from by rw [st_a]; exact if_neg (by omega)]
  refine leW_i ?_ (fun k h1 h2 => ?_)
  rotate_left
  · show σ 0 (10 + k) = (if 10 + k = 74 then v else σ 0 (10 + k))
    rw [if_neg (by omega)]
  refine leW_i ?_ (fun k h1 h2 => ?_)
  rotate_left
  · show σ 0 (1 + k) = (if 1 + k = 74 then v else σ 0 (1 + k))
    rw [if_neg (by omega)]
  refine leW_i ?_ (fun k h1 h2 => ?_)
  rotate_left
  · show σ 0 (75 + k) = (if 75 + k = 74 then v else σ 0 (75 + k))
    rw [if_neg (by omega)]
  refine leW_i ?_ (fun k h1 h2 => ?_)
  rotate_left
  · show σ 0 (91 + k) = (if 91 + k = 74 then v else σ 0 (91 + k))
    rw [if_neg (by omega)]
  refine leW_k ?_
  refine leW_k ?_
  refine leW_k ?_
  refine leW_k ?_
  refine leW_k ?_
  refine leW_k ?_
  refine leW_k ?_
  refine leW_k ?_
  refine leW_k ?_
  refine leW_k ?_
  refine leW_k ?_
  refine leW_k ?_
  refine leW_k ?_
  refine leW_k ?_
  refine leW_k ?_
  refine leW_k ?_
  refine leW_k ?_
  refine leW_k ?_
  refine leW_k ?_
  refine leW_k ?_
  refine leW_k ?_
  refine leW_k ?_
  refine leW_k ?_
  refine leW_k ?_
  refine leW_k ?_
  refine leW_k ?_
  refine leW_k ?_
  refine leW_k ?_
  refine leW_k ?_
  refine leW_k ?_
  refine leW_k ?_
  refine leW_k ?_
  refine leW_k ?_
  refine leW_k ?_
  refine leW_k ?_
  refine leW_k ?_
  refine leW_k ?_
  refine leW_k ?_
  refine leW_k ?_
  refine leW_k ?_
  refine leW_k ?_
  refine leW_k ?_
  refine leW_k ?_
  refine leW_k ?_
  refine leW_k ?_
  refine leW_k ?_
  refine leW_k ?_
  refine leW_k ?_
  refine leW_k ?_
  refine leW_k ?_
  refine leW_k ?_
  refine leW_k ?_
  refine leW_k ?_
  refine leW_k ?_
  refine leW_k ?_
  refine leW_k ?_
  refine leW_k ?_
  refine leW_k ?_
  refine leW_k ?_
  refine leW_k ?_
  refine leW_k ?_
  refine leW_k ?_
  exact leW_0

theorem wx_up_4 {G : va_G} {cx a : Nat → Nat} {σ : Nat → Int → Int} {i v : Int} (h : 0 ≤ i ∧ i < 64) : leW G vwCl ((wx cx a σ).set 4 (a 4, .inl (cx 0, 64, .inl (aI (ups (fun k => σ 0 (10 + k)) i v))))) (wx cx a (st σ 0 (10 + i) v)) := by
  refine leW_k ?_
  refine leW_k ?_
  refine leW_k ?_
  refine leW_o ?_ ?_
  rotate_left
  · rw [show st σ 0 (10 + i) v 0 0 = σ 0 0 from by rw [st_a]; exact if_neg (by omega), show st σ 0 (10 + i) v 0 74 = σ 0 74 from by rw [st_a]; exact if_neg (by omega)]
  refine leW_i ?_ (fun k h1 h2 => ?_)
  rotate_left
  · show (if k = i then v else σ 0 (10 + k)) = (if 10 + k = (10 + i) then v else σ 0 (10 + k))
    by_cases hk : k = i
    · rw [if_pos hk, if_pos (by omega)]
    · rw [if_neg hk, if_neg (by omega)]
  refine leW_i ?_ (fun k h1 h2 => ?_)
  rotate_left
  · show σ 0 (1 + k) = (if 1 + k = (10 + i) then v else σ 0 (1 + k))
    rw [if_neg (by omega)]
  refine leW_i ?_ (fun k h1 h2 => ?_)
  rotate_left
  · show σ 0 (75 + k) = (if 75 + k = (10 + i) then v else σ 0 (75 + k))
    rw [if_neg (by omega)]
  refine leW_i ?_ (fun k h1 h2 => ?_)
  rotate_left
  · show σ 0 (91 + k) = (if 91 + k = (10 + i) then v else σ 0 (91 + k))
    rw [if_neg (by omega)]
  refine leW_k ?_
  refine leW_k ?_
  refine leW_k ?_
  refine leW_k ?_
  refine leW_k ?_
  refine leW_k ?_
  refine leW_k ?_
  refine leW_k ?_
  refine leW_k ?_
  refine leW_k ?_
  refine leW_k ?_
  refine leW_k ?_
  refine leW_k ?_
  refine leW_k ?_
  refine leW_k ?_
  refine leW_k ?_
  refine leW_k ?_
  refine leW_k ?_
  refine leW_k ?_
  refine leW_k ?_
  refine leW_k ?_
  refine leW_k ?_
  refine leW_k ?_
  refine leW_k ?_
  refine leW_k ?_
  refine leW_k ?_
  refine leW_k ?_
  refine leW_k ?_
  refine leW_k ?_
  refine leW_k ?_
  refine leW_k ?_
  refine leW_k ?_
  refine leW_k ?_
  refine leW_k ?_
  refine leW_k ?_
  refine leW_k ?_
  refine leW_k ?_
  refine leW_k ?_
  refine leW_k ?_
  refine leW_k ?_
  refine leW_k ?_
  refine leW_k ?_
  refine leW_k ?_
  refine leW_k ?_
  refine leW_k ?_
  refine leW_k ?_
  refine leW_k ?_
  refine leW_k ?_
  refine leW_k ?_
  refine leW_k ?_
  refine leW_k ?_
  refine leW_k ?_
  refine leW_k ?_
  refine leW_k ?_
  refine leW_k ?_
  refine leW_k ?_
  refine leW_k ?_
  refine leW_k ?_
  refine leW_k ?_
  refine leW_k ?_
  refine leW_k ?_
  refine leW_k ?_
  exact leW_0

theorem wx_up_5 {G : va_G} {cx a : Nat → Nat} {σ : Nat → Int → Int} {i v : Int} (h : 0 ≤ i ∧ i < 9) : leW G vwCl ((wx cx a σ).set 5 (a 5, .inl (cx 0, 9, .inl (aI (ups (fun k => σ 0 (1 + k)) i v))))) (wx cx a (st σ 0 (1 + i) v)) := by
  refine leW_k ?_
  refine leW_k ?_
  refine leW_k ?_
  refine leW_o ?_ ?_
  rotate_left
  · rw [show st σ 0 (1 + i) v 0 0 = σ 0 0 from by rw [st_a]; exact if_neg (by omega), show st σ 0 (1 + i) v 0 74 = σ 0 74 from by rw [st_a]; exact if_neg (by omega)]
  refine leW_i ?_ (fun k h1 h2 => ?_)
  rotate_left
  · show σ 0 (10 + k) = (if 10 + k = (1 + i) then v else σ 0 (10 + k))
    rw [if_neg (by omega)]
  refine leW_i ?_ (fun k h1 h2 => ?_)
  rotate_left
  · show (if k = i then v else σ 0 (1 + k)) = (if 1 + k = (1 + i) then v else σ 0 (1 + k))
    by_cases hk : k = i
    · rw [if_pos hk, if_pos (by omega)]
    · rw [if_neg hk, if_neg (by omega)]
  refine leW_i ?_ (fun k h1 h2 => ?_)
  rotate_left
  · show σ 0 (75 + k) = (if 75 + k = (1 + i) then v else σ 0 (75 + k))
    rw [if_neg (by omega)]
  refine leW_i ?_ (fun k h1 h2 => ?_)
  rotate_left
  · show σ 0 (91 + k) = (if 91 + k = (1 + i) then v else σ 0 (91 + k))
    rw [if_neg (by omega)]
  refine leW_k ?_
  refine leW_k ?_
  refine leW_k ?_
  refine leW_k ?_
  refine leW_k ?_
  refine leW_k ?_
  refine leW_k ?_
  refine leW_k ?_
  refine leW_k ?_
  refine leW_k ?_
  refine leW_k ?_
  refine leW_k ?_
  refine leW_k ?_
  refine leW_k ?_
  refine leW_k ?_
  refine leW_k ?_
  refine leW_k ?_
  refine leW_k ?_
  refine leW_k ?_
  refine leW_k ?_
  refine leW_k ?_
  refine leW_k ?_
  refine leW_k ?_
  refine leW_k ?_
  refine leW_k ?_
  refine leW_k ?_
  refine leW_k ?_
  refine leW_k ?_
  refine leW_k ?_
  refine leW_k ?_
  refine leW_k ?_
  refine leW_k ?_
  refine leW_k ?_
  refine leW_k ?_
  refine leW_k ?_
  refine leW_k ?_
  refine leW_k ?_
  refine leW_k ?_
  refine leW_k ?_
  refine leW_k ?_
  refine leW_k ?_
  refine leW_k ?_
  refine leW_k ?_
  refine leW_k ?_
  refine leW_k ?_
  refine leW_k ?_
  refine leW_k ?_
  refine leW_k ?_
  refine leW_k ?_
  refine leW_k ?_
  refine leW_k ?_
  refine leW_k ?_
  refine leW_k ?_
  refine leW_k ?_
  refine leW_k ?_
  refine leW_k ?_
  refine leW_k ?_
  refine leW_k ?_
  refine leW_k ?_
  refine leW_k ?_
  refine leW_k ?_
  refine leW_k ?_
  exact leW_0

theorem wx_up_6 {G : va_G} {cx a : Nat → Nat} {σ : Nat → Int → Int} {i v : Int} (h : 0 ≤ i ∧ i < 16) : leW G vwCl ((wx cx a σ).set 6 (a 6, .inl (cx 0, 16, .inl (aI (ups (fun k => σ 0 (75 + k)) i v))))) (wx cx a (st σ 0 (75 + i) v)) := by
  refine leW_k ?_
  refine leW_k ?_
  refine leW_k ?_
  refine leW_o ?_ ?_
  rotate_left
  · rw [show st σ 0 (75 + i) v 0 0 = σ 0 0 from by rw [st_a]; exact if_neg (by omega), show st σ 0 (75 + i) v 0 74 = σ 0 74 from by rw [st_a]; exact if_neg (by omega)]
  refine leW_i ?_ (fun k h1 h2 => ?_)
  rotate_left
  · show σ 0 (10 + k) = (if 10 + k = (75 + i) then v else σ 0 (10 + k))
    rw [if_neg (by omega)]
  refine leW_i ?_ (fun k h1 h2 => ?_)
  rotate_left
  · show σ 0 (1 + k) = (if 1 + k = (75 + i) then v else σ 0 (1 + k))
    rw [if_neg (by omega)]
  refine leW_i ?_ (fun k h1 h2 => ?_)
  rotate_left
  · show (if k = i then v else σ 0 (75 + k)) = (if 75 + k = (75 + i) then v else σ 0 (75 + k))
    by_cases hk : k = i
    · rw [if_pos hk, if_pos (by omega)]
    · rw [if_neg hk, if_neg (by omega)]
  refine leW_i ?_ (fun k h1 h2 => ?_)
  rotate_left
  · show σ 0 (91 + k) = (if 91 + k = (75 + i) then v else σ 0 (91 + k))
    rw [if_neg (by omega)]
  refine leW_k ?_
  refine leW_k ?_
  refine leW_k ?_
  refine leW_k ?_
  refine leW_k ?_
  refine leW_k ?_
  refine leW_k ?_
  refine leW_k ?_
  refine leW_k ?_
  refine leW_k ?_
  refine leW_k ?_
  refine leW_k ?_
  refine leW_k ?_
  refine leW_k ?_
  refine leW_k ?_
  refine leW_k ?_
  refine leW_k ?_
  refine leW_k ?_
  refine leW_k ?_
  refine leW_k ?_
  refine leW_k ?_
  refine leW_k ?_
  refine leW_k ?_
  refine leW_k ?_
  refine leW_k ?_
  refine leW_k ?_
  refine leW_k ?_
  refine leW_k ?_
  refine leW_k ?_
  refine leW_k ?_
  refine leW_k ?_
  refine leW_k ?_
  refine leW_k ?_
  refine leW_k ?_
  refine leW_k ?_
  refine leW_k ?_
  refine leW_k ?_
  refine leW_k ?_
  refine leW_k ?_
  refine leW_k ?_
  refine leW_k ?_
  refine leW_k ?_
  refine leW_k ?_
  refine leW_k ?_
  refine leW_k ?_
  refine leW_k ?_
  refine leW_k ?_
  refine leW_k ?_
  refine leW_k ?_
  refine leW_k ?_
  refine leW_k ?_
  refine leW_k ?_
  refine leW_k ?_
  refine leW_k ?_
  refine leW_k ?_
  refine leW_k ?_
  refine leW_k ?_
  refine leW_k ?_
  refine leW_k ?_
  refine leW_k ?_
  refine leW_k ?_
  refine leW_k ?_
  exact leW_0

theorem wx_up_7 {G : va_G} {cx a : Nat → Nat} {σ : Nat → Int → Int} {i v : Int} (h : 0 ≤ i ∧ i < 16) : leW G vwCl ((wx cx a σ).set 7 (a 7, .inl (cx 0, 16, .inl (aI (ups (fun k => σ 0 (91 + k)) i v))))) (wx cx a (st σ 0 (91 + i) v)) := by
  refine leW_k ?_
  refine leW_k ?_
  refine leW_k ?_
  refine leW_o ?_ ?_
  rotate_left
  · rw [show st σ 0 (91 + i) v 0 0 = σ 0 0 from by rw [st_a]; exact if_neg (by omega), show st σ 0 (91 + i) v 0 74 = σ 0 74 from by rw [st_a]; exact if_neg (by omega)]
  refine leW_i ?_ (fun k h1 h2 => ?_)
  rotate_left
  · show σ 0 (10 + k) = (if 10 + k = (91 + i) then v else σ 0 (10 + k))
    rw [if_neg (by omega)]
  refine leW_i ?_ (fun k h1 h2 => ?_)
  rotate_left
  · show σ 0 (1 + k) = (if 1 + k = (91 + i) then v else σ 0 (1 + k))
    rw [if_neg (by omega)]
  refine leW_i ?_ (fun k h1 h2 => ?_)
  rotate_left
  · show σ 0 (75 + k) = (if 75 + k = (91 + i) then v else σ 0 (75 + k))
    rw [if_neg (by omega)]
  refine leW_i ?_ (fun k h1 h2 => ?_)
  rotate_left
  · show (if k = i then v else σ 0 (91 + k)) = (if 91 + k = (91 + i) then v else σ 0 (91 + k))
    by_cases hk : k = i
    · rw [if_pos hk, if_pos (by omega)]
    · rw [if_neg hk, if_neg (by omega)]
  refine leW_k ?_
  refine leW_k ?_
  refine leW_k ?_
  refine leW_k ?_
  refine leW_k ?_
  refine leW_k ?_
  refine leW_k ?_
  refine leW_k ?_
  refine leW_k ?_
  refine leW_k ?_
  refine leW_k ?_
  refine leW_k ?_
  refine leW_k ?_
  refine leW_k ?_
  refine leW_k ?_
  refine leW_k ?_
  refine leW_k ?_
  refine leW_k ?_
  refine leW_k ?_
  refine leW_k ?_
  refine leW_k ?_
  refine leW_k ?_
  refine leW_k ?_
  refine leW_k ?_
  refine leW_k ?_
  refine leW_k ?_
  refine leW_k ?_
  refine leW_k ?_
  refine leW_k ?_
  refine leW_k ?_
  refine leW_k ?_
  refine leW_k ?_
  refine leW_k ?_
  refine leW_k ?_
  refine leW_k ?_
  refine leW_k ?_
  refine leW_k ?_
  refine leW_k ?_
  refine leW_k ?_
  refine leW_k ?_
  refine leW_k ?_
  refine leW_k ?_
  refine leW_k ?_
  refine leW_k ?_
  refine leW_k ?_
  refine leW_k ?_
  refine leW_k ?_
  refine leW_k ?_
  refine leW_k ?_
  refine leW_k ?_
  refine leW_k ?_
  refine leW_k ?_
  refine leW_k ?_
  refine leW_k ?_
  refine leW_k ?_
  refine leW_k ?_
  refine leW_k ?_
  refine leW_k ?_
  refine leW_k ?_
  refine leW_k ?_
  refine leW_k ?_
  refine leW_k ?_
  exact leW_0

theorem wx_pf_8_1 {G : va_G} {cx a : Nat → Nat} {σ : Nat → Int → Int} {v : Int} : leW G vwCl ((wx cx a σ).set 8 (a 8, .inr (0, [.ref (a 3), .int (iI v), .int (iI (σ 21 1)), .ref (a 9), .ref (a 10), .ref (a 11), .ref (a 12), .ref (a 13)]))) (wx cx a (st σ 21 0 v)) := by
  refine leW_k ?_
  refine leW_k ?_
  refine leW_k ?_
  refine leW_k ?_
  refine leW_k ?_
  refine leW_k ?_
  refine leW_k ?_
  refine leW_k ?_
  refine leW_o ?_ rfl
  refine leW_k ?_
  refine leW_k ?_
  refine leW_k ?_
  refine leW_k ?_
  refine leW_k ?_
  refine leW_k ?_
  refine leW_k ?_
  refine leW_k ?_
  refine leW_k ?_
  refine leW_k ?_
  refine leW_k ?_
  refine leW_k ?_
  refine leW_k ?_
  refine leW_k ?_
  refine leW_k ?_
  refine leW_k ?_
  refine leW_k ?_
  refine leW_k ?_
  refine leW_k ?_
  refine leW_k ?_
  refine leW_k ?_
  refine leW_k ?_
  refine leW_k ?_
  refine leW_k ?_
  refine leW_k ?_
  refine leW_k ?_
  refine leW_k ?_
  refine leW_k ?_
  refine leW_k ?_
  refine leW_k ?_
  refine leW_k ?_
  refine leW_k ?_
  refine leW_k ?_
  refine leW_k ?_
  refine leW_k ?_
  refine leW_k ?_
  refine leW_k ?_
  refine leW_k ?_
  refine leW_k ?_
  refine leW_k ?_
  refine leW_k ?_
  refine leW_k ?_
  refine leW_k ?_
  refine leW_k ?_
  refine leW_k ?_
  refine leW_k ?_
  refine leW_k ?_
  refine leW_k ?_
  refine leW_k ?_
  refine leW_k ?_
  refine leW_k ?_
  refine leW_k ?_
  refine leW_k ?_
  refine leW_k ?_
  refine leW_k ?_
  refine leW_k ?_
  refine leW_k ?_
  refine leW_k ?_
  refine leW_k ?_
  refine leW_k ?_
  refine leW_k ?_
  exact leW_0

theorem wx_pf_8_2 {G : va_G} {cx a : Nat → Nat} {σ : Nat → Int → Int} {v : Int} : leW G vwCl ((wx cx a σ).set 8 (a 8, .inr (0, [.ref (a 3), .int (iI (σ 21 0)), .int (iI v), .ref (a 9), .ref (a 10), .ref (a 11), .ref (a 12), .ref (a 13)]))) (wx cx a (st σ 21 1 v)) := by
  refine leW_k ?_
  refine leW_k ?_
  refine leW_k ?_
  refine leW_k ?_
  refine leW_k ?_
  refine leW_k ?_
  refine leW_k ?_
  refine leW_k ?_
  refine leW_o ?_ rfl
  refine leW_k ?_
  refine leW_k ?_
  refine leW_k ?_
  refine leW_k ?_
  refine leW_k ?_
  refine leW_k ?_
  refine leW_k ?_
  refine leW_k ?_
  refine leW_k ?_
  refine leW_k ?_
  refine leW_k ?_
  refine leW_k ?_
  refine leW_k ?_
  refine leW_k ?_
  refine leW_k ?_
  refine leW_k ?_
  refine leW_k ?_
  refine leW_k ?_
  refine leW_k ?_
  refine leW_k ?_
  refine leW_k ?_
  refine leW_k ?_
  refine leW_k ?_
  refine leW_k ?_
  refine leW_k ?_
  refine leW_k ?_
  refine leW_k ?_
  refine leW_k ?_
  refine leW_k ?_
  refine leW_k ?_
  refine leW_k ?_
  refine leW_k ?_
  refine leW_k ?_
  refine leW_k ?_
  refine leW_k ?_
  refine leW_k ?_
  refine leW_k ?_
  refine leW_k ?_
  refine leW_k ?_
  refine leW_k ?_
  refine leW_k ?_
  refine leW_k ?_
  refine leW_k ?_
  refine leW_k ?_
  refine leW_k ?_
  refine leW_k ?_
  refine leW_k ?_
  refine leW_k ?_
  refine leW_k ?_
  refine leW_k ?_
  refine leW_k ?_
  refine leW_k ?_
  refine leW_k ?_
  refine leW_k ?_
  refine leW_k ?_
  refine leW_k ?_
  refine leW_k ?_
  refine leW_k ?_
  refine leW_k ?_
  refine leW_k ?_
  refine leW_k ?_
  exact leW_0

theorem wx_up_9 {G : va_G} {cx a : Nat → Nat} {σ : Nat → Int → Int} {i v : Int} (h : 0 ≤ i ∧ i < 33) : leW G vwCl ((wx cx a σ).set 9 (a 9, .inl (cx 0, 33, .inl (aI (ups (σ 14) i v))))) (wx cx a (st σ 14 i v)) := by
  refine leW_k ?_
  refine leW_k ?_
  refine leW_k ?_
  refine leW_k ?_
  refine leW_k ?_
  refine leW_k ?_
  refine leW_k ?_
  refine leW_k ?_
  refine leW_k ?_
  refine leW_k ?_
  refine leW_k ?_
  refine leW_k ?_
  refine leW_k ?_
  refine leW_k ?_
  refine leW_k ?_
  refine leW_k ?_
  refine leW_k ?_
  refine leW_k ?_
  refine leW_k ?_
  refine leW_k ?_
  refine leW_k ?_
  refine leW_k ?_
  refine leW_k ?_
  refine leW_k ?_
  refine leW_k ?_
  refine leW_k ?_
  refine leW_k ?_
  refine leW_k ?_
  refine leW_k ?_
  refine leW_k ?_
  refine leW_k ?_
  refine leW_k ?_
  refine leW_k ?_
  refine leW_k ?_
  refine leW_k ?_
  refine leW_k ?_
  refine leW_k ?_
  refine leW_k ?_
  refine leW_k ?_
  refine leW_k ?_
  refine leW_k ?_
  refine leW_k ?_
  refine leW_k ?_
  refine leW_k ?_
  refine leW_k ?_
  refine leW_k ?_
  refine leW_k ?_
  refine leW_k ?_
  refine leW_k ?_
  refine leW_k ?_
  refine leW_k ?_
  refine leW_k ?_
  refine leW_k ?_
  refine leW_k ?_
  refine leW_k ?_
  refine leW_k ?_
  refine leW_k ?_
  refine leW_k ?_
  refine leW_k ?_
  refine leW_k ?_
  refine leW_k ?_
  refine leW_k ?_
  refine leW_k ?_
  refine leW_k ?_
  refine leW_k ?_
  refine leW_k ?_
  refine leW_k ?_
  refine leW_k ?_
  refine leW_k ?_
  refine leW_k ?_
  exact leW_0

theorem wx_up_10 {G : va_G} {cx a : Nat → Nat} {σ : Nat → Int → Int} {i v : Int} (h : 0 ≤ i ∧ i < 16) : leW G vwCl ((wx cx a σ).set 10 (a 10, .inl (cx 0, 16, .inl (aI (ups (σ 15) i v))))) (wx cx a (st σ 15 i v)) := by
  refine leW_k ?_
  refine leW_k ?_
  refine leW_k ?_
  refine leW_k ?_
  refine leW_k ?_
  refine leW_k ?_
  refine leW_k ?_
  refine leW_k ?_
  refine leW_k ?_
  refine leW_k ?_
  refine leW_k ?_
  refine leW_k ?_
  refine leW_k ?_
  refine leW_k ?_
  refine leW_k ?_
  refine leW_k ?_
  refine leW_k ?_
  refine leW_k ?_
  refine leW_k ?_
  refine leW_k ?_
  refine leW_k ?_
  refine leW_k ?_
  refine leW_k ?_
  refine leW_k ?_
  refine leW_k ?_
  refine leW_k ?_
  refine leW_k ?_
  refine leW_k ?_
  refine leW_k ?_
  refine leW_k ?_
  refine leW_k ?_
  refine leW_k ?_
  refine leW_k ?_
  refine leW_k ?_
  refine leW_k ?_
  refine leW_k ?_
  refine leW_k ?_
  refine leW_k ?_
  refine leW_k ?_
  refine leW_k ?_
  refine leW_k ?_
  refine leW_k ?_
  refine leW_k ?_
  refine leW_k ?_
  refine leW_k ?_
  refine leW_k ?_
  refine leW_k ?_
  refine leW_k ?_
  refine leW_k ?_
  refine leW_k ?_
  refine leW_k ?_
  refine leW_k ?_
  refine leW_k ?_
  refine leW_k ?_
  refine leW_k ?_
  refine leW_k ?_
  refine leW_k ?_
  refine leW_k ?_
  refine leW_k ?_
  refine leW_k ?_
  refine leW_k ?_
  refine leW_k ?_
  refine leW_k ?_
  refine leW_k ?_
  refine leW_k ?_
  refine leW_k ?_
  refine leW_k ?_
  refine leW_k ?_
  refine leW_k ?_
  refine leW_k ?_
  exact leW_0

theorem wx_up_11 {G : va_G} {cx a : Nat → Nat} {σ : Nat → Int → Int} {i v : Int} (h : 0 ≤ i ∧ i < 16) : leW G vwCl ((wx cx a σ).set 11 (a 11, .inl (cx 0, 16, .inl (aI (ups (σ 16) i v))))) (wx cx a (st σ 16 i v)) := by
  refine leW_k ?_
  refine leW_k ?_
  refine leW_k ?_
  refine leW_k ?_
  refine leW_k ?_
  refine leW_k ?_
  refine leW_k ?_
  refine leW_k ?_
  refine leW_k ?_
  refine leW_k ?_
  refine leW_k ?_
  refine leW_k ?_
  refine leW_k ?_
  refine leW_k ?_
  refine leW_k ?_
  refine leW_k ?_
  refine leW_k ?_
  refine leW_k ?_
  refine leW_k ?_
  refine leW_k ?_
  refine leW_k ?_
  refine leW_k ?_
  refine leW_k ?_
  refine leW_k ?_
  refine leW_k ?_
  refine leW_k ?_
  refine leW_k ?_
  refine leW_k ?_
  refine leW_k ?_
  refine leW_k ?_
  refine leW_k ?_
  refine leW_k ?_
  refine leW_k ?_
  refine leW_k ?_
  refine leW_k ?_
  refine leW_k ?_
  refine leW_k ?_
  refine leW_k ?_
  refine leW_k ?_
  refine leW_k ?_
  refine leW_k ?_
  refine leW_k ?_
  refine leW_k ?_
  refine leW_k ?_
  refine leW_k ?_
  refine leW_k ?_
  refine leW_k ?_
  refine leW_k ?_
  refine leW_k ?_
  refine leW_k ?_
  refine leW_k ?_
  refine leW_k ?_
  refine leW_k ?_
  refine leW_k ?_
  refine leW_k ?_
  refine leW_k ?_
  refine leW_k ?_
  refine leW_k ?_
  refine leW_k ?_
  refine leW_k ?_
  refine leW_k ?_
  refine leW_k ?_
  refine leW_k ?_
  refine leW_k ?_
  refine leW_k ?_
  refine leW_k ?_
  refine leW_k ?_
  refine leW_k ?_
  refine leW_k ?_
  refine leW_k ?_
  exact leW_0

theorem wx_up_12 {G : va_G} {cx a : Nat → Nat} {σ : Nat → Int → Int} {i v : Int} (h : 0 ≤ i ∧ i < 561) : leW G vwCl ((wx cx a σ).set 12 (a 12, .inl (cx 0, 561, .inl (aI (ups (σ 17) i v))))) (wx cx a (st σ 17 i v)) := by
  refine leW_k ?_
  refine leW_k ?_
  refine leW_k ?_
  refine leW_k ?_
  refine leW_k ?_
  refine leW_k ?_
  refine leW_k ?_
  refine leW_k ?_
  refine leW_k ?_
  refine leW_k ?_
  refine leW_k ?_
  refine leW_k ?_
  refine leW_k ?_
  refine leW_k ?_
  refine leW_k ?_
  refine leW_k ?_
  refine leW_k ?_
  refine leW_k ?_
  refine leW_k ?_
  refine leW_k ?_
  refine leW_k ?_
  refine leW_k ?_
  refine leW_k ?_
  refine leW_k ?_
  refine leW_k ?_
  refine leW_k ?_
  refine leW_k ?_
  refine leW_k ?_
  refine leW_k ?_
  refine leW_k ?_
  refine leW_k ?_
  refine leW_k ?_
  refine leW_k ?_
  refine leW_k ?_
  refine leW_k ?_
  refine leW_k ?_
  refine leW_k ?_
  refine leW_k ?_
  refine leW_k ?_
  refine leW_k ?_
  refine leW_k ?_
  refine leW_k ?_
  refine leW_k ?_
  refine leW_k ?_
  refine leW_k ?_
  refine leW_k ?_
  refine leW_k ?_
  refine leW_k ?_
  refine leW_k ?_
  refine leW_k ?_
  refine leW_k ?_
  refine leW_k ?_
  refine leW_k ?_
  refine leW_k ?_
  refine leW_k ?_
  refine leW_k ?_
  refine leW_k ?_
  refine leW_k ?_
  refine leW_k ?_
  refine leW_k ?_
  refine leW_k ?_
  refine leW_k ?_
  refine leW_k ?_
  refine leW_k ?_
  refine leW_k ?_
  refine leW_k ?_
  refine leW_k ?_
  refine leW_k ?_
  refine leW_k ?_
  refine leW_k ?_
  exact leW_0

theorem wx_up_13 {G : va_G} {cx a : Nat → Nat} {σ : Nat → Int → Int} {i v : Int} (h : 0 ≤ i ∧ i < 17) : leW G vwCl ((wx cx a σ).set 13 (a 13, .inl (cx 0, 17, .inl (aI (ups (σ 18) i v))))) (wx cx a (st σ 18 i v)) := by
  refine leW_k ?_
  refine leW_k ?_
  refine leW_k ?_
  refine leW_k ?_
  refine leW_k ?_
  refine leW_k ?_
  refine leW_k ?_
  refine leW_k ?_
  refine leW_k ?_
  refine leW_k ?_
  refine leW_k ?_
  refine leW_k ?_
  refine leW_k ?_
  refine leW_k ?_
  refine leW_k ?_
  refine leW_k ?_
  refine leW_k ?_
  refine leW_k ?_
  refine leW_k ?_
  refine leW_k ?_
  refine leW_k ?_
  refine leW_k ?_
  refine leW_k ?_
  refine leW_k ?_
  refine leW_k ?_
  refine leW_k ?_
  refine leW_k ?_
  refine leW_k ?_
  refine leW_k ?_
  refine leW_k ?_
  refine leW_k ?_
  refine leW_k ?_
  refine leW_k ?_
  refine leW_k ?_
  refine leW_k ?_
  refine leW_k ?_
  refine leW_k ?_
  refine leW_k ?_
  refine leW_k ?_
  refine leW_k ?_
  refine leW_k ?_
  refine leW_k ?_
  refine leW_k ?_
  refine leW_k ?_
  refine leW_k ?_
  refine leW_k ?_
  refine leW_k ?_
  refine leW_k ?_
  refine leW_k ?_
  refine leW_k ?_
  refine leW_k ?_
  refine leW_k ?_
  refine leW_k ?_
  refine leW_k ?_
  refine leW_k ?_
  refine leW_k ?_
  refine leW_k ?_
  refine leW_k ?_
  refine leW_k ?_
  refine leW_k ?_
  refine leW_k ?_
  refine leW_k ?_
  refine leW_k ?_
  refine leW_k ?_
  refine leW_k ?_
  refine leW_k ?_
  refine leW_k ?_
  refine leW_k ?_
  refine leW_k ?_
  refine leW_k ?_
  exact leW_0

theorem wx_up_15 {G : va_G} {cx a : Nat → Nat} {σ : Nat → Int → Int} {i v : Int} (h : 0 ≤ i ∧ i < 16) : leW G vwCl ((wx cx a σ).set 15 (a 15, .inl (cx 0, 16, .inl (aI (ups (σ 19) i v))))) (wx cx a (st σ 19 i v)) := by
  refine leW_k ?_
  refine leW_k ?_
  refine leW_k ?_
  refine leW_k ?_
  refine leW_k ?_
  refine leW_k ?_
  refine leW_k ?_
  refine leW_k ?_
  refine leW_k ?_
  refine leW_k ?_
  refine leW_k ?_
  refine leW_k ?_
  refine leW_k ?_
  refine leW_k ?_
  refine leW_k ?_
  refine leW_k ?_
  refine leW_k ?_
  refine leW_k ?_
  refine leW_k ?_
  refine leW_k ?_
  refine leW_k ?_
  refine leW_k ?_
  refine leW_k ?_
  refine leW_k ?_
  refine leW_k ?_
  refine leW_k ?_
  refine leW_k ?_
  refine leW_k ?_
  refine leW_k ?_
  refine leW_k ?_
  refine leW_k ?_
  refine leW_k ?_
  refine leW_k ?_
  refine leW_k ?_
  refine leW_k ?_
  refine leW_k ?_
  refine leW_k ?_
  refine leW_k ?_
  refine leW_k ?_
  refine leW_k ?_
  refine leW_k ?_
  refine leW_k ?_
  refine leW_k ?_
  refine leW_k ?_
  refine leW_k ?_
  refine leW_k ?_
  refine leW_k ?_
  refine leW_k ?_
  refine leW_k ?_
  refine leW_k ?_
  refine leW_k ?_
  refine leW_k ?_
  refine leW_k ?_
  refine leW_k ?_
  refine leW_k ?_
  refine leW_k ?_
  refine leW_k ?_
  refine leW_k ?_
  refine leW_k ?_
  refine leW_k ?_
  refine leW_k ?_
  refine leW_k ?_
  refine leW_k ?_
  refine leW_k ?_
  refine leW_k ?_
  refine leW_k ?_
  refine leW_k ?_
  refine leW_k ?_
  refine leW_k ?_
  refine leW_k ?_
  exact leW_0

theorem wx_up_16 {G : va_G} {cx a : Nat → Nat} {σ : Nat → Int → Int} {i v : Int} (h : 0 ≤ i ∧ i < 16) : leW G vwCl ((wx cx a σ).set 16 (a 16, .inl (cx 1, 16, .inr (.inl (aL (ups (σ 20) i v)))))) (wx cx a (st σ 20 i v)) := by
  refine leW_k ?_
  refine leW_k ?_
  refine leW_k ?_
  refine leW_k ?_
  refine leW_k ?_
  refine leW_k ?_
  refine leW_k ?_
  refine leW_k ?_
  refine leW_k ?_
  refine leW_k ?_
  refine leW_k ?_
  refine leW_k ?_
  refine leW_k ?_
  refine leW_k ?_
  refine leW_k ?_
  refine leW_k ?_
  refine leW_k ?_
  refine leW_k ?_
  refine leW_k ?_
  refine leW_k ?_
  refine leW_k ?_
  refine leW_k ?_
  refine leW_k ?_
  refine leW_k ?_
  refine leW_k ?_
  refine leW_k ?_
  refine leW_k ?_
  refine leW_k ?_
  refine leW_k ?_
  refine leW_k ?_
  refine leW_k ?_
  refine leW_k ?_
  refine leW_k ?_
  refine leW_k ?_
  refine leW_k ?_
  refine leW_k ?_
  refine leW_k ?_
  refine leW_k ?_
  refine leW_k ?_
  refine leW_k ?_
  refine leW_k ?_
  refine leW_k ?_
  refine leW_k ?_
  refine leW_k ?_
  refine leW_k ?_
  refine leW_k ?_
  refine leW_k ?_
  refine leW_k ?_
  refine leW_k ?_
  refine leW_k ?_
  refine leW_k ?_
  refine leW_k ?_
  refine leW_k ?_
  refine leW_k ?_
  refine leW_k ?_
  refine leW_k ?_
  refine leW_k ?_
  refine leW_k ?_
  refine leW_k ?_
  refine leW_k ?_
  refine leW_k ?_
  refine leW_k ?_
  refine leW_k ?_
  refine leW_k ?_
  refine leW_k ?_
  refine leW_k ?_
  refine leW_k ?_
  refine leW_k ?_
  refine leW_k ?_
  refine leW_k ?_
  exact leW_0

theorem wx_pf_17_1 {G : va_G} {cx a : Nat → Nat} {σ : Nat → Int → Int} {v : Int} : leW G vwCl ((wx cx a σ).set 17 (a 17, .inr (1, [.ref (a 18), .int (iI v), .int (iI (σ 12 1))]))) (wx cx a (st σ 12 0 v)) := by
  refine leW_k ?_
  refine leW_k ?_
  refine leW_k ?_
  refine leW_k ?_
  refine leW_k ?_
  refine leW_k ?_
  refine leW_k ?_
  refine leW_k ?_
  refine leW_k ?_
  refine leW_k ?_
  refine leW_k ?_
  refine leW_k ?_
  refine leW_k ?_
  refine leW_k ?_
  refine leW_k ?_
  refine leW_k ?_
  refine leW_k ?_
  refine leW_o ?_ rfl
  refine leW_k ?_
  refine leW_k ?_
  refine leW_k ?_
  refine leW_k ?_
  refine leW_k ?_
  refine leW_k ?_
  refine leW_k ?_
  refine leW_k ?_
  refine leW_k ?_
  refine leW_k ?_
  refine leW_k ?_
  refine leW_k ?_
  refine leW_k ?_
  refine leW_k ?_
  refine leW_k ?_
  refine leW_k ?_
  refine leW_k ?_
  refine leW_k ?_
  refine leW_k ?_
  refine leW_k ?_
  refine leW_k ?_
  refine leW_k ?_
  refine leW_k ?_
  refine leW_k ?_
  refine leW_k ?_
  refine leW_k ?_
  refine leW_k ?_
  refine leW_k ?_
  refine leW_k ?_
  refine leW_k ?_
  refine leW_k ?_
  refine leW_k ?_
  refine leW_k ?_
  refine leW_k ?_
  refine leW_k ?_
  refine leW_k ?_
  refine leW_k ?_
  refine leW_k ?_
  refine leW_k ?_
  refine leW_k ?_
  refine leW_k ?_
  refine leW_k ?_
  refine leW_k ?_
  refine leW_k ?_
  refine leW_k ?_
  refine leW_k ?_
  refine leW_k ?_
  refine leW_k ?_
  refine leW_k ?_
  refine leW_k ?_
  refine leW_k ?_
  refine leW_k ?_
  exact leW_0

theorem wx_pf_17_2 {G : va_G} {cx a : Nat → Nat} {σ : Nat → Int → Int} {v : Int} : leW G vwCl ((wx cx a σ).set 17 (a 17, .inr (1, [.ref (a 18), .int (iI (σ 12 0)), .int (iI v)]))) (wx cx a (st σ 12 1 v)) := by
  refine leW_k ?_
  refine leW_k ?_
  refine leW_k ?_
  refine leW_k ?_
  refine leW_k ?_
  refine leW_k ?_
  refine leW_k ?_
  refine leW_k ?_
  refine leW_k ?_
  refine leW_k ?_
  refine leW_k ?_
  refine leW_k ?_
  refine leW_k ?_
  refine leW_k ?_
  refine leW_k ?_
  refine leW_k ?_
  refine leW_k ?_
  refine leW_o ?_ rfl
  refine leW_k ?_
  refine leW_k ?_
  refine leW_k ?_
  refine leW_k ?_
  refine leW_k ?_
  refine leW_k ?_
  refine leW_k ?_
  refine leW_k ?_
  refine leW_k ?_
  refine leW_k ?_
  refine leW_k ?_
  refine leW_k ?_
  refine leW_k ?_
  refine leW_k ?_
  refine leW_k ?_
  refine leW_k ?_
  refine leW_k ?_
  refine leW_k ?_
  refine leW_k ?_
  refine leW_k ?_
  refine leW_k ?_
  refine leW_k ?_
  refine leW_k ?_
  refine leW_k ?_
  refine leW_k ?_
  refine leW_k ?_
  refine leW_k ?_
  refine leW_k ?_
  refine leW_k ?_
  refine leW_k ?_
  refine leW_k ?_
  refine leW_k ?_
  refine leW_k ?_
  refine leW_k ?_
  refine leW_k ?_
  refine leW_k ?_
  refine leW_k ?_
  refine leW_k ?_
  refine leW_k ?_
  refine leW_k ?_
  refine leW_k ?_
  refine leW_k ?_
  refine leW_k ?_
  refine leW_k ?_
  refine leW_k ?_
  refine leW_k ?_
  refine leW_k ?_
  refine leW_k ?_
  refine leW_k ?_
  refine leW_k ?_
  refine leW_k ?_
  refine leW_k ?_
  exact leW_0

theorem wm_pf_0_2 {G : va_G} {cx a : Nat → Nat} {σ : Nat → Int → Int} {v : Int} : leW G vwCl ((wm cx a σ).set 0 (a 0, .inr (5, [.ref (a 1), .ref (a 2), .int (iI v), .ref (a 3), .int (iI (σ 2 1)), .ref (a 4), .ref (a 5), .ref (a 6), .ref (a 7), .long (lI (σ 2 2)), .ref (a 8)]))) (wm cx a (st σ 2 0 v)) := by
  refine leW_o ?_ rfl
  refine leW_k ?_
  refine leW_k ?_
  refine leW_k ?_
  refine leW_k ?_
  refine leW_k ?_
  refine leW_k ?_
  refine leW_k ?_
  refine leW_k ?_
  exact leW_0

theorem wm_pf_0_4 {G : va_G} {cx a : Nat → Nat} {σ : Nat → Int → Int} {v : Int} : leW G vwCl ((wm cx a σ).set 0 (a 0, .inr (5, [.ref (a 1), .ref (a 2), .int (iI (σ 2 0)), .ref (a 3), .int (iI v), .ref (a 4), .ref (a 5), .ref (a 6), .ref (a 7), .long (lI (σ 2 2)), .ref (a 8)]))) (wm cx a (st σ 2 1 v)) := by
  refine leW_o ?_ rfl
  refine leW_k ?_
  refine leW_k ?_
  refine leW_k ?_
  refine leW_k ?_
  refine leW_k ?_
  refine leW_k ?_
  refine leW_k ?_
  refine leW_k ?_
  exact leW_0

theorem wm_pf_0_9 {G : va_G} {cx a : Nat → Nat} {σ : Nat → Int → Int} {v : Int} : leW G vwCl ((wm cx a σ).set 0 (a 0, .inr (5, [.ref (a 1), .ref (a 2), .int (iI (σ 2 0)), .ref (a 3), .int (iI (σ 2 1)), .ref (a 4), .ref (a 5), .ref (a 6), .ref (a 7), .long (lI v), .ref (a 8)]))) (wm cx a (st σ 2 2 v)) := by
  refine leW_o ?_ rfl
  refine leW_k ?_
  refine leW_k ?_
  refine leW_k ?_
  refine leW_k ?_
  refine leW_k ?_
  refine leW_k ?_
  refine leW_k ?_
  refine leW_k ?_
  exact leW_0

theorem wm_up_1 {G : va_G} {cx a : Nat → Nat} {σ : Nat → Int → Int} {i v : Int} (h : 0 ≤ i ∧ i < 107) : leW G vwCl ((wm cx a σ).set 1 (a 1, .inl (cx 0, 107, .inl (aI (ups (σ 0) i v))))) (wm cx a (st σ 0 i v)) := by
  refine leW_k ?_
  refine leW_k ?_
  refine leW_k ?_
  refine leW_k ?_
  refine leW_k ?_
  refine leW_k ?_
  refine leW_k ?_
  refine leW_k ?_
  refine leW_k ?_
  exact leW_0

theorem wm_up_2 {G : va_G} {cx a : Nat → Nat} {σ : Nat → Int → Int} {i v : Int} (h : 0 ≤ i ∧ i < 856) : leW G vwCl ((wm cx a σ).set 2 (a 2, .inl (cx 0, 856, .inl (aI (ups (σ 1) i v))))) (wm cx a (st σ 1 i v)) := by
  refine leW_k ?_
  refine leW_k ?_
  refine leW_k ?_
  refine leW_k ?_
  refine leW_k ?_
  refine leW_k ?_
  refine leW_k ?_
  refine leW_k ?_
  refine leW_k ?_
  exact leW_0

theorem wm_up_3 {G : va_G} {cx a : Nat → Nat} {σ : Nat → Int → Int} {i v : Int} (h : 0 ≤ i ∧ i < 214) : leW G vwCl ((wm cx a σ).set 3 (a 3, .inl (cx 0, 214, .inl (aI (ups (σ 3) i v))))) (wm cx a (st σ 3 i v)) := by
  refine leW_k ?_
  refine leW_k ?_
  refine leW_k ?_
  refine leW_k ?_
  refine leW_k ?_
  refine leW_k ?_
  refine leW_k ?_
  refine leW_k ?_
  refine leW_k ?_
  exact leW_0

theorem wm_up_4 {G : va_G} {cx a : Nat → Nat} {σ : Nat → Int → Int} {i v : Int} (h : 0 ≤ i ∧ i < 16) : leW G vwCl ((wm cx a σ).set 4 (a 4, .inl (cx 0, 16, .inl (aI (ups (σ 4) i v))))) (wm cx a (st σ 4 i v)) := by
  refine leW_k ?_
  refine leW_k ?_
  refine leW_k ?_
  refine leW_k ?_
  refine leW_k ?_
  refine leW_k ?_
  refine leW_k ?_
  refine leW_k ?_
  refine leW_k ?_
  exact leW_0

theorem wm_up_5 {G : va_G} {cx a : Nat → Nat} {σ : Nat → Int → Int} {i v : Int} (h : 0 ≤ i ∧ i < 16) : leW G vwCl ((wm cx a σ).set 5 (a 5, .inl (cx 0, 16, .inl (aI (ups (σ 5) i v))))) (wm cx a (st σ 5 i v)) := by
  refine leW_k ?_
  refine leW_k ?_
  refine leW_k ?_
  refine leW_k ?_
  refine leW_k ?_
  refine leW_k ?_
  refine leW_k ?_
  refine leW_k ?_
  refine leW_k ?_
  exact leW_0

theorem wm_up_6 {G : va_G} {cx a : Nat → Nat} {σ : Nat → Int → Int} {i v : Int} (h : 0 ≤ i ∧ i < 17) : leW G vwCl ((wm cx a σ).set 6 (a 6, .inl (cx 0, 17, .inl (aI (ups (σ 6) i v))))) (wm cx a (st σ 6 i v)) := by
  refine leW_k ?_
  refine leW_k ?_
  refine leW_k ?_
  refine leW_k ?_
  refine leW_k ?_
  refine leW_k ?_
  refine leW_k ?_
  refine leW_k ?_
  refine leW_k ?_
  exact leW_0

theorem wm_up_7 {G : va_G} {cx a : Nat → Nat} {σ : Nat → Int → Int} {i v : Int} (h : 0 ≤ i ∧ i < 544) : leW G vwCl ((wm cx a σ).set 7 (a 7, .inl (cx 1, 544, .inr (.inl (aL (ups (σ 7) i v)))))) (wm cx a (st σ 7 i v)) := by
  refine leW_k ?_
  refine leW_k ?_
  refine leW_k ?_
  refine leW_k ?_
  refine leW_k ?_
  refine leW_k ?_
  refine leW_k ?_
  refine leW_k ?_
  refine leW_k ?_
  exact leW_0

theorem wm_up_8 {G : va_G} {cx a : Nat → Nat} {σ : Nat → Int → Int} {i v : Int} (h : 0 ≤ i ∧ i < 16) : leW G vwCl ((wm cx a σ).set 8 (a 8, .inl (cx 2, 16, .inl (aI (ups (σ 8) i v))))) (wm cx a (st σ 8 i v)) := by
  refine leW_k ?_
  refine leW_k ?_
  refine leW_k ?_
  refine leW_k ?_
  refine leW_k ?_
  refine leW_k ?_
  refine leW_k ?_
  refine leW_k ?_
  refine leW_k ?_
  exact leW_0
end
section
/-! what the numbers of a loop mean: w 0 frames, w 1 .. w 9 the settings, w (10 + k) energies, w 74 how many marks, w (75 + k) marks, w (91 + k) the order -/
theorem mulb {a b A B : Int} (h1 : 0 ≤ a) (h2 : a ≤ A) (h3 : 0 ≤ b) (h4 : b ≤ B) : 0 ≤ a * b ∧ a * b ≤ A * B := ⟨Int.mul_nonneg h1 h3, Int.mul_le_mul h2 h4 h3 (by omega)⟩
theorem mz_lt (z : Int) : z < ((z.toNat + 1 : Nat) : Int) := by omega
def abI (a : Int) : Int := if 0 ≤ a then a else 0 - a
theorem iI_abs {a : Int} (h : -2147483648 < a ∧ a < 2147483648) : (if 0 ≤ iI a then iI a else 0 - iI a) = iI (abI a) := by
  have e : (0 ≤ iI a) ↔ 0 ≤ a := iI_le (a := 0) (b := a) ⟨by omega, by omega, by omega, by omega⟩
  unfold abI
  by_cases q : 0 ≤ a
  · rw [if_pos (e.mpr q), if_pos q]
  · rw [if_neg (fun z => q (e.mp z)), if_neg q]
    exact iI_sub 0 a
theorem iI_max {a b : Int} (h : -2147483648 ≤ a ∧ a < 2147483648 ∧ -2147483648 ≤ b ∧ b < 2147483648) : (if iI a < iI b then iI b else iI a) = iI (max a b) := by
  by_cases q : a < b
  · rw [if_pos ((iI_lt h).mpr q), show max a b = b by omega]
  · rw [if_neg (fun z => q ((iI_lt h).mp z)), show max a b = a by omega]
theorem iI_min {a b : Int} (h : -2147483648 ≤ a ∧ a < 2147483648 ∧ -2147483648 ≤ b ∧ b < 2147483648) : (if iI a ≤ iI b then iI a else iI b) = iI (min a b) := by
  have h2 := iI_le h
  by_cases q : a ≤ b
  · rw [if_pos (h2.mpr q), show min a b = a by omega]
  · rw [if_neg (fun z => q (h2.mp z)), show min a b = b by omega]
/-- sums over 0 .. n - 1 -/
def sumN (f : Int → Int) : Nat → Int
  | 0 => 0
  | n + 1 => sumN f n + f (n : Int)
/-- the order is one of all the slices: any sum over the places is the sum over the slices -/
def Perm (w : Int → Int) : Prop := (∀ k, 0 ≤ k → k < w 74 → 0 ≤ w (91 + k) ∧ w (91 + k) < w 74) ∧ ∀ f : Int → Int, sumN (fun k => f (w (91 + k))) (w 74).toNat = sumN f (w 74).toNat
def Inv (w : Int → Int) : Prop :=
  ((1 ≤ w 0 ∧ w 0 ≤ 64) ∧ (1 ≤ w 1 ∧ w 1 ≤ 1000) ∧ (1 ≤ w 2 ∧ w 2 ≤ 999) ∧ (1 ≤ w 3 ∧ w 3 ≤ 16) ∧ (10 ≤ w 4 ∧ w 4 ≤ 100) ∧ (100 ≤ w 5 ∧ w 5 ≤ 1000) ∧ (1 ≤ w 6 ∧ w 6 ≤ 200000) ∧ (1 ≤ w 7 ∧ w 7 ≤ 32) ∧ (0 ≤ w 8 ∧ w 8 ≤ 1) ∧ (0 ≤ w 9 ∧ w 9 ≤ 500) ∧ (1 ≤ w 74 ∧ w 74 ≤ 16) ∧ w 75 = 0) ∧
  (∀ k, 0 ≤ k → k < 64 → 0 ≤ w (10 + k) ∧ w (10 + k) ≤ 999) ∧ (∀ k, 0 ≤ k → k < w 74 → 0 ≤ w (75 + k) ∧ w (75 + k) < w 0) ∧ (∀ k, 0 ≤ k → k + 1 < w 74 → w (75 + k) < w (75 + (k + 1))) ∧ Perm w
def fr (w : Int → Int) (k : Int) : Int := if k < w 74 then w (75 + k) else w 0
def ln (w : Int → Int) (k : Int) : Int := (fr w (k + 1) - fr w k) * w 1
theorem fr_lt {w : Int → Int} {k : Int} (h : k < w 74) : fr w k = w (75 + k) := if_pos h
theorem fr_ge {w : Int → Int} {k : Int} (h : w 74 ≤ k) : fr w k = w 0 := if_neg (by omega)
theorem Inv.fr_up {w : Int → Int} (h : Inv w) {k : Int} (h0 : 0 ≤ k) (h1 : k < w 74) : fr w k < fr w (k + 1) := by
  obtain ⟨-, -, hm, hs, -⟩ := h
  rw [fr_lt h1]
  by_cases q : k + 1 < w 74
  · rw [fr_lt q]; exact hs k h0 q
  · rw [fr_ge (by omega)]; exact (hm k h0 h1).2
theorem Inv.fr_in {w : Int → Int} (h : Inv w) {k : Int} (h0 : 0 ≤ k) : 0 ≤ fr w k ∧ fr w k ≤ w 0 := by
  obtain ⟨hb, -, hm, hs, -⟩ := h
  by_cases q : k < w 74
  · rw [fr_lt q]; have := hm k h0 q; omega
  · rw [fr_ge (by omega)]; omega
theorem Inv.ln_in {w : Int → Int} (h : Inv w) {k : Int} (h0 : 0 ≤ k) (h1 : k < w 74) : 1 ≤ ln w k ∧ ln w k ≤ 64000 ∧ ln w k ≤ w 0 * w 1 := by
  have a1 := h.fr_up h0 h1
  have a2 := h.fr_in h0
  have a3 := h.fr_in (k := k + 1) (by omega)
  obtain ⟨hb, -⟩ := h
  have m1 := mulb (a := fr w (k + 1) - fr w k) (b := w 1) (A := 64) (B := 1000) (by omega) (by omega) (by omega) (by omega)
  have m2 := mulb (a := fr w (k + 1) - fr w k - 1) (b := w 1 - 1) (A := 64) (B := 1000) (by omega) (by omega) (by omega) (by omega)
  have m3 := mulb (a := w 0 - (fr w (k + 1) - fr w k)) (b := w 1) (A := 64) (B := 1000) (by omega) (by omega) (by omega) (by omega)
  unfold ln
  have e2 : (fr w (k + 1) - fr w k - 1) * (w 1 - 1) = (fr w (k + 1) - fr w k) * w 1 - (fr w (k + 1) - fr w k) - w 1 + 1 := by
    rw [Int.sub_mul, Int.mul_sub]; omega
  have e3 : (w 0 - (fr w (k + 1) - fr w k)) * w 1 = w 0 * w 1 - (fr w (k + 1) - fr w k) * w 1 := Int.sub_mul _ _ _
  omega
def po (T G i : Int) : Int := i * T / G
def fits_ (w : Int → Int) (k b : Int) : Prop := ln w k * w 4 / 100 ≤ b ∧ b ≤ ln w k * w 5 / 100
def of_ (w : Int → Int) (T G m s : Int) : Int := abI (po T G s * w 0 - fr w m * T)
theorem po_in {T G i : Int} (hT : 0 ≤ T ∧ T ≤ 200000) (hG : 1 ≤ G) (h : 0 ≤ i ∧ i ≤ G) : 0 ≤ po T G i ∧ po T G i ≤ T := by
  unfold po
  have h1 : 0 ≤ i * T := Int.mul_nonneg h.1 hT.1
  have h2 : i * T ≤ G * T := Int.mul_le_mul_of_nonneg_right h.2 hT.1
  have h3 : i * T / G ≤ G * T / G := Int.ediv_le_ediv (by omega) h2
  rw [Int.mul_ediv_cancel_left T (by omega)] at h3
  exact ⟨Int.ediv_nonneg h1 (by omega), h3⟩
theorem po_mono {T G i j : Int} (hT : 0 ≤ T) (hG : 1 ≤ G) (h : i ≤ j) : po T G i ≤ po T G j := by
  unfold po
  exact Int.ediv_le_ediv (by omega) (Int.mul_le_mul_of_nonneg_right h hT)
theorem abI_in {a B : Int} (h : -B ≤ a ∧ a ≤ B) : 0 ≤ abI a ∧ abI a ≤ B := by
  unfold abI
  split <;> omega
theorem Inv.wh_in {w : Int → Int} (h : Inv w) : 1 ≤ w 0 * w 1 ∧ w 0 * w 1 ≤ 64000 := by
  obtain ⟨hb, -⟩ := h
  have m := mulb (a := w 0) (b := w 1) (A := 64) (B := 1000) (by omega) (by omega) (by omega) (by omega)
  have p : 0 < w 0 * w 1 := Int.mul_pos (by omega) (by omega)
  omega
end
section
/-! the program: small questions to a loop (rows laid by wip/gen) -/
theorem iX2_isFrame_X2 : ∀ w ∈ wsX20, w ∈ wsX2_isFrame := fun _ h => List.mem_cons_of_mem _ (List.mem_append_right _ h)
set_option maxHeartbeats 4000000 in
set_option maxRecDepth 100000 in
theorem mX2_isFrame (l : Launch) (G : va_G) (cx a : Nat → Nat) (σ : Nat → Int → Int)  (x : Int) (hx : -2147483648 ≤ x ∧ x < 2147483648) (hI : Inv (σ 0)) : Met l yX2_isFrame wsX2_isFrame ({ frames := 0, cells := 0, slots := 0, locals := 0 }) (va_Pc [.ref (a 3), .int (iI x)] (gW G (tx cx) (XA a) (wx cx a) σ)) (va_Qi (fun r u => σ = u ∧ ∃ v, iI v = r ∧ (((0 ≤ x ∧ x < σ 0 0) ∧ v = 1) ∨ (¬ (0 ≤ x ∧ x < σ 0 0) ∧ v = 0))) (gW G (tx cx) (XA a) (wx cx a)) (XA a)) 0 0 (XA a) := by
  refine Met.ofW (cc := cX2_isFrame) (maxL := 2) (ret := some .boolean) (by decide) rfl ?_
  intro p e s m args below meth c s₁ B hml hv
  obtain ⟨rfl, hP, hK, hD⟩ := hv
  have hex := B.exec
  have hbc := B.bytes
  have hrt := B.returns
  have hts := atoms_spec (ws := wsX2_isFrame) B.pre
  have hown : s.vm.findClass RX2 = some m.cls := findClass_of_methodNamed B.named
  have hlocks := B.notSynchronized
  have hS : va_S (XA a) s.heap s.heap [] := va_S.rf
  have hin2 := iX2_isFrame_X2
  have hl := lv_entry ([.ref (a 3), .int (iI x)]) (n := 2) (Nat.le_of_ble_eq_true rfl)
  rw [lg_entry_eq]
  generalize (lg_sl ([.ref (a 3), .int (iI x)]) ++ List.replicate (2 - (lg_sl ([.ref (a 3), .int (iI x)])).length) Slot.unset).toArray = ls at hl ⊢
  have hl : lv_has ls 2 [(0, .ref (a 3)), (1, .int (iI x))] := hl
  obtain ⟨hB, hEn, hMk, hAs, hPm⟩ := id hI
  refine lv_iload_n hex hbc dX2_isFrame_0 rfl (lv_at hl 1 rfl) ?_
  refine zt_if_lt (a := x) (tgt := 16) hex hbc (by omega) dX2_isFrame_1 (by decide) (fun c1 => ?_) (fun c1 => ?_)
  · skip
    refine lv_iconst (v := iI 0) hex hbc dX2_isFrame_16 rfl ?_
    exact g_zret hex hbc hrt hlocks rfl hK hP hD hS ⟨rfl, _, rfl, by omega⟩ dX2_isFrame_17
  · skip
    refine lv_iload_n hex hbc dX2_isFrame_4 rfl (lv_at hl 1 rfl) ?_
    refine lv_aload_n hex hbc dX2_isFrame_5 rfl (lv_at hl 0 rfl) ?_
    refine va_get (v := .int (iI (σ 0 0))) hex hbc hts hin2 hown hK hP 3 rfl rfl 0 (by decide) (hts _ (List.mem_of_getElem? (i := 1) rfl)) (fun _ h => h) rfl dX2_isFrame_6 ?_
    refine zt_icmp_ge (a := x) (b := (σ 0 0)) (tgt := 16) hex hbc (by omega) dX2_isFrame_9 (by decide) (fun c9 => ?_) (fun c9 => ?_)
    · skip
      refine lv_iconst (v := iI 0) hex hbc dX2_isFrame_16 rfl ?_
      exact g_zret hex hbc hrt hlocks rfl hK hP hD hS ⟨rfl, _, rfl, by omega⟩ dX2_isFrame_17
    · skip
      refine lv_iconst (v := iI 1) hex hbc dX2_isFrame_12 rfl ?_
      refine lv_goto (tgt := 17) hex hbc dX2_isFrame_13 (by decide) ?_
      exact g_zret hex hbc hrt hlocks rfl hK hP hD hS ⟨rfl, _, rfl, by omega⟩ dX2_isFrame_17
theorem iX2_isSlice_X2 : ∀ w ∈ wsX20, w ∈ wsX2_isSlice := fun _ h => List.mem_cons_of_mem _ (List.mem_append_right _ h)
set_option maxHeartbeats 4000000 in
set_option maxRecDepth 100000 in
theorem mX2_isSlice (l : Launch) (G : va_G) (cx a : Nat → Nat) (σ : Nat → Int → Int)  (x : Int) (hx : -2147483648 ≤ x ∧ x < 2147483648) (hI : Inv (σ 0)) : Met l yX2_isSlice wsX2_isSlice ({ frames := 0, cells := 0, slots := 0, locals := 0 }) (va_Pc [.ref (a 3), .int (iI x)] (gW G (tx cx) (XA a) (wx cx a) σ)) (va_Qi (fun r u => σ = u ∧ ∃ v, iI v = r ∧ (((0 ≤ x ∧ x < σ 0 74) ∧ v = 1) ∨ (¬ (0 ≤ x ∧ x < σ 0 74) ∧ v = 0))) (gW G (tx cx) (XA a) (wx cx a)) (XA a)) 0 0 (XA a) := by
  refine Met.ofW (cc := cX2_isSlice) (maxL := 2) (ret := some .boolean) (by decide) rfl ?_
  intro p e s m args below meth c s₁ B hml hv
  obtain ⟨rfl, hP, hK, hD⟩ := hv
  have hex := B.exec
  have hbc := B.bytes
  have hrt := B.returns
  have hts := atoms_spec (ws := wsX2_isSlice) B.pre
  have hown : s.vm.findClass RX2 = some m.cls := findClass_of_methodNamed B.named
  have hlocks := B.notSynchronized
  have hS : va_S (XA a) s.heap s.heap [] := va_S.rf
  have hin2 := iX2_isSlice_X2
  have hl := lv_entry ([.ref (a 3), .int (iI x)]) (n := 2) (Nat.le_of_ble_eq_true rfl)
  rw [lg_entry_eq]
  generalize (lg_sl ([.ref (a 3), .int (iI x)]) ++ List.replicate (2 - (lg_sl ([.ref (a 3), .int (iI x)])).length) Slot.unset).toArray = ls at hl ⊢
  have hl : lv_has ls 2 [(0, .ref (a 3)), (1, .int (iI x))] := hl
  obtain ⟨hB, hEn, hMk, hAs, hPm⟩ := id hI
  refine lv_iload_n hex hbc dX2_isSlice_0 rfl (lv_at hl 1 rfl) ?_
  refine zt_if_lt (a := x) (tgt := 16) hex hbc (by omega) dX2_isSlice_1 (by decide) (fun c1 => ?_) (fun c1 => ?_)
  · skip
    refine lv_iconst (v := iI 0) hex hbc dX2_isSlice_16 rfl ?_
    exact g_zret hex hbc hrt hlocks rfl hK hP hD hS ⟨rfl, _, rfl, by omega⟩ dX2_isSlice_17
  · skip
    refine lv_iload_n hex hbc dX2_isSlice_4 rfl (lv_at hl 1 rfl) ?_
    refine lv_aload_n hex hbc dX2_isSlice_5 rfl (lv_at hl 0 rfl) ?_
    refine va_get (v := .int (iI (σ 0 74))) hex hbc hts hin2 hown hK hP 3 rfl rfl 1 (by decide) (hts _ (List.mem_of_getElem? (i := 1) rfl)) (fun _ h => h) rfl dX2_isSlice_6 ?_
    refine zt_icmp_ge (a := x) (b := (σ 0 74)) (tgt := 16) hex hbc (by omega) dX2_isSlice_9 (by decide) (fun c9 => ?_) (fun c9 => ?_)
    · skip
      refine lv_iconst (v := iI 0) hex hbc dX2_isSlice_16 rfl ?_
      exact g_zret hex hbc hrt hlocks rfl hK hP hD hS ⟨rfl, _, rfl, by omega⟩ dX2_isSlice_17
    · skip
      refine lv_iconst (v := iI 1) hex hbc dX2_isSlice_12 rfl ?_
      refine lv_goto (tgt := 17) hex hbc dX2_isSlice_13 (by decide) ?_
      exact g_zret hex hbc hrt hlocks rfl hK hP hD hS ⟨rfl, _, rfl, by omega⟩ dX2_isSlice_17
theorem iX2_isFree_X2 : ∀ w ∈ wsX20, w ∈ wsX2_isFree := fun _ h => List.mem_cons_of_mem _ (List.mem_append_right _ h)
set_option maxHeartbeats 4000000 in
set_option maxRecDepth 100000 in
theorem mX2_isFree (l : Launch) (G : va_G) (cx a : Nat → Nat) (σ : Nat → Int → Int)   (hI : Inv (σ 0)) : Met l yX2_isFree wsX2_isFree ({ frames := 0, cells := 0, slots := 0, locals := 0 }) (va_Pc [.ref (a 3)] (gW G (tx cx) (XA a) (wx cx a) σ)) (va_Qi (fun r u => σ = u ∧ ∃ v, iI v = r ∧ (((σ 0 8 = 0) ∧ v = 1) ∨ (¬ (σ 0 8 = 0) ∧ v = 0))) (gW G (tx cx) (XA a) (wx cx a)) (XA a)) 0 0 (XA a) := by
  refine Met.ofW (cc := cX2_isFree) (maxL := 1) (ret := some .boolean) (by decide) rfl ?_
  intro p e s m args below meth c s₁ B hml hv
  obtain ⟨rfl, hP, hK, hD⟩ := hv
  have hex := B.exec
  have hbc := B.bytes
  have hrt := B.returns
  have hts := atoms_spec (ws := wsX2_isFree) B.pre
  have hown : s.vm.findClass RX2 = some m.cls := findClass_of_methodNamed B.named
  have hlocks := B.notSynchronized
  have hS : va_S (XA a) s.heap s.heap [] := va_S.rf
  have hin2 := iX2_isFree_X2
  have hl := lv_entry ([.ref (a 3)]) (n := 1) (Nat.le_of_ble_eq_true rfl)
  rw [lg_entry_eq]
  generalize (lg_sl ([.ref (a 3)]) ++ List.replicate (1 - (lg_sl ([.ref (a 3)])).length) Slot.unset).toArray = ls at hl ⊢
  have hl : lv_has ls 1 [(0, .ref (a 3))] := hl
  obtain ⟨hB, hEn, hMk, hAs, hPm⟩ := id hI
  refine lv_aload_n hex hbc dX2_isFree_0 rfl (lv_at hl 0 rfl) ?_
  refine va_get (v := .ref (a 5)) hex hbc hts hin2 hown hK hP 3 rfl rfl 3 (by decide) (hts _ (List.mem_of_getElem? (i := 1) rfl)) (fun _ h => h) rfl dX2_isFree_1 ?_
  refine lv_bipush (v := iI 7) hex hbc dX2_isFree_4 (by decide) ?_
  refine g_iald (f := (fun k => (σ 0 (1 + k)))) (v := (σ 0 8)) (i := 7) hex hbc hK hP 5 0 rfl rfl (by decide) (by omega) rfl dX2_isFree_6 ?_
  refine zt_if_ne (a := (σ 0 8)) (tgt := 14) hex hbc (by omega) dX2_isFree_7 (by decide) (fun c7 => ?_) (fun c7 => ?_)
  · skip
    refine lv_iconst (v := iI 0) hex hbc dX2_isFree_14 rfl ?_
    exact g_zret hex hbc hrt hlocks rfl hK hP hD hS ⟨rfl, _, rfl, by omega⟩ dX2_isFree_15
  · skip
    refine lv_iconst (v := iI 1) hex hbc dX2_isFree_10 rfl ?_
    refine lv_goto (tgt := 15) hex hbc dX2_isFree_11 (by decide) ?_
    exact g_zret hex hbc hrt hlocks rfl hK hP hD hS ⟨rfl, _, rfl, by omega⟩ dX2_isFree_15
theorem iX2_endFrame_X2 : ∀ w ∈ wsX20, w ∈ wsX2_endFrame := fun _ h => List.mem_cons_of_mem _ (List.mem_append_right _ h)
set_option maxHeartbeats 4000000 in
set_option maxRecDepth 100000 in
theorem mX2_endFrame (l : Launch) (G : va_G) (cx a : Nat → Nat) (σ : Nat → Int → Int)  (k : Int) (hk : 0 ≤ k ∧ k < σ 0 74) (hI : Inv (σ 0)) : Met l yX2_endFrame wsX2_endFrame ({ frames := 0, cells := 0, slots := 0, locals := 0 }) (va_Pc [.ref (a 3), .int (iI k)] (gW G (tx cx) (XA a) (wx cx a) σ)) (va_Qi (fun r u => σ = u ∧ iI (fr (σ 0) (k + 1)) = r) (gW G (tx cx) (XA a) (wx cx a)) (XA a)) 0 0 (XA a) := by
  refine Met.ofW (cc := cX2_endFrame) (maxL := 2) (ret := some .int) (by decide) rfl ?_
  intro p e s m args below meth c s₁ B hml hv
  obtain ⟨rfl, hP, hK, hD⟩ := hv
  have hex := B.exec
  have hbc := B.bytes
  have hrt := B.returns
  have hts := atoms_spec (ws := wsX2_endFrame) B.pre
  have hown : s.vm.findClass RX2 = some m.cls := findClass_of_methodNamed B.named
  have hlocks := B.notSynchronized
  have hS : va_S (XA a) s.heap s.heap [] := va_S.rf
  have hin2 := iX2_endFrame_X2
  have hl := lv_entry ([.ref (a 3), .int (iI k)]) (n := 2) (Nat.le_of_ble_eq_true rfl)
  rw [lg_entry_eq]
  generalize (lg_sl ([.ref (a 3), .int (iI k)]) ++ List.replicate (2 - (lg_sl ([.ref (a 3), .int (iI k)])).length) Slot.unset).toArray = ls at hl ⊢
  have hl : lv_has ls 2 [(0, .ref (a 3)), (1, .int (iI k))] := hl
  obtain ⟨hB, hEn, hMk, hAs, hPm⟩ := id hI
  refine lv_iload_n hex hbc dX2_endFrame_0 rfl (lv_at hl 1 rfl) ?_
  refine lv_iconst (v := iI 1) hex hbc dX2_endFrame_1 rfl ?_
  refine zt_iadd hex hbc dX2_endFrame_2 ?_
  refine lv_aload_n hex hbc dX2_endFrame_3 rfl (lv_at hl 0 rfl) ?_
  refine va_get (v := .int (iI (σ 0 74))) hex hbc hts hin2 hown hK hP 3 rfl rfl 1 (by decide) (hts _ (List.mem_of_getElem? (i := 1) rfl)) (fun _ h => h) rfl dX2_endFrame_4 ?_
  refine zt_icmp_ge (a := (k + 1)) (b := (σ 0 74)) (tgt := 21) hex hbc (by omega) dX2_endFrame_7 (by decide) (fun c7 => ?_) (fun c7 => ?_)
  · skip
    refine lv_aload_n hex hbc dX2_endFrame_21 rfl (lv_at hl 0 rfl) ?_
    refine va_get (v := .int (iI (σ 0 0))) hex hbc hts hin2 hown hK hP 3 rfl rfl 0 (by decide) (hts _ (List.mem_of_getElem? (i := 3) rfl)) (fun _ h => h) rfl dX2_endFrame_22 ?_
    exact g_iret hex hbc hrt hlocks hK hP hD hS ⟨rfl, congrArg iI (by first | exact fr_lt (by omega) | exact fr_ge (by omega) | exact (fr_lt (by omega)).trans (congrArg _ (by omega)))⟩ dX2_endFrame_25
  · skip
    refine lv_aload_n hex hbc dX2_endFrame_10 rfl (lv_at hl 0 rfl) ?_
    refine va_get (v := .ref (a 6)) hex hbc hts hin2 hown hK hP 3 rfl rfl 4 (by decide) (hts _ (List.mem_of_getElem? (i := 2) rfl)) (fun _ h => h) rfl dX2_endFrame_11 ?_
    refine lv_iload_n hex hbc dX2_endFrame_14 rfl (lv_at hl 1 rfl) ?_
    refine lv_iconst (v := iI 1) hex hbc dX2_endFrame_15 rfl ?_
    refine zt_iadd hex hbc dX2_endFrame_16 ?_
    refine g_iald (f := (fun k => (σ 0 (75 + k)))) (v := (σ 0 (75 + (k + 1)))) (i := (k + 1)) hex hbc hK hP 6 0 rfl rfl (by decide) (by omega) rfl dX2_endFrame_17 ?_
    refine lv_goto (tgt := 25) hex hbc dX2_endFrame_18 (by decide) ?_
    exact g_iret hex hbc hrt hlocks hK hP hD hS ⟨rfl, congrArg iI (by first | exact fr_lt (by omega) | exact fr_ge (by omega) | exact (fr_lt (by omega)).trans (congrArg _ (by omega)))⟩ dX2_endFrame_25
theorem iX2_lengthOf_X2 : ∀ w ∈ wsX20, w ∈ wsX2_lengthOf := fun _ h => List.mem_cons_of_mem _ (List.mem_append_right _ h)
set_option maxHeartbeats 4000000 in
set_option maxRecDepth 100000 in
theorem mX2_lengthOf (l : Launch) (G : va_G) (cx a : Nat → Nat) (σ : Nat → Int → Int)  (k : Int) (hk : 0 ≤ k ∧ k < σ 0 74) (hI : Inv (σ 0)) : Met l yX2_lengthOf wsX2_lengthOf ({ frames := 1, cells := 0, slots := 0, locals := 21 }) (va_Pc [.ref (a 3), .int (iI k)] (gW G (tx cx) (XA a) (wx cx a) σ)) (va_Qi (fun r u => σ = u ∧ iI (ln (σ 0) k) = r) (gW G (tx cx) (XA a) (wx cx a)) (XA a)) 0 0 (XA a) := by
  refine Met.ofW (cc := cX2_lengthOf) (maxL := 2) (ret := some .int) (by decide) rfl ?_
  intro p e s m args below meth c s₁ B hml hv
  obtain ⟨rfl, hP, hK, hD⟩ := hv
  have hex := B.exec
  have hbc := B.bytes
  have hrt := B.returns
  have hts := atoms_spec (ws := wsX2_lengthOf) B.pre
  have hown : s.vm.findClass RX2 = some m.cls := findClass_of_methodNamed B.named
  have hlocks := B.notSynchronized
  have hS : va_S (XA a) s.heap s.heap [] := va_S.rf
  have hin2 := iX2_lengthOf_X2
  have hl := lv_entry ([.ref (a 3), .int (iI k)]) (n := 2) (Nat.le_of_ble_eq_true rfl)
  rw [lg_entry_eq]
  generalize (lg_sl ([.ref (a 3), .int (iI k)]) ++ List.replicate (2 - (lg_sl ([.ref (a 3), .int (iI k)])).length) Slot.unset).toArray = ls at hl ⊢
  have hl : lv_has ls 2 [(0, .ref (a 3)), (1, .int (iI k))] := hl
  obtain ⟨hB, hEn, hMk, hAs, hPm⟩ := id hI
  refine lv_aload_n hex hbc dX2_lengthOf_0 rfl (lv_at hl 0 rfl) ?_
  refine lv_iload_n hex hbc dX2_lengthOf_1 rfl (lv_at hl 1 rfl) ?_
  refine g_calli [.int (iI k)] ⟨hex, hbc, hml, hown, hts⟩ (mX2_endFrame l G cx a σ k (by omega) hI) (cwV 1 hts gX2_lengthOf_X2_endFrame rfl rfl rfl (by decide +kernel) ⟨Nat.le_of_ble_eq_true rfl, Nat.le_of_ble_eq_true rfl⟩) hK hP hD hS (fun _ h => h) 3 2 rfl rfl rfl rfl hl.1 (Nat.le_of_ble_eq_true rfl) dX2_lengthOf_2 ⟨Nat.zero_le _, Nat.zero_le _⟩ (fun r_2 u_2 H locs hw_2 hP hD hS hz_2 hk_2 => ?_)
  obtain ⟨rfl, rfl⟩ := hw_2
  refine lv_aload_n hex hbc dX2_lengthOf_5 rfl (lv_at hl 0 rfl) ?_
  refine va_get (v := .ref (a 6)) hex hbc hts hin2 hown hK hP 3 rfl rfl 4 (by decide) (hts _ (List.mem_of_getElem? (i := 1) rfl)) (fun _ h => h) rfl dX2_lengthOf_6 ?_
  refine lv_iload_n hex hbc dX2_lengthOf_9 rfl (lv_at hl 1 rfl) ?_
  refine g_iald (f := (fun k => (σ 0 (75 + k)))) (v := (σ 0 (75 + k))) (i := k) hex hbc hK hP 6 0 rfl rfl (by decide) (by omega) rfl dX2_lengthOf_10 ?_
  refine zt_isub hex hbc dX2_lengthOf_11 ?_
  refine lv_aload_n hex hbc dX2_lengthOf_12 rfl (lv_at hl 0 rfl) ?_
  refine va_get (v := .ref (a 5)) hex hbc hts hin2 hown hK hP 3 rfl rfl 3 (by decide) (hts _ (List.mem_of_getElem? (i := 2) rfl)) (fun _ h => h) rfl dX2_lengthOf_13 ?_
  refine lv_iconst (v := iI 0) hex hbc dX2_lengthOf_16 rfl ?_
  refine g_iald (f := (fun k => (σ 0 (1 + k)))) (v := (σ 0 1)) (i := 0) hex hbc hK hP 5 0 rfl rfl (by decide) (by omega) rfl dX2_lengthOf_17 ?_
  refine zt_imul hex hbc dX2_lengthOf_18 ?_
  exact g_iret hex hbc hrt hlocks hK hP hD hS ⟨rfl, congrArg iI (by unfold ln; rw [fr_lt (k := k) (by omega)])⟩ dX2_lengthOf_19
theorem iX2_leastBudget_X2 : ∀ w ∈ wsX20, w ∈ wsX2_leastBudget := fun _ h => List.mem_cons_of_mem _ (List.mem_append_right _ h)
set_option maxHeartbeats 4000000 in
set_option maxRecDepth 100000 in
theorem mX2_leastBudget (l : Launch) (G : va_G) (cx a : Nat → Nat) (σ : Nat → Int → Int)  (n : Int) (hn : 0 ≤ n ∧ n ≤ 64000) (hI : Inv (σ 0)) : Met l yX2_leastBudget wsX2_leastBudget ({ frames := 0, cells := 0, slots := 0, locals := 0 }) (va_Pc [.ref (a 3), .int (iI n)] (gW G (tx cx) (XA a) (wx cx a) σ)) (va_Qi (fun r u => σ = u ∧ iI (n * σ 0 4 / 100) = r) (gW G (tx cx) (XA a) (wx cx a)) (XA a)) 0 0 (XA a) := by
  refine Met.ofW (cc := cX2_leastBudget) (maxL := 2) (ret := some .int) (by decide) rfl ?_
  intro p e s m args below meth c s₁ B hml hv
  obtain ⟨rfl, hP, hK, hD⟩ := hv
  have hex := B.exec
  have hbc := B.bytes
  have hrt := B.returns
  have hts := atoms_spec (ws := wsX2_leastBudget) B.pre
  have hown : s.vm.findClass RX2 = some m.cls := findClass_of_methodNamed B.named
  have hlocks := B.notSynchronized
  have hS : va_S (XA a) s.heap s.heap [] := va_S.rf
  have hin2 := iX2_leastBudget_X2
  have hl := lv_entry ([.ref (a 3), .int (iI n)]) (n := 2) (Nat.le_of_ble_eq_true rfl)
  rw [lg_entry_eq]
  generalize (lg_sl ([.ref (a 3), .int (iI n)]) ++ List.replicate (2 - (lg_sl ([.ref (a 3), .int (iI n)])).length) Slot.unset).toArray = ls at hl ⊢
  have hl : lv_has ls 2 [(0, .ref (a 3)), (1, .int (iI n))] := hl
  obtain ⟨hB, hEn, hMk, hAs, hPm⟩ := id hI
  have hm := mulb (a := n) (b := σ 0 4) (A := 64000) (B := 100) (by omega) (by omega) (by omega) (by omega)
  refine lv_iload_n hex hbc dX2_leastBudget_0 rfl (lv_at hl 1 rfl) ?_
  refine lv_aload_n hex hbc dX2_leastBudget_1 rfl (lv_at hl 0 rfl) ?_
  refine va_get (v := .ref (a 5)) hex hbc hts hin2 hown hK hP 3 rfl rfl 3 (by decide) (hts _ (List.mem_of_getElem? (i := 1) rfl)) (fun _ h => h) rfl dX2_leastBudget_2 ?_
  refine lv_iconst (v := iI 3) hex hbc dX2_leastBudget_5 rfl ?_
  refine g_iald (f := (fun k => (σ 0 (1 + k)))) (v := (σ 0 4)) (i := 3) hex hbc hK hP 5 0 rfl rfl (by decide) (by omega) rfl dX2_leastBudget_6 ?_
  refine zt_imul hex hbc dX2_leastBudget_7 ?_
  refine lv_bipush (v := iI 100) hex hbc dX2_leastBudget_8 (by decide) ?_
  refine zt_idiv hex hbc (by omega) dX2_leastBudget_10 ?_
  exact g_iret hex hbc hrt hlocks hK hP hD hS ⟨rfl, rfl⟩ dX2_leastBudget_11
theorem iX2_mostBudget_X2 : ∀ w ∈ wsX20, w ∈ wsX2_mostBudget := fun _ h => List.mem_cons_of_mem _ (List.mem_append_right _ h)
set_option maxHeartbeats 4000000 in
set_option maxRecDepth 100000 in
theorem mX2_mostBudget (l : Launch) (G : va_G) (cx a : Nat → Nat) (σ : Nat → Int → Int)  (n : Int) (hn : 0 ≤ n ∧ n ≤ 64000) (hI : Inv (σ 0)) : Met l yX2_mostBudget wsX2_mostBudget ({ frames := 0, cells := 0, slots := 0, locals := 0 }) (va_Pc [.ref (a 3), .int (iI n)] (gW G (tx cx) (XA a) (wx cx a) σ)) (va_Qi (fun r u => σ = u ∧ iI (n * σ 0 5 / 100) = r) (gW G (tx cx) (XA a) (wx cx a)) (XA a)) 0 0 (XA a) := by
  refine Met.ofW (cc := cX2_mostBudget) (maxL := 2) (ret := some .int) (by decide) rfl ?_
  intro p e s m args below meth c s₁ B hml hv
  obtain ⟨rfl, hP, hK, hD⟩ := hv
  have hex := B.exec
  have hbc := B.bytes
  have hrt := B.returns
  have hts := atoms_spec (ws := wsX2_mostBudget) B.pre
  have hown : s.vm.findClass RX2 = some m.cls := findClass_of_methodNamed B.named
  have hlocks := B.notSynchronized
  have hS : va_S (XA a) s.heap s.heap [] := va_S.rf
  have hin2 := iX2_mostBudget_X2
  have hl := lv_entry ([.ref (a 3), .int (iI n)]) (n := 2) (Nat.le_of_ble_eq_true rfl)
  rw [lg_entry_eq]
  generalize (lg_sl ([.ref (a 3), .int (iI n)]) ++ List.replicate (2 - (lg_sl ([.ref (a 3), .int (iI n)])).length) Slot.unset).toArray = ls at hl ⊢
  have hl : lv_has ls 2 [(0, .ref (a 3)), (1, .int (iI n))] := hl
  obtain ⟨hB, hEn, hMk, hAs, hPm⟩ := id hI
  have hm := mulb (a := n) (b := σ 0 5) (A := 64000) (B := 1000) (by omega) (by omega) (by omega) (by omega)
  refine lv_iload_n hex hbc dX2_mostBudget_0 rfl (lv_at hl 1 rfl) ?_
  refine lv_aload_n hex hbc dX2_mostBudget_1 rfl (lv_at hl 0 rfl) ?_
  refine va_get (v := .ref (a 5)) hex hbc hts hin2 hown hK hP 3 rfl rfl 3 (by decide) (hts _ (List.mem_of_getElem? (i := 1) rfl)) (fun _ h => h) rfl dX2_mostBudget_2 ?_
  refine lv_iconst (v := iI 4) hex hbc dX2_mostBudget_5 rfl ?_
  refine g_iald (f := (fun k => (σ 0 (1 + k)))) (v := (σ 0 5)) (i := 4) hex hbc hK hP 5 0 rfl rfl (by decide) (by omega) rfl dX2_mostBudget_6 ?_
  refine zt_imul hex hbc dX2_mostBudget_7 ?_
  refine lv_bipush (v := iI 100) hex hbc dX2_mostBudget_8 (by decide) ?_
  refine zt_idiv hex hbc (by omega) dX2_mostBudget_10 ?_
  exact g_iret hex hbc hrt hlocks hK hP hD hS ⟨rfl, rfl⟩ dX2_mostBudget_11
end
section
/-! the reference: its small questions (rows laid by wip/gen) -/
set_option maxHeartbeats 4000000 in
set_option maxRecDepth 100000 in
theorem mX5_isIn (l : Launch) (x1 : Int) (x2 : Int) (x3 : Int) (h1 : -2147483648 ≤ x1 ∧ x1 < 2147483648) (h2 : -2147483648 ≤ x2 ∧ x2 < 2147483648) (h3 : -2147483648 ≤ x3 ∧ x3 < 2147483648) : Met l yX5_isIn wsX5_isIn ({ frames := 0, cells := 0, slots := 0, locals := 0 }) (va_Pc [.int (iI x1), .int (iI x2), .int (iI x3)] (fun _ => True)) (va_Qi (fun r (_ : Unit) => ∃ z, iI z = r ∧ (((x2 ≤ x1 ∧ x1 ≤ x3) ∧ z = 1) ∨ (¬ (x2 ≤ x1 ∧ x1 ≤ x3) ∧ z = 0))) (fun _ _ => True) (fun _ => False)) 0 0 (fun _ => False) := by
  refine Met.ofW (cc := cX5_isIn) (maxL := 3) (ret := some .boolean) (by decide) rfl ?_
  intro p e s m args below meth c s₁ B hml hv
  obtain ⟨rfl, -⟩ := hv
  have hex := B.exec
  have hbc := B.bytes
  have hrt := B.returns
  have hts := atoms_spec (ws := wsX5_isIn) B.pre
  have hown : s.vm.findClass RX5 = some m.cls := findClass_of_methodNamed B.named
  have hlocks := B.notSynchronized
  have hS : va_S (fun _ => False) s.heap s.heap [] := va_S.rf
  have hl := lv_entry ([.int (iI x1), .int (iI x2), .int (iI x3)]) (n := 3) (Nat.le_of_ble_eq_true rfl)
  rw [lg_entry_eq]
  generalize (lg_sl ([.int (iI x1), .int (iI x2), .int (iI x3)]) ++ List.replicate (3 - (lg_sl ([.int (iI x1), .int (iI x2), .int (iI x3)])).length) Slot.unset).toArray = ls at hl ⊢
  have hl : lv_has ls 3 [(0, .int (iI x1)), (1, .int (iI x2)), (2, .int (iI x3))] := hl
  refine lv_iload_n hex hbc dX5_isIn_0 rfl (lv_at hl 0 rfl) ?_
  refine lv_iload_n hex hbc dX5_isIn_1 rfl (lv_at hl 1 rfl) ?_
  refine zt_icmp_lt (a := x1) (b := x2) (tgt := 14) hex hbc (by omega) dX5_isIn_2 (by decide) (fun c2 => ?_) (fun c2 => ?_)
  · skip
    refine lv_iconst (v := iI 0) hex hbc dX5_isIn_14 rfl ?_
    exact W.zret hex hbc hrt rfl (fun t ht hW => ⟨⟨_, (), rfl, ⟨_, rfl, by omega⟩, trivial⟩, hS.F ht⟩) (fun q hq => hS.2.2 q hq) dX5_isIn_15 hlocks
  · skip
    refine lv_iload_n hex hbc dX5_isIn_5 rfl (lv_at hl 0 rfl) ?_
    refine lv_iload_n hex hbc dX5_isIn_6 rfl (lv_at hl 2 rfl) ?_
    refine zt_icmp_gt (a := x1) (b := x3) (tgt := 14) hex hbc (by omega) dX5_isIn_7 (by decide) (fun c7 => ?_) (fun c7 => ?_)
    · skip
      refine lv_iconst (v := iI 0) hex hbc dX5_isIn_14 rfl ?_
      exact W.zret hex hbc hrt rfl (fun t ht hW => ⟨⟨_, (), rfl, ⟨_, rfl, by omega⟩, trivial⟩, hS.F ht⟩) (fun q hq => hS.2.2 q hq) dX5_isIn_15 hlocks
    · skip
      refine lv_iconst (v := iI 1) hex hbc dX5_isIn_10 rfl ?_
      refine lv_goto (tgt := 15) hex hbc dX5_isIn_11 (by decide) ?_
      exact W.zret hex hbc hrt rfl (fun t ht hW => ⟨⟨_, (), rfl, ⟨_, rfl, by omega⟩, trivial⟩, hS.F ht⟩) (fun q hq => hS.2.2 q hq) dX5_isIn_15 hlocks
theorem iX5_isFrame_X5 : ∀ w ∈ wsX50, w ∈ wsX5_isFrame := fun _ h => List.mem_cons_of_mem _ (List.mem_append_right _ h)
set_option maxHeartbeats 4000000 in
set_option maxRecDepth 100000 in
theorem mX5_isFrame (l : Launch) (G : va_G) (cx a : Nat → Nat) (σ : Nat → Int → Int)  (x : Int) (hx : -2147483648 ≤ x ∧ x < 2147483648) (hI : Inv (σ 0)) : Met l yX5_isFrame wsX5_isFrame ({ frames := 1, cells := 0, slots := 0, locals := 22 }) (va_Pc [.ref (a 0), .int (iI x)] (gW G (tm cx) (MA a) (wm cx a) σ)) (va_Qi (fun r u => σ = u ∧ ∃ v, iI v = r ∧ (((0 ≤ x ∧ x < σ 0 0) ∧ v = 1) ∨ (¬ (0 ≤ x ∧ x < σ 0 0) ∧ v = 0))) (gW G (tm cx) (MA a) (wm cx a)) (MA a)) 0 0 (MA a) := by
  refine Met.ofW (cc := cX5_isFrame) (maxL := 2) (ret := some .boolean) (by decide) rfl ?_
  intro p e s m args below meth c s₁ B hml hv
  obtain ⟨rfl, hP, hK, hD⟩ := hv
  have hex := B.exec
  have hbc := B.bytes
  have hrt := B.returns
  have hts := atoms_spec (ws := wsX5_isFrame) B.pre
  have hown : s.vm.findClass RX5 = some m.cls := findClass_of_methodNamed B.named
  have hlocks := B.notSynchronized
  have hS : va_S (MA a) s.heap s.heap [] := va_S.rf
  have hin5 := iX5_isFrame_X5
  have hl := lv_entry ([.ref (a 0), .int (iI x)]) (n := 2) (Nat.le_of_ble_eq_true rfl)
  rw [lg_entry_eq]
  generalize (lg_sl ([.ref (a 0), .int (iI x)]) ++ List.replicate (2 - (lg_sl ([.ref (a 0), .int (iI x)])).length) Slot.unset).toArray = ls at hl ⊢
  have hl : lv_has ls 2 [(0, .ref (a 0)), (1, .int (iI x))] := hl
  obtain ⟨hB, hEn, hMk, hAs, hPm⟩ := id hI
  refine lv_iload_n hex hbc dX5_isFrame_0 rfl (lv_at hl 1 rfl) ?_
  refine lv_iconst (v := iI 0) hex hbc dX5_isFrame_1 rfl ?_
  refine lv_aload_n hex hbc dX5_isFrame_2 rfl (lv_at hl 0 rfl) ?_
  refine va_get (v := .ref (a 1)) hex hbc hts hin5 hown hK hP 0 rfl rfl 0 (by decide) (hts _ (List.mem_of_getElem? (i := 1) rfl)) (fun _ h => h) rfl dX5_isFrame_3 ?_
  refine lv_iconst (v := iI 0) hex hbc dX5_isFrame_6 rfl ?_
  refine g_iald (f := (σ 0)) (v := (σ 0 0)) (i := 0) hex hbc hK hP 1 0 rfl rfl (by decide) (by omega) rfl dX5_isFrame_7 ?_
  refine lv_iconst (v := iI 1) hex hbc dX5_isFrame_8 rfl ?_
  refine zt_isub hex hbc dX5_isFrame_9 ?_
  refine g_callS [.int (iI x), .int (iI 0), .int (iI ((σ 0 0) - 1))] ⟨hex, hbc, hml, hown, hts⟩ (mX5_isIn l x 0 ((σ 0 0) - 1) (by omega) (by omega) (by omega)) (va_cwS 3 hts gX5_isFrame_X5_isIn rfl rfl rfl (by decide +kernel) ⟨Nat.le_of_ble_eq_true rfl, Nat.le_of_ble_eq_true rfl⟩) hP hS rfl rfl hl.1 (Nat.le_of_ble_eq_true rfl) dX5_isFrame_10 ⟨Nat.zero_le _, Nat.zero_le _⟩ (fun r_10 H locs hw_10 hP hS => ?_)
  obtain ⟨vb10, rfl, hv10⟩ := hw_10
  exact g_zret hex hbc hrt hlocks (nar_b hv10) hK hP hD hS ⟨rfl, _, rfl, by omega⟩ dX5_isFrame_13
theorem iX5_isSlice_X5 : ∀ w ∈ wsX50, w ∈ wsX5_isSlice := fun _ h => List.mem_cons_of_mem _ (List.mem_append_right _ h)
set_option maxHeartbeats 4000000 in
set_option maxRecDepth 100000 in
theorem mX5_isSlice (l : Launch) (G : va_G) (cx a : Nat → Nat) (σ : Nat → Int → Int)  (x : Int) (hx : -2147483648 ≤ x ∧ x < 2147483648) (hI : Inv (σ 0)) : Met l yX5_isSlice wsX5_isSlice ({ frames := 1, cells := 0, slots := 0, locals := 22 }) (va_Pc [.ref (a 0), .int (iI x)] (gW G (tm cx) (MA a) (wm cx a) σ)) (va_Qi (fun r u => σ = u ∧ ∃ v, iI v = r ∧ (((0 ≤ x ∧ x < σ 0 74) ∧ v = 1) ∨ (¬ (0 ≤ x ∧ x < σ 0 74) ∧ v = 0))) (gW G (tm cx) (MA a) (wm cx a)) (MA a)) 0 0 (MA a) := by
  refine Met.ofW (cc := cX5_isSlice) (maxL := 2) (ret := some .boolean) (by decide) rfl ?_
  intro p e s m args below meth c s₁ B hml hv
  obtain ⟨rfl, hP, hK, hD⟩ := hv
  have hex := B.exec
  have hbc := B.bytes
  have hrt := B.returns
  have hts := atoms_spec (ws := wsX5_isSlice) B.pre
  have hown : s.vm.findClass RX5 = some m.cls := findClass_of_methodNamed B.named
  have hlocks := B.notSynchronized
  have hS : va_S (MA a) s.heap s.heap [] := va_S.rf
  have hin5 := iX5_isSlice_X5
  have hl := lv_entry ([.ref (a 0), .int (iI x)]) (n := 2) (Nat.le_of_ble_eq_true rfl)
  rw [lg_entry_eq]
  generalize (lg_sl ([.ref (a 0), .int (iI x)]) ++ List.replicate (2 - (lg_sl ([.ref (a 0), .int (iI x)])).length) Slot.unset).toArray = ls at hl ⊢
  have hl : lv_has ls 2 [(0, .ref (a 0)), (1, .int (iI x))] := hl
  obtain ⟨hB, hEn, hMk, hAs, hPm⟩ := id hI
  refine lv_iload_n hex hbc dX5_isSlice_0 rfl (lv_at hl 1 rfl) ?_
  refine lv_iconst (v := iI 0) hex hbc dX5_isSlice_1 rfl ?_
  refine lv_aload_n hex hbc dX5_isSlice_2 rfl (lv_at hl 0 rfl) ?_
  refine va_get (v := .ref (a 1)) hex hbc hts hin5 hown hK hP 0 rfl rfl 0 (by decide) (hts _ (List.mem_of_getElem? (i := 1) rfl)) (fun _ h => h) rfl dX5_isSlice_3 ?_
  refine lv_bipush (v := iI 74) hex hbc dX5_isSlice_6 (by decide) ?_
  refine g_iald (f := (σ 0)) (v := (σ 0 74)) (i := 74) hex hbc hK hP 1 0 rfl rfl (by decide) (by omega) rfl dX5_isSlice_8 ?_
  refine lv_iconst (v := iI 1) hex hbc dX5_isSlice_9 rfl ?_
  refine zt_isub hex hbc dX5_isSlice_10 ?_
  refine g_callS [.int (iI x), .int (iI 0), .int (iI ((σ 0 74) - 1))] ⟨hex, hbc, hml, hown, hts⟩ (mX5_isIn l x 0 ((σ 0 74) - 1) (by omega) (by omega) (by omega)) (va_cwS 3 hts gX5_isSlice_X5_isIn rfl rfl rfl (by decide +kernel) ⟨Nat.le_of_ble_eq_true rfl, Nat.le_of_ble_eq_true rfl⟩) hP hS rfl rfl hl.1 (Nat.le_of_ble_eq_true rfl) dX5_isSlice_11 ⟨Nat.zero_le _, Nat.zero_le _⟩ (fun r_11 H locs hw_11 hP hS => ?_)
  obtain ⟨vb11, rfl, hv11⟩ := hw_11
  exact g_zret hex hbc hrt hlocks (nar_b hv11) hK hP hD hS ⟨rfl, _, rfl, by omega⟩ dX5_isSlice_14
theorem iX5_isFurther_X5 : ∀ w ∈ wsX50, w ∈ wsX5_isFurther := fun _ h => List.mem_cons_of_mem _ (List.mem_append_right _ h)
set_option maxHeartbeats 4000000 in
set_option maxRecDepth 100000 in
theorem mX5_isFurther (l : Launch) (G : va_G) (cx a : Nat → Nat) (σ : Nat → Int → Int)  (x : Int) (hx : -2147483648 ≤ x ∧ x < 2147483648) (hI : Inv (σ 0)) : Met l yX5_isFurther wsX5_isFurther ({ frames := 1, cells := 0, slots := 0, locals := 22 }) (va_Pc [.ref (a 0), .int (iI x)] (gW G (tm cx) (MA a) (wm cx a) σ)) (va_Qi (fun r u => σ = u ∧ ∃ v, iI v = r ∧ (((1 ≤ x ∧ x < σ 0 74) ∧ v = 1) ∨ (¬ (1 ≤ x ∧ x < σ 0 74) ∧ v = 0))) (gW G (tm cx) (MA a) (wm cx a)) (MA a)) 0 0 (MA a) := by
  refine Met.ofW (cc := cX5_isFurther) (maxL := 2) (ret := some .boolean) (by decide) rfl ?_
  intro p e s m args below meth c s₁ B hml hv
  obtain ⟨rfl, hP, hK, hD⟩ := hv
  have hex := B.exec
  have hbc := B.bytes
  have hrt := B.returns
  have hts := atoms_spec (ws := wsX5_isFurther) B.pre
  have hown : s.vm.findClass RX5 = some m.cls := findClass_of_methodNamed B.named
  have hlocks := B.notSynchronized
  have hS : va_S (MA a) s.heap s.heap [] := va_S.rf
  have hin5 := iX5_isFurther_X5
  have hl := lv_entry ([.ref (a 0), .int (iI x)]) (n := 2) (Nat.le_of_ble_eq_true rfl)
  rw [lg_entry_eq]
  generalize (lg_sl ([.ref (a 0), .int (iI x)]) ++ List.replicate (2 - (lg_sl ([.ref (a 0), .int (iI x)])).length) Slot.unset).toArray = ls at hl ⊢
  have hl : lv_has ls 2 [(0, .ref (a 0)), (1, .int (iI x))] := hl
  obtain ⟨hB, hEn, hMk, hAs, hPm⟩ := id hI
  refine lv_iload_n hex hbc dX5_isFurther_0 rfl (lv_at hl 1 rfl) ?_
  refine lv_iconst (v := iI 1) hex hbc dX5_isFurther_1 rfl ?_
  refine lv_aload_n hex hbc dX5_isFurther_2 rfl (lv_at hl 0 rfl) ?_
  refine va_get (v := .ref (a 1)) hex hbc hts hin5 hown hK hP 0 rfl rfl 0 (by decide) (hts _ (List.mem_of_getElem? (i := 1) rfl)) (fun _ h => h) rfl dX5_isFurther_3 ?_
  refine lv_bipush (v := iI 74) hex hbc dX5_isFurther_6 (by decide) ?_
  refine g_iald (f := (σ 0)) (v := (σ 0 74)) (i := 74) hex hbc hK hP 1 0 rfl rfl (by decide) (by omega) rfl dX5_isFurther_8 ?_
  refine lv_iconst (v := iI 1) hex hbc dX5_isFurther_9 rfl ?_
  refine zt_isub hex hbc dX5_isFurther_10 ?_
  refine g_callS [.int (iI x), .int (iI 1), .int (iI ((σ 0 74) - 1))] ⟨hex, hbc, hml, hown, hts⟩ (mX5_isIn l x 1 ((σ 0 74) - 1) (by omega) (by omega) (by omega)) (va_cwS 3 hts gX5_isFurther_X5_isIn rfl rfl rfl (by decide +kernel) ⟨Nat.le_of_ble_eq_true rfl, Nat.le_of_ble_eq_true rfl⟩) hP hS rfl rfl hl.1 (Nat.le_of_ble_eq_true rfl) dX5_isFurther_11 ⟨Nat.zero_le _, Nat.zero_le _⟩ (fun r_11 H locs hw_11 hP hS => ?_)
  obtain ⟨vb11, rfl, hv11⟩ := hw_11
  exact g_zret hex hbc hrt hlocks (nar_b hv11) hK hP hD hS ⟨rfl, _, rfl, by omega⟩ dX5_isFurther_14
theorem iX5_frameOf_X5 : ∀ w ∈ wsX50, w ∈ wsX5_frameOf := fun _ h => List.mem_cons_of_mem _ (List.mem_append_right _ h)
set_option maxHeartbeats 4000000 in
set_option maxRecDepth 100000 in
theorem mX5_frameOf (l : Launch) (G : va_G) (cx a : Nat → Nat) (σ : Nat → Int → Int)  (x : Int) (hx : 0 ≤ x ∧ x ≤ 16) (hI : Inv (σ 0)) : Met l yX5_frameOf wsX5_frameOf ({ frames := 0, cells := 0, slots := 0, locals := 0 }) (va_Pc [.ref (a 0), .int (iI x)] (gW G (tm cx) (MA a) (wm cx a) σ)) (va_Qi (fun r u => σ = u ∧ iI (fr (σ 0) x) = r) (gW G (tm cx) (MA a) (wm cx a)) (MA a)) 0 0 (MA a) := by
  refine Met.ofW (cc := cX5_frameOf) (maxL := 2) (ret := some .int) (by decide) rfl ?_
  intro p e s m args below meth c s₁ B hml hv
  obtain ⟨rfl, hP, hK, hD⟩ := hv
  have hex := B.exec
  have hbc := B.bytes
  have hrt := B.returns
  have hts := atoms_spec (ws := wsX5_frameOf) B.pre
  have hown : s.vm.findClass RX5 = some m.cls := findClass_of_methodNamed B.named
  have hlocks := B.notSynchronized
  have hS : va_S (MA a) s.heap s.heap [] := va_S.rf
  have hin5 := iX5_frameOf_X5
  have hl := lv_entry ([.ref (a 0), .int (iI x)]) (n := 2) (Nat.le_of_ble_eq_true rfl)
  rw [lg_entry_eq]
  generalize (lg_sl ([.ref (a 0), .int (iI x)]) ++ List.replicate (2 - (lg_sl ([.ref (a 0), .int (iI x)])).length) Slot.unset).toArray = ls at hl ⊢
  have hl : lv_has ls 2 [(0, .ref (a 0)), (1, .int (iI x))] := hl
  obtain ⟨hB, hEn, hMk, hAs, hPm⟩ := id hI
  refine lv_iload_n hex hbc dX5_frameOf_0 rfl (lv_at hl 1 rfl) ?_
  refine lv_aload_n hex hbc dX5_frameOf_1 rfl (lv_at hl 0 rfl) ?_
  refine va_get (v := .ref (a 1)) hex hbc hts hin5 hown hK hP 0 rfl rfl 0 (by decide) (hts _ (List.mem_of_getElem? (i := 1) rfl)) (fun _ h => h) rfl dX5_frameOf_2 ?_
  refine lv_bipush (v := iI 74) hex hbc dX5_frameOf_5 (by decide) ?_
  refine g_iald (f := (σ 0)) (v := (σ 0 74)) (i := 74) hex hbc hK hP 1 0 rfl rfl (by decide) (by omega) rfl dX5_frameOf_7 ?_
  refine zt_icmp_ge (a := x) (b := (σ 0 74)) (tgt := 23) hex hbc (by omega) dX5_frameOf_8 (by decide) (fun c8 => ?_) (fun c8 => ?_)
  · skip
    refine lv_aload_n hex hbc dX5_frameOf_23 rfl (lv_at hl 0 rfl) ?_
    refine va_get (v := .ref (a 1)) hex hbc hts hin5 hown hK hP 0 rfl rfl 0 (by decide) (hts _ (List.mem_of_getElem? (i := 1) rfl)) (fun _ h => h) rfl dX5_frameOf_24 ?_
    refine lv_iconst (v := iI 0) hex hbc dX5_frameOf_27 rfl ?_
    refine g_iald (f := (σ 0)) (v := (σ 0 0)) (i := 0) hex hbc hK hP 1 0 rfl rfl (by decide) (by omega) rfl dX5_frameOf_28 ?_
    exact g_iret hex hbc hrt hlocks hK hP hD hS ⟨rfl, congrArg iI (by first | exact fr_lt (by omega) | exact fr_ge (by omega))⟩ dX5_frameOf_29
  · skip
    refine lv_aload_n hex hbc dX5_frameOf_11 rfl (lv_at hl 0 rfl) ?_
    refine va_get (v := .ref (a 1)) hex hbc hts hin5 hown hK hP 0 rfl rfl 0 (by decide) (hts _ (List.mem_of_getElem? (i := 1) rfl)) (fun _ h => h) rfl dX5_frameOf_12 ?_
    refine lv_bipush (v := iI 75) hex hbc dX5_frameOf_15 (by decide) ?_
    refine lv_iload_n hex hbc dX5_frameOf_17 rfl (lv_at hl 1 rfl) ?_
    refine zt_iadd hex hbc dX5_frameOf_18 ?_
    refine g_iald (f := (σ 0)) (v := (σ 0 (75 + x))) (i := (75 + x)) hex hbc hK hP 1 0 rfl rfl (by decide) (by omega) rfl dX5_frameOf_19 ?_
    refine lv_goto (tgt := 29) hex hbc dX5_frameOf_20 (by decide) ?_
    exact g_iret hex hbc hrt hlocks hK hP hD hS ⟨rfl, congrArg iI (by first | exact fr_lt (by omega) | exact fr_ge (by omega))⟩ dX5_frameOf_29
theorem iX5_lengthOf_X5 : ∀ w ∈ wsX50, w ∈ wsX5_lengthOf := fun _ h => List.mem_cons_of_mem _ (List.mem_append_right _ h)
set_option maxHeartbeats 4000000 in
set_option maxRecDepth 100000 in
theorem mX5_lengthOf (l : Launch) (G : va_G) (cx a : Nat → Nat) (σ : Nat → Int → Int)  (x : Int) (hx : 0 ≤ x ∧ x < σ 0 74) (hI : Inv (σ 0)) : Met l yX5_lengthOf wsX5_lengthOf ({ frames := 1, cells := 0, slots := 0, locals := 21 }) (va_Pc [.ref (a 0), .int (iI x)] (gW G (tm cx) (MA a) (wm cx a) σ)) (va_Qi (fun r u => σ = u ∧ iI (ln (σ 0) x) = r) (gW G (tm cx) (MA a) (wm cx a)) (MA a)) 0 0 (MA a) := by
  refine Met.ofW (cc := cX5_lengthOf) (maxL := 2) (ret := some .int) (by decide) rfl ?_
  intro p e s m args below meth c s₁ B hml hv
  obtain ⟨rfl, hP, hK, hD⟩ := hv
  have hex := B.exec
  have hbc := B.bytes
  have hrt := B.returns
  have hts := atoms_spec (ws := wsX5_lengthOf) B.pre
  have hown : s.vm.findClass RX5 = some m.cls := findClass_of_methodNamed B.named
  have hlocks := B.notSynchronized
  have hS : va_S (MA a) s.heap s.heap [] := va_S.rf
  have hin5 := iX5_lengthOf_X5
  have hl := lv_entry ([.ref (a 0), .int (iI x)]) (n := 2) (Nat.le_of_ble_eq_true rfl)
  rw [lg_entry_eq]
  generalize (lg_sl ([.ref (a 0), .int (iI x)]) ++ List.replicate (2 - (lg_sl ([.ref (a 0), .int (iI x)])).length) Slot.unset).toArray = ls at hl ⊢
  have hl : lv_has ls 2 [(0, .ref (a 0)), (1, .int (iI x))] := hl
  obtain ⟨hB, hEn, hMk, hAs, hPm⟩ := id hI
  refine lv_aload_n hex hbc dX5_lengthOf_0 rfl (lv_at hl 0 rfl) ?_
  refine lv_iload_n hex hbc dX5_lengthOf_1 rfl (lv_at hl 1 rfl) ?_
  refine lv_iconst (v := iI 1) hex hbc dX5_lengthOf_2 rfl ?_
  refine zt_iadd hex hbc dX5_lengthOf_3 ?_
  refine g_calli [.int (iI (x + 1))] ⟨hex, hbc, hml, hown, hts⟩ (mX5_frameOf l G cx a σ (x + 1) (by omega) hI) (cwV 1 hts gX5_lengthOf_X5_frameOf rfl rfl rfl (by decide +kernel) ⟨Nat.le_of_ble_eq_true rfl, Nat.le_of_ble_eq_true rfl⟩) hK hP hD hS (fun _ h => h) 0 5 rfl rfl rfl rfl hl.1 (Nat.le_of_ble_eq_true rfl) dX5_lengthOf_4 ⟨Nat.zero_le _, Nat.zero_le _⟩ (fun r_4 u_4 H locs hw_4 hP hD hS hz_4 hk_4 => ?_)
  obtain ⟨rfl, rfl⟩ := hw_4
  refine lv_aload_n hex hbc dX5_lengthOf_7 rfl (lv_at hl 0 rfl) ?_
  refine lv_iload_n hex hbc dX5_lengthOf_8 rfl (lv_at hl 1 rfl) ?_
  refine g_calli [.int (iI x)] ⟨hex, hbc, hml, hown, hts⟩ (mX5_frameOf l G cx a σ x (by omega) hI) (cwV 1 hts gX5_lengthOf_X5_frameOf rfl rfl rfl (by decide +kernel) ⟨Nat.le_of_ble_eq_true rfl, Nat.le_of_ble_eq_true rfl⟩) hK hP hD hS (fun _ h => h) 0 5 rfl rfl rfl rfl hl.1 (Nat.le_of_ble_eq_true rfl) dX5_lengthOf_9 ⟨Nat.zero_le _, Nat.zero_le _⟩ (fun r_9 u_9 H locs hw_9 hP hD hS hz_9 hk_9 => ?_)
  obtain ⟨rfl, rfl⟩ := hw_9
  refine zt_isub hex hbc dX5_lengthOf_12 ?_
  refine lv_aload_n hex hbc dX5_lengthOf_13 rfl (lv_at hl 0 rfl) ?_
  refine va_get (v := .ref (a 1)) hex hbc hts hin5 hown hK hP 0 rfl rfl 0 (by decide) (hts _ (List.mem_of_getElem? (i := 1) rfl)) (fun _ h => h) rfl dX5_lengthOf_14 ?_
  refine lv_iconst (v := iI 1) hex hbc dX5_lengthOf_17 rfl ?_
  refine g_iald (f := (σ 0)) (v := (σ 0 1)) (i := 1) hex hbc hK hP 1 0 rfl rfl (by decide) (by omega) rfl dX5_lengthOf_18 ?_
  refine zt_imul hex hbc dX5_lengthOf_19 ?_
  exact g_iret hex hbc hrt hlocks hK hP hD hS ⟨rfl, rfl⟩ dX5_lengthOf_20
theorem iX5_whole_X5 : ∀ w ∈ wsX50, w ∈ wsX5_whole := fun _ h => List.mem_cons_of_mem _ (List.mem_append_right _ h)
set_option maxHeartbeats 4000000 in
set_option maxRecDepth 100000 in
theorem mX5_whole (l : Launch) (G : va_G) (cx a : Nat → Nat) (σ : Nat → Int → Int)   (hI : Inv (σ 0)) : Met l yX5_whole wsX5_whole ({ frames := 0, cells := 0, slots := 0, locals := 0 }) (va_Pc [.ref (a 0)] (gW G (tm cx) (MA a) (wm cx a) σ)) (va_Qi (fun r u => σ = u ∧ iI (σ 0 0 * σ 0 1) = r) (gW G (tm cx) (MA a) (wm cx a)) (MA a)) 0 0 (MA a) := by
  refine Met.ofW (cc := cX5_whole) (maxL := 1) (ret := some .int) (by decide) rfl ?_
  intro p e s m args below meth c s₁ B hml hv
  obtain ⟨rfl, hP, hK, hD⟩ := hv
  have hex := B.exec
  have hbc := B.bytes
  have hrt := B.returns
  have hts := atoms_spec (ws := wsX5_whole) B.pre
  have hown : s.vm.findClass RX5 = some m.cls := findClass_of_methodNamed B.named
  have hlocks := B.notSynchronized
  have hS : va_S (MA a) s.heap s.heap [] := va_S.rf
  have hin5 := iX5_whole_X5
  have hl := lv_entry ([.ref (a 0)]) (n := 1) (Nat.le_of_ble_eq_true rfl)
  rw [lg_entry_eq]
  generalize (lg_sl ([.ref (a 0)]) ++ List.replicate (1 - (lg_sl ([.ref (a 0)])).length) Slot.unset).toArray = ls at hl ⊢
  have hl : lv_has ls 1 [(0, .ref (a 0))] := hl
  obtain ⟨hB, hEn, hMk, hAs, hPm⟩ := id hI
  refine lv_aload_n hex hbc dX5_whole_0 rfl (lv_at hl 0 rfl) ?_
  refine va_get (v := .ref (a 1)) hex hbc hts hin5 hown hK hP 0 rfl rfl 0 (by decide) (hts _ (List.mem_of_getElem? (i := 1) rfl)) (fun _ h => h) rfl dX5_whole_1 ?_
  refine lv_iconst (v := iI 0) hex hbc dX5_whole_4 rfl ?_
  refine g_iald (f := (σ 0)) (v := (σ 0 0)) (i := 0) hex hbc hK hP 1 0 rfl rfl (by decide) (by omega) rfl dX5_whole_5 ?_
  refine lv_aload_n hex hbc dX5_whole_6 rfl (lv_at hl 0 rfl) ?_
  refine va_get (v := .ref (a 1)) hex hbc hts hin5 hown hK hP 0 rfl rfl 0 (by decide) (hts _ (List.mem_of_getElem? (i := 1) rfl)) (fun _ h => h) rfl dX5_whole_7 ?_
  refine lv_iconst (v := iI 1) hex hbc dX5_whole_10 rfl ?_
  refine g_iald (f := (σ 0)) (v := (σ 0 1)) (i := 1) hex hbc hK hP 1 0 rfl rfl (by decide) (by omega) rfl dX5_whole_11 ?_
  refine zt_imul hex hbc dX5_whole_12 ?_
  exact g_iret hex hbc hrt hlocks hK hP hD hS ⟨rfl, rfl⟩ dX5_whole_13
theorem iX5_remainder_X5 : ∀ w ∈ wsX50, w ∈ wsX5_remainder := fun _ h => List.mem_cons_of_mem _ (List.mem_append_right _ h)
set_option maxHeartbeats 4000000 in
set_option maxRecDepth 100000 in
theorem mX5_remainder (l : Launch) (G : va_G) (cx a : Nat → Nat) (σ : Nat → Int → Int)  (x : Int) (hx : 0 ≤ x ∧ x < σ 0 74) (hI : Inv (σ 0)) : Met l yX5_remainder wsX5_remainder ({ frames := 2, cells := 0, slots := 0, locals := 42 }) (va_Pc [.ref (a 0), .int (iI x)] (gW G (tm cx) (MA a) (wm cx a) σ)) (va_Ql (fun r u => σ = u ∧ lI (ln (σ 0) x * σ 0 6 % (σ 0 0 * σ 0 1)) = r) (gW G (tm cx) (MA a) (wm cx a)) (MA a)) 0 0 (MA a) := by
  refine Met.ofW (cc := cX5_remainder) (maxL := 2) (ret := some .long) (by decide) rfl ?_
  intro p e s m args below meth c s₁ B hml hv
  obtain ⟨rfl, hP, hK, hD⟩ := hv
  have hex := B.exec
  have hbc := B.bytes
  have hrt := B.returns
  have hts := atoms_spec (ws := wsX5_remainder) B.pre
  have hown : s.vm.findClass RX5 = some m.cls := findClass_of_methodNamed B.named
  have hlocks := B.notSynchronized
  have hS : va_S (MA a) s.heap s.heap [] := va_S.rf
  have hin5 := iX5_remainder_X5
  have hl := lv_entry ([.ref (a 0), .int (iI x)]) (n := 2) (Nat.le_of_ble_eq_true rfl)
  rw [lg_entry_eq]
  generalize (lg_sl ([.ref (a 0), .int (iI x)]) ++ List.replicate (2 - (lg_sl ([.ref (a 0), .int (iI x)])).length) Slot.unset).toArray = ls at hl ⊢
  have hl : lv_has ls 2 [(0, .ref (a 0)), (1, .int (iI x))] := hl
  obtain ⟨hB, hEn, hMk, hAs, hPm⟩ := id hI
  have hln := hI.ln_in hx.1 hx.2
  have hwh : 1 ≤ σ 0 0 * σ 0 1 ∧ σ 0 0 * σ 0 1 ≤ 64000 := hI.wh_in
  have hm := mulb (a := ln (σ 0) x) (b := σ 0 6) (A := 64000) (B := 200000) (by omega) (by omega) (by omega) (by omega)
  refine lv_aload_n hex hbc dX5_remainder_0 rfl (lv_at hl 0 rfl) ?_
  refine lv_iload_n hex hbc dX5_remainder_1 rfl (lv_at hl 1 rfl) ?_
  refine g_calli [.int (iI x)] ⟨hex, hbc, hml, hown, hts⟩ (mX5_lengthOf l G cx a σ x (by omega) hI) (cwV 1 hts gX5_remainder_X5_lengthOf rfl rfl rfl (by decide +kernel) ⟨Nat.le_of_ble_eq_true rfl, Nat.le_of_ble_eq_true rfl⟩) hK hP hD hS (fun _ h => h) 0 5 rfl rfl rfl rfl hl.1 (Nat.le_of_ble_eq_true rfl) dX5_remainder_2 ⟨Nat.zero_le _, Nat.zero_le _⟩ (fun r_2 u_2 H locs hw_2 hP hD hS hz_2 hk_2 => ?_)
  obtain ⟨rfl, rfl⟩ := hw_2
  refine zt_i2l hex hbc (by omega) dX5_remainder_5 ?_
  refine lv_aload_n hex hbc dX5_remainder_6 rfl (lv_at hl 0 rfl) ?_
  refine va_get (v := .ref (a 1)) hex hbc hts hin5 hown hK hP 0 rfl rfl 0 (by decide) (hts _ (List.mem_of_getElem? (i := 1) rfl)) (fun _ h => h) rfl dX5_remainder_7 ?_
  refine lv_bipush (v := iI 6) hex hbc dX5_remainder_10 (by decide) ?_
  refine g_iald (f := (σ 0)) (v := (σ 0 6)) (i := 6) hex hbc hK hP 1 0 rfl rfl (by decide) (by omega) rfl dX5_remainder_12 ?_
  refine zt_i2l hex hbc (by omega) dX5_remainder_13 ?_
  refine zt_lmul hex hbc dX5_remainder_14 ?_
  refine lv_aload_n hex hbc dX5_remainder_15 rfl (lv_at hl 0 rfl) ?_
  refine g_calli [] ⟨hex, hbc, hml, hown, hts⟩ (mX5_whole l G cx a σ  hI) (cwV 0 hts gX5_remainder_X5_whole rfl rfl rfl (by decide +kernel) ⟨Nat.le_of_ble_eq_true rfl, Nat.le_of_ble_eq_true rfl⟩) hK hP hD hS (fun _ h => h) 0 5 rfl rfl rfl rfl hl.1 (Nat.le_of_ble_eq_true rfl) dX5_remainder_16 ⟨Nat.zero_le _, Nat.zero_le _⟩ (fun r_16 u_16 H locs hw_16 hP hD hS hz_16 hk_16 => ?_)
  obtain ⟨rfl, rfl⟩ := hw_16
  refine zt_i2l hex hbc (by omega) dX5_remainder_19 ?_
  refine zt_lrem hex hbc (by omega) dX5_remainder_20 ?_
  exact g_lret hex hbc hrt hlocks hK hP hD hS ⟨rfl, rfl⟩ dX5_remainder_21
set_option maxHeartbeats 4000000 in
set_option maxRecDepth 100000 in
theorem mX5_sampleAt (l : Launch) (x1 : Int) (x2 : Int) (x3 : Int) (h1 : 0 ≤ x1 ∧ x1 ≤ 32) (h2 : 0 ≤ x2 ∧ x2 ≤ 200000) (h3 : 1 ≤ x3 ∧ x3 ≤ 32) : Met l yX5_sampleAt wsX5_sampleAt ({ frames := 0, cells := 0, slots := 0, locals := 0 }) (va_Pc [.int (iI x1), .int (iI x2), .int (iI x3)] (fun _ => True)) (va_Qi (fun r (_ : Unit) => iI (po x2 x3 x1) = r) (fun _ _ => True) (fun _ => False)) 0 0 (fun _ => False) := by
  refine Met.ofW (cc := cX5_sampleAt) (maxL := 3) (ret := some .int) (by decide) rfl ?_
  intro p e s m args below meth c s₁ B hml hv
  obtain ⟨rfl, -⟩ := hv
  have hex := B.exec
  have hbc := B.bytes
  have hrt := B.returns
  have hts := atoms_spec (ws := wsX5_sampleAt) B.pre
  have hown : s.vm.findClass RX5 = some m.cls := findClass_of_methodNamed B.named
  have hlocks := B.notSynchronized
  have hS : va_S (fun _ => False) s.heap s.heap [] := va_S.rf
  have hl := lv_entry ([.int (iI x1), .int (iI x2), .int (iI x3)]) (n := 3) (Nat.le_of_ble_eq_true rfl)
  rw [lg_entry_eq]
  generalize (lg_sl ([.int (iI x1), .int (iI x2), .int (iI x3)]) ++ List.replicate (3 - (lg_sl ([.int (iI x1), .int (iI x2), .int (iI x3)])).length) Slot.unset).toArray = ls at hl ⊢
  have hl : lv_has ls 3 [(0, .int (iI x1)), (1, .int (iI x2)), (2, .int (iI x3))] := hl
  have hm := mulb (a := x1) (b := x2) (A := 32) (B := 200000) (by omega) (by omega) (by omega) (by omega)
  refine lv_iload_n hex hbc dX5_sampleAt_0 rfl (lv_at hl 0 rfl) ?_
  refine zt_i2l hex hbc (by omega) dX5_sampleAt_1 ?_
  refine lv_iload_n hex hbc dX5_sampleAt_2 rfl (lv_at hl 1 rfl) ?_
  refine zt_i2l hex hbc (by omega) dX5_sampleAt_3 ?_
  refine zt_lmul hex hbc dX5_sampleAt_4 ?_
  refine lv_iload_n hex hbc dX5_sampleAt_5 rfl (lv_at hl 2 rfl) ?_
  refine zt_i2l hex hbc (by omega) dX5_sampleAt_6 ?_
  refine zt_ldiv hex hbc (by omega) dX5_sampleAt_7 ?_
  refine zt_l2i hex hbc dX5_sampleAt_8 ?_
  exact W.iret hex hbc hrt (fun t ht hW => ⟨⟨_, (), rfl, rfl, trivial⟩, hS.F ht⟩) (fun q hq => hS.2.2 q hq) dX5_sampleAt_9 hlocks
theorem iX5_fits_X5 : ∀ w ∈ wsX50, w ∈ wsX5_fits := fun _ h => List.mem_cons_of_mem _ (List.mem_append_right _ h)
set_option maxHeartbeats 4000000 in
set_option maxRecDepth 100000 in
theorem mX5_fits (l : Launch) (G : va_G) (cx a : Nat → Nat) (σ : Nat → Int → Int)  (x1 : Int) (x2 : Int) (h1 : 0 ≤ x1 ∧ x1 < σ 0 74) (h2 : -2147483648 ≤ x2 ∧ x2 < 2147483648) (hI : Inv (σ 0)) : Met l yX5_fits wsX5_fits ({ frames := 2, cells := 0, slots := 0, locals := 42 }) (va_Pc [.ref (a 0), .int (iI x1), .int (iI x2)] (gW G (tm cx) (MA a) (wm cx a) σ)) (va_Qi (fun r u => σ = u ∧ ∃ v, iI v = r ∧ (((fits_ (σ 0) x1 x2) ∧ v = 1) ∨ (¬ (fits_ (σ 0) x1 x2) ∧ v = 0))) (gW G (tm cx) (MA a) (wm cx a)) (MA a)) 0 0 (MA a) := by
  refine Met.ofW (cc := cX5_fits) (maxL := 3) (ret := some .boolean) (by decide) rfl ?_
  intro p e s m args below meth c s₁ B hml hv
  obtain ⟨rfl, hP, hK, hD⟩ := hv
  have hex := B.exec
  have hbc := B.bytes
  have hrt := B.returns
  have hts := atoms_spec (ws := wsX5_fits) B.pre
  have hown : s.vm.findClass RX5 = some m.cls := findClass_of_methodNamed B.named
  have hlocks := B.notSynchronized
  have hS : va_S (MA a) s.heap s.heap [] := va_S.rf
  have hin5 := iX5_fits_X5
  have hl := lv_entry ([.ref (a 0), .int (iI x1), .int (iI x2)]) (n := 3) (Nat.le_of_ble_eq_true rfl)
  rw [lg_entry_eq]
  generalize (lg_sl ([.ref (a 0), .int (iI x1), .int (iI x2)]) ++ List.replicate (3 - (lg_sl ([.ref (a 0), .int (iI x1), .int (iI x2)])).length) Slot.unset).toArray = ls at hl ⊢
  have hl : lv_has ls 3 [(0, .ref (a 0)), (1, .int (iI x1)), (2, .int (iI x2))] := hl
  obtain ⟨hB, hEn, hMk, hAs, hPm⟩ := id hI
  have hln := hI.ln_in h1.1 h1.2
  have hm4 := mulb (a := ln (σ 0) x1) (b := σ 0 4) (A := 64000) (B := 100) (by omega) (by omega) (by omega) (by omega)
  have hm5 := mulb (a := ln (σ 0) x1) (b := σ 0 5) (A := 64000) (B := 1000) (by omega) (by omega) (by omega) (by omega)
  refine lv_iload_n hex hbc dX5_fits_0 rfl (lv_at hl 2 rfl) ?_
  refine zt_i2l hex hbc (by omega) dX5_fits_1 ?_
  refine lv_aload_n hex hbc dX5_fits_2 rfl (lv_at hl 0 rfl) ?_
  refine lv_iload_n hex hbc dX5_fits_3 rfl (lv_at hl 1 rfl) ?_
  refine g_calli [.int (iI x1)] ⟨hex, hbc, hml, hown, hts⟩ (mX5_lengthOf l G cx a σ x1 (by omega) hI) (cwV 1 hts gX5_fits_X5_lengthOf rfl rfl rfl (by decide +kernel) ⟨Nat.le_of_ble_eq_true rfl, Nat.le_of_ble_eq_true rfl⟩) hK hP hD hS (fun _ h => h) 0 5 rfl rfl rfl rfl hl.1 (Nat.le_of_ble_eq_true rfl) dX5_fits_4 ⟨Nat.zero_le _, Nat.zero_le _⟩ (fun r_4 u_4 H locs hw_4 hP hD hS hz_4 hk_4 => ?_)
  obtain ⟨rfl, rfl⟩ := hw_4
  refine zt_i2l hex hbc (by omega) dX5_fits_7 ?_
  refine lv_aload_n hex hbc dX5_fits_8 rfl (lv_at hl 0 rfl) ?_
  refine va_get (v := .ref (a 1)) hex hbc hts hin5 hown hK hP 0 rfl rfl 0 (by decide) (hts _ (List.mem_of_getElem? (i := 1) rfl)) (fun _ h => h) rfl dX5_fits_9 ?_
  refine lv_iconst (v := iI 4) hex hbc dX5_fits_12 rfl ?_
  refine g_iald (f := (σ 0)) (v := (σ 0 4)) (i := 4) hex hbc hK hP 1 0 rfl rfl (by decide) (by omega) rfl dX5_fits_13 ?_
  refine zt_i2l hex hbc (by omega) dX5_fits_14 ?_
  refine zt_lmul hex hbc dX5_fits_15 ?_
  refine lv_ldc2 (v := lI 100) hex hbc hown (hts _ (List.mem_of_getElem? (i := 2) rfl)) dX5_fits_16 ?_
  refine zt_ldiv hex hbc (by omega) dX5_fits_19 ?_
  refine zt_lcmp (a := x2) (b := (((ln (σ 0) x1) * (σ 0 4)) / 100)) hex hbc (by omega) dX5_fits_20 (fun dc20 hdc20 => ?_)
  refine zt_if_lt (a := dc20) (tgt := 52) hex hbc (by omega) dX5_fits_21 (by decide) (fun c21 => ?_) (fun c21 => ?_)
  · skip
    refine lv_iconst (v := iI 0) hex hbc dX5_fits_52 rfl ?_
    exact g_zret hex hbc hrt hlocks rfl hK hP hD hS ⟨rfl, _, rfl, by unfold fits_; omega⟩ dX5_fits_53
  · skip
    refine lv_iload_n hex hbc dX5_fits_24 rfl (lv_at hl 2 rfl) ?_
    refine zt_i2l hex hbc (by omega) dX5_fits_25 ?_
    refine lv_aload_n hex hbc dX5_fits_26 rfl (lv_at hl 0 rfl) ?_
    refine lv_iload_n hex hbc dX5_fits_27 rfl (lv_at hl 1 rfl) ?_
    refine g_calli [.int (iI x1)] ⟨hex, hbc, hml, hown, hts⟩ (mX5_lengthOf l G cx a σ x1 (by omega) hI) (cwV 1 hts gX5_fits_X5_lengthOf rfl rfl rfl (by decide +kernel) ⟨Nat.le_of_ble_eq_true rfl, Nat.le_of_ble_eq_true rfl⟩) hK hP hD hS (fun _ h => h) 0 5 rfl rfl rfl rfl hl.1 (Nat.le_of_ble_eq_true rfl) dX5_fits_28 ⟨Nat.zero_le _, Nat.zero_le _⟩ (fun r_28 u_28 H locs hw_28 hP hD hS hz_28 hk_28 => ?_)
    obtain ⟨rfl, rfl⟩ := hw_28
    refine zt_i2l hex hbc (by omega) dX5_fits_31 ?_
    refine lv_aload_n hex hbc dX5_fits_32 rfl (lv_at hl 0 rfl) ?_
    refine va_get (v := .ref (a 1)) hex hbc hts hin5 hown hK hP 0 rfl rfl 0 (by decide) (hts _ (List.mem_of_getElem? (i := 1) rfl)) (fun _ h => h) rfl dX5_fits_33 ?_
    refine lv_iconst (v := iI 5) hex hbc dX5_fits_36 rfl ?_
    refine g_iald (f := (σ 0)) (v := (σ 0 5)) (i := 5) hex hbc hK hP 1 0 rfl rfl (by decide) (by omega) rfl dX5_fits_37 ?_
    refine zt_i2l hex hbc (by omega) dX5_fits_38 ?_
    refine zt_lmul hex hbc dX5_fits_39 ?_
    refine lv_ldc2 (v := lI 100) hex hbc hown (hts _ (List.mem_of_getElem? (i := 2) rfl)) dX5_fits_40 ?_
    refine zt_ldiv hex hbc (by omega) dX5_fits_43 ?_
    refine zt_lcmp (a := x2) (b := (((ln (σ 0) x1) * (σ 0 5)) / 100)) hex hbc (by omega) dX5_fits_44 (fun dc44 hdc44 => ?_)
    refine zt_if_gt (a := dc44) (tgt := 52) hex hbc (by omega) dX5_fits_45 (by decide) (fun c45 => ?_) (fun c45 => ?_)
    · skip
      refine lv_iconst (v := iI 0) hex hbc dX5_fits_52 rfl ?_
      exact g_zret hex hbc hrt hlocks rfl hK hP hD hS ⟨rfl, _, rfl, by unfold fits_; omega⟩ dX5_fits_53
    · skip
      refine lv_iconst (v := iI 1) hex hbc dX5_fits_48 rfl ?_
      refine lv_goto (tgt := 53) hex hbc dX5_fits_49 (by decide) ?_
      exact g_zret hex hbc hrt hlocks rfl hK hP hD hS ⟨rfl, _, rfl, by unfold fits_; omega⟩ dX5_fits_53
theorem iX5_off_X5 : ∀ w ∈ wsX50, w ∈ wsX5_off := fun _ h => List.mem_cons_of_mem _ (List.mem_append_right _ h)
set_option maxHeartbeats 4000000 in
set_option maxRecDepth 100000 in
theorem mX5_off (l : Launch) (G : va_G) (cx a : Nat → Nat) (σ : Nat → Int → Int)  (x1 : Int) (x2 : Int) (x3 : Int) (x4 : Int) (h1 : 0 ≤ x1 ∧ x1 < σ 0 74) (h2 : 0 ≤ x2 ∧ x2 ≤ x4) (h3 : 0 ≤ x3 ∧ x3 ≤ 200000) (h4 : 1 ≤ x4 ∧ x4 ≤ 32) (hI : Inv (σ 0)) : Met l yX5_off wsX5_off ({ frames := 1, cells := 0, slots := 0, locals := 22 }) (va_Pc [.ref (a 0), .int (iI x1), .int (iI x2), .int (iI x3), .int (iI x4)] (gW G (tm cx) (MA a) (wm cx a) σ)) (va_Ql (fun r u => σ = u ∧ lI (of_ (σ 0) x3 x4 x1 x2) = r) (gW G (tm cx) (MA a) (wm cx a)) (MA a)) 0 0 (MA a) := by
  refine Met.ofW (cc := cX5_off) (maxL := 7) (ret := some .long) (by decide) rfl ?_
  intro p e s m args below meth c s₁ B hml hv
  obtain ⟨rfl, hP, hK, hD⟩ := hv
  have hex := B.exec
  have hbc := B.bytes
  have hrt := B.returns
  have hts := atoms_spec (ws := wsX5_off) B.pre
  have hown : s.vm.findClass RX5 = some m.cls := findClass_of_methodNamed B.named
  have hlocks := B.notSynchronized
  have hS : va_S (MA a) s.heap s.heap [] := va_S.rf
  have hin5 := iX5_off_X5
  have hl := lv_entry ([.ref (a 0), .int (iI x1), .int (iI x2), .int (iI x3), .int (iI x4)]) (n := 7) (Nat.le_of_ble_eq_true rfl)
  rw [lg_entry_eq]
  generalize (lg_sl ([.ref (a 0), .int (iI x1), .int (iI x2), .int (iI x3), .int (iI x4)]) ++ List.replicate (7 - (lg_sl ([.ref (a 0), .int (iI x1), .int (iI x2), .int (iI x3), .int (iI x4)])).length) Slot.unset).toArray = ls at hl ⊢
  have hl : lv_has ls 7 [(0, .ref (a 0)), (1, .int (iI x1)), (2, .int (iI x2)), (3, .int (iI x3)), (4, .int (iI x4))] := hl
  obtain ⟨hB, hEn, hMk, hAs, hPm⟩ := id hI
  have hpo := po_in (T := x3) (G := x4) (i := x2) h3 h4.1 h2
  have hfr := hI.fr_in h1.1
  have hm1 := mulb (a := po x3 x4 x2) (b := σ 0 0) (A := 200000) (B := 64) (by omega) (by omega) (by omega) (by omega)
  have hm2 := mulb (a := fr (σ 0) x1) (b := x3) (A := 64) (B := 200000) (by omega) (by omega) (by omega) (by omega)
  refine lv_iload_n hex hbc dX5_off_0 rfl (lv_at hl 2 rfl) ?_
  refine lv_iload_n hex hbc dX5_off_1 rfl (lv_at hl 3 rfl) ?_
  refine lv_iload hex hbc dX5_off_2 (lv_at hl 4 rfl) ?_
  refine g_callS [.int (iI x2), .int (iI x3), .int (iI x4)] ⟨hex, hbc, hml, hown, hts⟩ (mX5_sampleAt l x2 x3 x4 (by omega) (by omega) (by omega)) (va_cwS 3 hts gX5_off_X5_sampleAt rfl rfl rfl (by decide +kernel) ⟨Nat.le_of_ble_eq_true rfl, Nat.le_of_ble_eq_true rfl⟩) hP hS rfl rfl hl.1 (Nat.le_of_ble_eq_true rfl) dX5_off_4 ⟨Nat.zero_le _, Nat.zero_le _⟩ (fun r_4 H locs hw_4 hP hS => ?_)
  obtain rfl := hw_4
  refine zt_i2l hex hbc (by omega) dX5_off_7 ?_
  refine lv_aload_n hex hbc dX5_off_8 rfl (lv_at hl 0 rfl) ?_
  refine va_get (v := .ref (a 1)) hex hbc hts hin5 hown hK hP 0 rfl rfl 0 (by decide) (hts _ (List.mem_of_getElem? (i := 1) rfl)) (fun _ h => h) rfl dX5_off_9 ?_
  refine lv_iconst (v := iI 0) hex hbc dX5_off_12 rfl ?_
  refine g_iald (f := (σ 0)) (v := (σ 0 0)) (i := 0) hex hbc hK hP 1 0 rfl rfl (by decide) (by omega) rfl dX5_off_13 ?_
  refine zt_i2l hex hbc (by omega) dX5_off_14 ?_
  refine zt_lmul hex hbc dX5_off_15 ?_
  refine lv_aload_n hex hbc dX5_off_16 rfl (lv_at hl 0 rfl) ?_
  refine lv_iload_n hex hbc dX5_off_17 rfl (lv_at hl 1 rfl) ?_
  refine g_calli [.int (iI x1)] ⟨hex, hbc, hml, hown, hts⟩ (mX5_frameOf l G cx a σ x1 (by omega) hI) (cwV 1 hts gX5_off_X5_frameOf rfl rfl rfl (by decide +kernel) ⟨Nat.le_of_ble_eq_true rfl, Nat.le_of_ble_eq_true rfl⟩) hK hP hD hS (fun _ h => h) 0 5 rfl rfl rfl rfl hl.1 (Nat.le_of_ble_eq_true rfl) dX5_off_18 ⟨Nat.zero_le _, Nat.zero_le _⟩ (fun r_18 u_18 H locs hw_18 hP hD hS hz_18 hk_18 => ?_)
  obtain ⟨rfl, rfl⟩ := hw_18
  refine zt_i2l hex hbc (by omega) dX5_off_21 ?_
  refine lv_iload_n hex hbc dX5_off_22 rfl (lv_at hl 3 rfl) ?_
  refine zt_i2l hex hbc (by omega) dX5_off_23 ?_
  refine zt_lmul hex hbc dX5_off_24 ?_
  refine zt_lsub hex hbc dX5_off_25 ?_
  refine lv_lstore (lv' := [(5, .long (lI (((po x3 x4 x2) * (σ 0 0)) - ((fr (σ 0) x1) * x3)))), (0, .ref (a 0)), (1, .int (iI x1)), (2, .int (iI x2)), (3, .int (iI x3)), (4, .int (iI x4))]) hex hbc dX5_off_26 hl (by decide) rfl (fun ls hl => ?_)
  refine lv_lload hex hbc dX5_off_28 (lv_at hl 0 rfl) ?_
  refine lv_lconst (v := lI 0) hex hbc dX5_off_30 rfl ?_
  refine zt_lcmp (a := (((po x3 x4 x2) * (σ 0 0)) - ((fr (σ 0) x1) * x3))) (b := 0) hex hbc (by omega) dX5_off_31 (fun dc31 hdc31 => ?_)
  refine zt_if_ge (a := dc31) (tgt := 41) hex hbc (by omega) dX5_off_32 (by decide) (fun c32 => ?_) (fun c32 => ?_)
  · skip
    refine lv_lload hex hbc dX5_off_41 (lv_at hl 0 rfl) ?_
    exact g_lret hex hbc hrt hlocks hK hP hD hS ⟨rfl, congrArg lI (by unfold of_ abI; split <;> omega)⟩ dX5_off_43
  · skip
    refine lv_lload hex hbc dX5_off_35 (lv_at hl 0 rfl) ?_
    refine zt_lneg hex hbc dX5_off_37 ?_
    refine lv_goto (tgt := 43) hex hbc dX5_off_38 (by decide) ?_
    exact g_lret hex hbc hrt hlocks hK hP hD hS ⟨rfl, congrArg lI (by unfold of_ abI; split <;> omega)⟩ dX5_off_43
end
section
/-! what the changes make of a loop's numbers -/
def spo (w : Int → Int) : Int → Int := fun k => if 91 ≤ k ∧ k < 107 then k - 91 else w k
def spc (w : Int → Int) (F : Int) : Int → Int := fun k => if k = 0 then F else if 10 ≤ k ∧ k < 74 then 0 else if k = 74 then 1 else if k = 75 then 0 else if 91 ≤ k ∧ k < 107 then k - 91 else w k
def spx (w : Int → Int) (i j : Int) : Int → Int := ups (ups w (91 + i) (w (91 + j))) (91 + j) (w (91 + i))
def spi (w : Int → Int) (n f : Int) : Int → Int := fun k => if k = 74 then w 74 + 1 else if 75 + n < k ∧ k ≤ 75 + w 74 then w (k - 1) else if k = 75 + n then f else if 91 ≤ k ∧ k < 107 then k - 91 else w k
def spr (w : Int → Int) (n : Int) : Int → Int := fun k => if k = 74 then w 74 - 1 else if 75 + n ≤ k ∧ k < 75 + (w 74 - 1) then w (k + 1) else if 91 ≤ k ∧ k < 107 then k - 91 else w k
/-- the loudest of the frames a .. a + n, the first of several -/
def ldn (w : Int → Int) (a : Int) : Nat → Int
  | 0 => a
  | n + 1 => if w (10 + ldn w a n) < w (10 + (a + (n : Int) + 1)) then a + (n : Int) + 1 else ldn w a n
/-- marks found by a threshold t among the frames 1 .. n: how many, and where each lies (over a row b) -/
def fbn (w : Int → Int) (t : Int) (b : Int → Int) : Nat → Int × (Int → Int)
  | 0 => (1, ups b 0 0)
  | n + 1 => if (fbn w t b n).1 < 16 ∧ t ≤ w (10 + ((n : Int) + 1)) - w (10 + (n : Int)) ∧ w 3 ≤ (n : Int) + 1 - (fbn w t b n).2 ((fbn w t b n).1 - 1) then ((fbn w t b n).1 + 1, ups (fbn w t b n).2 (fbn w t b n).1 ((n : Int) + 1)) else fbn w t b n
theorem ldn_in (w : Int → Int) (a : Int) : ∀ n : Nat, a ≤ ldn w a n ∧ ldn w a n ≤ a + (n : Int)
  | 0 => by simp [ldn]
  | n + 1 => by
    have := ldn_in w a n
    unfold ldn
    split <;> omega
theorem fbn_in (w : Int → Int) (t : Int) (b : Int → Int) : ∀ n : Nat, 1 ≤ (fbn w t b n).1 ∧ (fbn w t b n).1 ≤ 16 ∧ (fbn w t b n).1 ≤ (n : Int) + 1 ∧ (fbn w t b n).2 0 = 0 ∧ ∀ k, 0 ≤ k → k < (fbn w t b n).1 → 0 ≤ (fbn w t b n).2 k ∧ (fbn w t b n).2 k ≤ (n : Int)
  | 0 => by
    refine ⟨by simp [fbn], by simp [fbn], by simp [fbn], by simp [fbn, ups], fun k h0 h1 => ?_⟩
    have : k = 0 := by simp [fbn] at h1; omega
    subst this
    simp [fbn, ups]
  | n + 1 => by
    obtain ⟨h1, h2, h3, h4, h5⟩ := fbn_in w t b n
    unfold fbn
    split
    · rename_i hc
      refine ⟨by show 1 ≤ (fbn w t b n).1 + 1; omega, by show (fbn w t b n).1 + 1 ≤ 16; omega, by show (fbn w t b n).1 + 1 ≤ ((n + 1 : Nat) : Int) + 1; omega, ?_, fun k h0 hk => ?_⟩
      · show ups _ _ _ _ = 0
        rw [ups_n _ _ (by omega)]; exact h4
      · show 0 ≤ ups _ _ _ _ ∧ ups _ _ _ _ ≤ _
        by_cases hq : k = (fbn w t b n).1
        · rw [hq, ups_s]; omega
        · rw [ups_n _ _ hq]
          have hk' : k < (fbn w t b n).1 + 1 := hk
          have := h5 k h0 (by omega)
          omega
    · refine ⟨h1, h2, by omega, h4, fun k h0 hk => ?_⟩
      have := h5 k h0 hk
      omega
/-- p is the place of the slice x in the order -/
def Plc (w : Int → Int) (x p : Int) : Prop := 0 ≤ p ∧ p < w 74 ∧ (∀ k, 0 ≤ k → k < p → w (91 + k) ≠ x) ∧ w (91 + p) = x
/-- p marks lie before the frame x -/
def Bef (w : Int → Int) (x p : Int) : Prop := 0 ≤ p ∧ p ≤ w 74 ∧ (∀ k, 0 ≤ k → k < p → w (75 + k) < x) ∧ (p < w 74 → x ≤ w (75 + p))
theorem sumN_0 (f : Int → Int) : ∀ n : Nat, (∀ k, 0 ≤ k → k < (n : Int) → f k = 0) → sumN f n = 0
  | 0, _ => rfl
  | n + 1, h => by
    unfold sumN
    rw [sumN_0 f n (fun k h0 h1 => h k h0 (by omega)), h n (by omega) (by omega)]
    rfl
theorem sumN_1 (x : Int) : ∀ n : Nat, 0 ≤ x → x < (n : Int) → sumN (fun k => if k = x then 1 else 0) n = 1
  | 0, h0, h1 => by omega
  | n + 1, h0, h1 => by
    unfold sumN
    by_cases h : x = (n : Int)
    · rw [sumN_0 _ n (fun k _ h2 => if_neg (by omega)), if_pos h.symm]
      rfl
    · rw [sumN_1 x n h0 (by omega), if_neg (fun q => h q.symm)]
      rfl
theorem Inv.plc {w : Int → Int} (h : Inv w) {x : Int} (hx : 0 ≤ x ∧ x < w 74) : ∃ p, 0 ≤ p ∧ p < w 74 ∧ w (91 + p) = x := by
  have hp := h.2.2.2.2.2 (fun k => if k = x then 1 else 0)
  rw [sumN_1 x _ hx.1 (by omega)] at hp
  apply Classical.byContradiction
  intro hn
  rw [sumN_0 _ _ (fun k h0 h1 => if_neg (fun q => hn ⟨k, h0, by omega, q⟩))] at hp
  exact absurd hp (by decide)
theorem Plc.uniq {w : Int → Int} {x p q : Int} (h : Plc w x p) (h' : Plc w x q) : p = q := by
  obtain ⟨a1, a2, a3, a4⟩ := h
  obtain ⟨b1, b2, b3, b4⟩ := h'
  rcases Int.lt_trichotomy p q with z | z | z
  · exact absurd a4 (b3 p a1 z)
  · exact z
  · exact absurd b4 (a3 q b1 z)
theorem Bef.uniq {w : Int → Int} {x p q : Int} (h : Bef w x p) (h' : Bef w x q) : p = q := by
  obtain ⟨a1, a2, a3, a4⟩ := h
  obtain ⟨b1, b2, b3, b4⟩ := h'
  rcases Int.lt_trichotomy p q with z | z | z
  · have := b3 p a1 z; have := a4 (by omega); omega
  · exact z
  · have := a3 q b1 z; have := b4 (by omega); omega
theorem fbn_y {w : Int → Int} {t : Int} {b : Int → Int} {n : Nat} (h : (fbn w t b n).1 < 16 ∧ t ≤ w (10 + ((n : Int) + 1)) - w (10 + (n : Int)) ∧ w 3 ≤ (n : Int) + 1 - (fbn w t b n).2 ((fbn w t b n).1 - 1)) : fbn w t b (n + 1) = ((fbn w t b n).1 + 1, ups (fbn w t b n).2 (fbn w t b n).1 ((n : Int) + 1)) := if_pos h
theorem fbn_n {w : Int → Int} {t : Int} {b : Int → Int} {n : Nat} (h : ¬ ((fbn w t b n).1 < 16 ∧ t ≤ w (10 + ((n : Int) + 1)) - w (10 + (n : Int)) ∧ w 3 ≤ (n : Int) + 1 - (fbn w t b n).2 ((fbn w t b n).1 - 1))) : fbn w t b (n + 1) = fbn w t b n := if_neg h
theorem fbn_stop {w : Int → Int} {t : Int} {b : Int → Int} {n : Nat} (h : 16 ≤ (fbn w t b n).1) : ∀ d : Nat, fbn w t b (n + d) = fbn w t b n
  | 0 => rfl
  | d + 1 => by
    have e := fbn_stop h d
    rw [show n + (d + 1) = (n + d) + 1 from rfl, fbn_n (by rw [e]; omega), e]
theorem fbn_end {w : Int → Int} {t : Int} {b : Int → Int} {n N : Nat} (h : 16 ≤ (fbn w t b n).1 ∨ n = N) (hn : n ≤ N) : fbn w t b N = fbn w t b n := by
  rcases h with h | h
  · have e := fbn_stop h (N - n)
    rwa [show n + (N - n) = N by omega] at e
  · rw [h]
theorem fbn_0 (w : Int → Int) (t : Int) (b : Int → Int) : fbn w t b 0 = (1, ups b 0 0) := rfl
theorem plc_last {w : Int → Int} {x q i : Int} (hw : ∀ k, 0 ≤ k → k < i → w (91 + k) ≠ x) (h0 : 0 ≤ q) (h1 : q < w 74) (h2 : w (91 + q) = x) (h3 : w 74 - 1 ≤ i) : w (91 + i) = x := by
  rcases Int.lt_or_le q i with h | h
  · exact absurd h2 (hw q h0 h)
  · rw [show i = q by omega]; exact h2
end
section
/-! the program: changes of a loop, and questions with a walk along it (rows laid by wip/gen) -/
theorem iX2_resetSequence_X2 : ∀ w ∈ wsX20, w ∈ wsX2_resetSequence := fun _ h => List.mem_cons_of_mem _ (List.mem_append_right _ h)
set_option maxHeartbeats 4000000 in
set_option maxRecDepth 100000 in
theorem mX2_resetSequence (l : Launch) (G : va_G) (cx a : Nat → Nat) (σ : Nat → Int → Int)    : Met l yX2_resetSequence wsX2_resetSequence ({ frames := 0, cells := 0, slots := 0, locals := 0 }) (va_Pc [.ref (a 3)] (gW G (tx cx) (XA a) (wx cx a) σ)) (va_Qv (fun u => sc σ 0 (spo (σ 0)) = u) (gW G (tx cx) (XA a) (wx cx a)) (XA a)) 0 0 (XA a) := by
  refine Met.ofW (cc := cX2_resetSequence) (maxL := 2) (ret := none) (by decide) rfl ?_
  intro p e s m args below meth c s₁ B hml hv
  obtain ⟨rfl, hP, hK, hD⟩ := hv
  have hex := B.exec
  have hbc := B.bytes
  have hrt := B.returns
  have hts := atoms_spec (ws := wsX2_resetSequence) B.pre
  have hown : s.vm.findClass RX2 = some m.cls := findClass_of_methodNamed B.named
  have hlocks := B.notSynchronized
  have hS : va_S (XA a) s.heap s.heap [] := va_S.rf
  have hin2 := iX2_resetSequence_X2
  have hl := lv_entry ([.ref (a 3)]) (n := 2) (Nat.le_of_ble_eq_true rfl)
  rw [lg_entry_eq]
  generalize (lg_sl ([.ref (a 3)]) ++ List.replicate (2 - (lg_sl ([.ref (a 3)])).length) Slot.unset).toArray = ls at hl ⊢
  have hl : lv_has ls 2 [(0, .ref (a 3))] := hl
  refine lv_iconst (v := iI 0) hex hbc dX2_resetSequence_0 rfl ?_
  refine lv_istore_n (lv' := [(1, .int (iI 0)), (0, .ref (a 3))]) hex hbc dX2_resetSequence_1 rfl hl (by decide) rfl (fun ls hl => ?_)
  have loop_2 : ∀ (N : Nat) (i1 : Int) (w1 : Int → Int), (0 ≤ i1 ∧ i1 ≤ 16 ∧ ∀ k, w1 k = if 91 ≤ k ∧ k < 91 + i1 then k - 91 else σ 0 k) → (16 - i1) < (N : Int) → ∀ (H : Heap) (locs : List Loc) (ls : Array Slot), va_P G vwCl (wx cx a (sc σ 0 w1)) H → va_D (XA a) (wx cx a (sc σ 0 w1)) → va_S (XA a) s.heap H locs → lv_has ls 2 [(1, .int (iI i1)), (0, .ref (a 3))] → W p l e (headSpec wsX2_resetSequence ({ frames := 0, cells := 0, slots := 0, locals := 0 })).room s m ([.ref (a 3)] : List Value).toArray below meth c H locs 0 0 (MQ below (va_Qv (fun u => sc σ 0 (spo (σ 0)) = u) (gW G (tx cx) (XA a) (wx cx a)) (XA a)) ([.ref (a 3)] : List Value).toArray s 0 0 (XA a)) (F0 m 2 ls []) := by
    intro N
    induction N with
    | zero => intro i1 w1 hinv hlt; exfalso; omega
    | succ N ih_2 =>
      intro i1 w1 ⟨hi0, hi1, hw⟩ hlt_2 H locs ls hP hD hS hl
      refine lv_iload_n hex hbc dX2_resetSequence_2 rfl (lv_at hl 0 rfl) ?_
      refine lv_bipush (v := iI 16) hex hbc dX2_resetSequence_3 (by decide) ?_
      refine zt_icmp_ge (a := i1) (b := 16) (tgt := 21) hex hbc (by omega) dX2_resetSequence_5 (by decide) (fun c5 => ?_) (fun c5 => ?_)
      · skip
        exact g_vret hex hbc hrt hlocks hK hP hD hS (congrArg (sc σ 0) (funext fun k => by rw [hw k]; unfold spo; (repeat' split) <;> first | omega | exact congrArg _ (by omega))) dX2_resetSequence_21
      · skip
        refine lv_aload_n hex hbc dX2_resetSequence_8 rfl (lv_at hl 1 rfl) ?_
        refine va_get (v := .ref (a 7)) hex hbc hts hin2 hown hK hP 3 rfl rfl 5 (by decide) (hts _ (List.mem_of_getElem? (i := 1) rfl)) (fun _ h => h) rfl dX2_resetSequence_9 ?_
        refine lv_iload_n hex hbc dX2_resetSequence_12 rfl (lv_at hl 0 rfl) ?_
        refine lv_iload_n hex hbc dX2_resetSequence_13 rfl (lv_at hl 0 rfl) ?_
        have hi_14 : (0 : Int) ≤ i1 ∧ i1 < (16 : Int) := (by omega)
        refine g_iast (σ := (sc σ 0 w1)) (f := (fun k => (w1 (91 + k)))) (i := i1) (v := i1) (τ := st (sc σ 0 w1) 0 (91 + i1) i1) hex hbc hK hP hD hS 7 0 rfl rfl (by decide) hi_14 dX2_resetSequence_14 (wx_up_7 hi_14) (fun H locs hP hD hS => ?_)
        obtain ⟨f0_14, ef0_14⟩ : ∃ z : Int → Int, z = ups w1 (91 + i1) i1 := ⟨_, rfl⟩
        have hP : va_P G vwCl (wx cx a (sc σ 0 f0_14)) H := by rw [ef0_14]; exact hP
        have hD : va_D (XA a) (wx cx a (sc σ 0 f0_14)) := by rw [ef0_14]; exact hD
        refine lv_iinc (v := iI (i1 + 1)) (lv' := [(1, .int (iI (i1 + 1))), (0, .ref (a 3))]) hex hbc dX2_resetSequence_15 hl (k := 0) rfl (iI_add _ _) (by decide) rfl (fun ls hl => ?_)
        refine lv_goto (tgt := 2) hex hbc dX2_resetSequence_18 (by decide) ?_
        exact ih_2 (i1 + 1) f0_14 ⟨by omega, by omega, fun k => by rw [ef0_14]; unfold ups; rw [hw k]; (repeat' split) <;> first | omega | exact congrArg _ (by omega)⟩ (by omega) _ _ _ hP hD hS (lv_sub hl [0, 1] rfl)
  exact loop_2 _ 0 (σ 0) ⟨by omega, by omega, fun k => by rw [if_neg (by omega)]⟩ (mz_lt _) _ _ _ hP hD hS (lv_sub hl [0, 1] rfl)
theorem iX2_clear_X2 : ∀ w ∈ wsX20, w ∈ wsX2_clear := fun _ h => List.mem_cons_of_mem _ (List.mem_append_right _ h)
set_option maxHeartbeats 4000000 in
set_option maxRecDepth 100000 in
theorem mX2_clear (l : Launch) (G : va_G) (cx a : Nat → Nat) (σ : Nat → Int → Int)  (x : Int) (hI : Inv (σ 0)) : Met l yX2_clear wsX2_clear ({ frames := 1, cells := 0, slots := 0, locals := 21 }) (va_Pc [.ref (a 3), .int (iI x)] (gW G (tx cx) (XA a) (wx cx a) σ)) (va_Qv (fun u => sc σ 0 (spc (σ 0) x) = u) (gW G (tx cx) (XA a) (wx cx a)) (XA a)) 0 0 (XA a) := by
  refine Met.ofW (cc := cX2_clear) (maxL := 3) (ret := none) (by decide) rfl ?_
  intro p e s m args below meth c s₁ B hml hv
  obtain ⟨rfl, hP, hK, hD⟩ := hv
  have hex := B.exec
  have hbc := B.bytes
  have hrt := B.returns
  have hts := atoms_spec (ws := wsX2_clear) B.pre
  have hown : s.vm.findClass RX2 = some m.cls := findClass_of_methodNamed B.named
  have hlocks := B.notSynchronized
  have hS : va_S (XA a) s.heap s.heap [] := va_S.rf
  have hin2 := iX2_clear_X2
  have hl := lv_entry ([.ref (a 3), .int (iI x)]) (n := 3) (Nat.le_of_ble_eq_true rfl)
  rw [lg_entry_eq]
  generalize (lg_sl ([.ref (a 3), .int (iI x)]) ++ List.replicate (3 - (lg_sl ([.ref (a 3), .int (iI x)])).length) Slot.unset).toArray = ls at hl ⊢
  have hl : lv_has ls 3 [(0, .ref (a 3)), (1, .int (iI x))] := hl
  obtain ⟨hB, hEn, hMk, hAs, hPm⟩ := id hI
  have h75 : ∀ k, k = 75 → σ 0 k = 0 := fun k h => by rw [h]; exact hB.2.2.2.2.2.2.2.2.2.2.2
  refine lv_aload_n hex hbc dX2_clear_0 rfl (lv_at hl 0 rfl) ?_
  refine lv_iload_n hex hbc dX2_clear_1 rfl (lv_at hl 1 rfl) ?_
  refine va_put hex hbc hts hin2 tyX2 tyX2_ok nmX2 hown hK hP hD hS 3 rfl rfl 0 (by decide) (hts _ (List.mem_of_getElem? (i := 1) rfl)) (fun _ h => h) rfl (tyX2_ok 0 (by decide)) rfl rfl (Nat.le_of_ble_eq_true rfl) dX2_clear_2 (fun H locs hP hD hS => ?_)
  have hP := leW_P (wx_pf_3_0 (G := G) (cx := cx) (a := a) (σ := σ)) hP
  have hD := leW_D (wx_pf_3_0 (G := G) (cx := cx) (a := a) (σ := σ)) hD
  obtain ⟨f0_2, ef0_2⟩ : ∃ z : Int → Int, z = ups (σ 0) 0 x := ⟨_, rfl⟩
  have hP : va_P G vwCl (wx cx a (sc σ 0 f0_2)) H := by rw [ef0_2]; exact hP
  have hD : va_D (XA a) (wx cx a (sc σ 0 f0_2)) := by rw [ef0_2]; exact hD
  refine lv_iconst (v := iI 0) hex hbc dX2_clear_5 rfl ?_
  refine lv_istore_n (lv' := [(2, .int (iI 0)), (0, .ref (a 3)), (1, .int (iI x))]) hex hbc dX2_clear_6 rfl hl (by decide) rfl (fun ls hl => ?_)
  have loop_7 : ∀ (N : Nat) (i1 : Int) (w1 : Int → Int), (0 ≤ i1 ∧ i1 ≤ 64 ∧ ∀ k, w1 k = if k = 0 then x else if 10 ≤ k ∧ k < 10 + i1 then 0 else σ 0 k) → (64 - i1) < (N : Int) → ∀ (H : Heap) (locs : List Loc) (ls : Array Slot), va_P G vwCl (wx cx a (sc σ 0 w1)) H → va_D (XA a) (wx cx a (sc σ 0 w1)) → va_S (XA a) s.heap H locs → lv_has ls 3 [(2, .int (iI i1)), (0, .ref (a 3))] → W p l e (headSpec wsX2_clear ({ frames := 1, cells := 0, slots := 0, locals := 21 })).room s m ([.ref (a 3), .int (iI x)] : List Value).toArray below meth c H locs 0 0 (MQ below (va_Qv (fun u => sc σ 0 (spc (σ 0) x) = u) (gW G (tx cx) (XA a) (wx cx a)) (XA a)) ([.ref (a 3), .int (iI x)] : List Value).toArray s 0 0 (XA a)) (F0 m 7 ls []) := by
    intro N
    induction N with
    | zero => intro i1 w1 hinv hlt; exfalso; omega
    | succ N ih_7 =>
      intro i1 w1 ⟨hi0, hi1, hw⟩ hlt_7 H locs ls hP hD hS hl
      refine lv_iload_n hex hbc dX2_clear_7 rfl (lv_at hl 0 rfl) ?_
      refine lv_bipush (v := iI 64) hex hbc dX2_clear_8 (by decide) ?_
      refine zt_icmp_ge (a := i1) (b := 64) (tgt := 26) hex hbc (by omega) dX2_clear_10 (by decide) (fun c10 => ?_) (fun c10 => ?_)
      · skip
        refine lv_aload_n hex hbc dX2_clear_26 rfl (lv_at hl 1 rfl) ?_
        refine lv_iconst (v := iI 1) hex hbc dX2_clear_27 rfl ?_
        refine va_put hex hbc hts hin2 tyX2 tyX2_ok nmX2 hown hK hP hD hS 3 rfl rfl 1 (by decide) (hts _ (List.mem_of_getElem? (i := 3) rfl)) (fun _ h => h) rfl (tyX2_ok 1 (by decide)) rfl rfl (Nat.le_of_ble_eq_true rfl) dX2_clear_28 (fun H locs hP hD hS => ?_)
        have hP := leW_P (wx_pf_3_1 (G := G) (cx := cx) (a := a) (σ := (sc σ 0 w1))) hP
        have hD := leW_D (wx_pf_3_1 (G := G) (cx := cx) (a := a) (σ := (sc σ 0 w1))) hD
        obtain ⟨f0_28, ef0_28⟩ : ∃ z : Int → Int, z = ups w1 74 1 := ⟨_, rfl⟩
        have hP : va_P G vwCl (wx cx a (sc σ 0 f0_28)) H := by rw [ef0_28]; exact hP
        have hD : va_D (XA a) (wx cx a (sc σ 0 f0_28)) := by rw [ef0_28]; exact hD
        refine lv_aload_n hex hbc dX2_clear_31 rfl (lv_at hl 1 rfl) ?_
        refine g_callv [] ⟨hex, hbc, hml, hown, hts⟩ (mX2_resetSequence l G cx a (sc σ 0 f0_28)  ) (cwV 0 hts gX2_clear_X2_resetSequence rfl rfl rfl (by decide +kernel) ⟨Nat.le_of_ble_eq_true rfl, Nat.le_of_ble_eq_true rfl⟩) hK hP hD hS (fun _ h => h) 3 2 rfl rfl rfl rfl hl.1 (Nat.le_of_ble_eq_true rfl) dX2_clear_32 ⟨Nat.zero_le _, Nat.zero_le _⟩ (fun u_32 H locs hw_32 hP hD hS hz_32 hk_32 => ?_)
        obtain rfl := hw_32
        have hP : va_P G vwCl (wx cx a (sc σ 0 (spo (f0_28)))) H := hP
        have hD : va_D (XA a) (wx cx a (sc σ 0 (spo (f0_28)))) := hD
        exact g_vret hex hbc hrt hlocks hK hP hD hS (congrArg (sc σ 0) (funext fun k => by unfold spo spc; rw [ef0_28]; unfold ups; rw [hw k]; (repeat' split) <;> first | omega | exact congrArg _ (by omega) | (have := h75 k (by omega); omega))) dX2_clear_35
      · skip
        refine lv_aload_n hex hbc dX2_clear_13 rfl (lv_at hl 1 rfl) ?_
        refine va_get (v := .ref (a 4)) hex hbc hts hin2 hown hK hP 3 rfl rfl 2 (by decide) (hts _ (List.mem_of_getElem? (i := 2) rfl)) (fun _ h => h) rfl dX2_clear_14 ?_
        refine lv_iload_n hex hbc dX2_clear_17 rfl (lv_at hl 0 rfl) ?_
        refine lv_iconst (v := iI 0) hex hbc dX2_clear_18 rfl ?_
        have hi_19 : (0 : Int) ≤ i1 ∧ i1 < (64 : Int) := (by omega)
        refine g_iast (σ := (sc σ 0 w1)) (f := (fun k => (w1 (10 + k)))) (i := i1) (v := 0) (τ := st (sc σ 0 w1) 0 (10 + i1) 0) hex hbc hK hP hD hS 4 0 rfl rfl (by decide) hi_19 dX2_clear_19 (wx_up_4 hi_19) (fun H locs hP hD hS => ?_)
        obtain ⟨f0_19, ef0_19⟩ : ∃ z : Int → Int, z = ups w1 (10 + i1) 0 := ⟨_, rfl⟩
        have hP : va_P G vwCl (wx cx a (sc σ 0 f0_19)) H := by rw [ef0_19]; exact hP
        have hD : va_D (XA a) (wx cx a (sc σ 0 f0_19)) := by rw [ef0_19]; exact hD
        refine lv_iinc (v := iI (i1 + 1)) (lv' := [(2, .int (iI (i1 + 1))), (0, .ref (a 3))]) hex hbc dX2_clear_20 hl (k := 0) rfl (iI_add _ _) (by decide) rfl (fun ls hl => ?_)
        refine lv_goto (tgt := 7) hex hbc dX2_clear_23 (by decide) ?_
        exact ih_7 (i1 + 1) f0_19 ⟨by omega, by omega, fun k => by rw [ef0_19]; unfold ups; rw [hw k]; (repeat' split) <;> first | omega | exact congrArg _ (by omega)⟩ (by omega) _ _ _ hP hD hS (lv_sub hl [0, 1] rfl)
  exact loop_7 _ 0 f0_2 ⟨by omega, by omega, fun k => by rw [ef0_2]; unfold ups; (repeat' split) <;> first | omega | exact congrArg _ (by omega)⟩ (mz_lt _) _ _ _ hP hD hS (lv_sub hl [0, 1] rfl)
theorem iX2_placeOf_X2 : ∀ w ∈ wsX20, w ∈ wsX2_placeOf := fun _ h => List.mem_cons_of_mem _ (List.mem_append_right _ h)
set_option maxHeartbeats 4000000 in
set_option maxRecDepth 100000 in
theorem mX2_placeOf (l : Launch) (G : va_G) (cx a : Nat → Nat) (σ : Nat → Int → Int)  (x : Int) (hx : -2147483648 ≤ x ∧ x < 2147483648) (hI : Inv (σ 0)) (hq : ∃ p, 0 ≤ p ∧ p < σ 0 74 ∧ σ 0 (91 + p) = x) : Met l yX2_placeOf wsX2_placeOf ({ frames := 0, cells := 0, slots := 0, locals := 0 }) (va_Pc [.ref (a 3), .int (iI x)] (gW G (tx cx) (XA a) (wx cx a) σ)) (va_Qi (fun r u => σ = u ∧ ∃ p, iI p = r ∧ Plc (σ 0) x p) (gW G (tx cx) (XA a) (wx cx a)) (XA a)) 0 0 (XA a) := by
  refine Met.ofW (cc := cX2_placeOf) (maxL := 3) (ret := some .int) (by decide) rfl ?_
  intro p e s m args below meth c s₁ B hml hv
  obtain ⟨rfl, hP, hK, hD⟩ := hv
  have hex := B.exec
  have hbc := B.bytes
  have hrt := B.returns
  have hts := atoms_spec (ws := wsX2_placeOf) B.pre
  have hown : s.vm.findClass RX2 = some m.cls := findClass_of_methodNamed B.named
  have hlocks := B.notSynchronized
  have hS : va_S (XA a) s.heap s.heap [] := va_S.rf
  have hin2 := iX2_placeOf_X2
  have hl := lv_entry ([.ref (a 3), .int (iI x)]) (n := 3) (Nat.le_of_ble_eq_true rfl)
  rw [lg_entry_eq]
  generalize (lg_sl ([.ref (a 3), .int (iI x)]) ++ List.replicate (3 - (lg_sl ([.ref (a 3), .int (iI x)])).length) Slot.unset).toArray = ls at hl ⊢
  have hl : lv_has ls 3 [(0, .ref (a 3)), (1, .int (iI x))] := hl
  obtain ⟨hB, hEn, hMk, hAs, hPm⟩ := id hI
  obtain ⟨q0, hq0, hq1, hq2⟩ := hq
  have hO := hPm.1
  refine lv_iconst (v := iI 0) hex hbc dX2_placeOf_0 rfl ?_
  refine lv_istore_n (lv' := [(2, .int (iI 0)), (0, .ref (a 3)), (1, .int (iI x))]) hex hbc dX2_placeOf_1 rfl hl (by decide) rfl (fun ls hl => ?_)
  have loop_2 : ∀ (N : Nat) (i1 : Int), (0 ≤ i1 ∧ i1 ≤ σ 0 74 - 1 ∧ ∀ k, 0 ≤ k → k < i1 → σ 0 (91 + k) ≠ x) → (16 - i1) < (N : Int) → ∀ (H : Heap) (locs : List Loc) (ls : Array Slot), va_P G vwCl (wx cx a σ) H → va_D (XA a) (wx cx a σ) → va_S (XA a) s.heap H locs → lv_has ls 3 [(2, .int (iI i1)), (0, .ref (a 3)), (1, .int (iI x))] → W p l e (headSpec wsX2_placeOf ({ frames := 0, cells := 0, slots := 0, locals := 0 })).room s m ([.ref (a 3), .int (iI x)] : List Value).toArray below meth c H locs 0 0 (MQ below (va_Qi (fun r u => σ = u ∧ ∃ p, iI p = r ∧ Plc (σ 0) x p) (gW G (tx cx) (XA a) (wx cx a)) (XA a)) ([.ref (a 3), .int (iI x)] : List Value).toArray s 0 0 (XA a)) (F0 m 2 ls []) := by
    intro N
    induction N with
    | zero => intro i1 hinv hlt; exfalso; omega
    | succ N ih_2 =>
      intro i1 ⟨hi0, hi1, hw⟩ hlt_2 H locs ls hP hD hS hl
      have ho := hO i1 hi0 (by omega)
      refine lv_iload_n hex hbc dX2_placeOf_2 rfl (lv_at hl 0 rfl) ?_
      refine lv_aload_n hex hbc dX2_placeOf_3 rfl (lv_at hl 1 rfl) ?_
      refine va_get (v := .int (iI (σ 0 74))) hex hbc hts hin2 hown hK hP 3 rfl rfl 1 (by decide) (hts _ (List.mem_of_getElem? (i := 1) rfl)) (fun _ h => h) rfl dX2_placeOf_4 ?_
      refine lv_iconst (v := iI 1) hex hbc dX2_placeOf_7 rfl ?_
      refine zt_isub hex hbc dX2_placeOf_8 ?_
      refine zt_icmp_ge (a := i1) (b := ((σ 0 74) - 1)) (tgt := 28) hex hbc (by omega) dX2_placeOf_9 (by decide) (fun c9 => ?_) (fun c9 => ?_)
      · skip
        refine lv_iload_n hex hbc dX2_placeOf_28 rfl (lv_at hl 0 rfl) ?_
        exact g_iret hex hbc hrt hlocks hK hP hD hS ⟨rfl, i1, rfl, hi0, by omega, hw, by first | exact c19 | exact plc_last hw hq0 hq1 hq2 c9⟩ dX2_placeOf_29
      · skip
        refine lv_aload_n hex hbc dX2_placeOf_12 rfl (lv_at hl 1 rfl) ?_
        refine va_get (v := .ref (a 7)) hex hbc hts hin2 hown hK hP 3 rfl rfl 5 (by decide) (hts _ (List.mem_of_getElem? (i := 2) rfl)) (fun _ h => h) rfl dX2_placeOf_13 ?_
        refine lv_iload_n hex hbc dX2_placeOf_16 rfl (lv_at hl 0 rfl) ?_
        refine g_iald (f := (fun k => (σ 0 (91 + k)))) (v := (σ 0 (91 + i1))) (i := i1) hex hbc hK hP 7 0 rfl rfl (by decide) (by omega) rfl dX2_placeOf_17 ?_
        refine lv_iload_n hex hbc dX2_placeOf_18 rfl (lv_at hl 2 rfl) ?_
        refine zt_icmp_eq (a := (σ 0 (91 + i1))) (b := x) (tgt := 28) hex hbc (by omega) dX2_placeOf_19 (by decide) (fun c19 => ?_) (fun c19 => ?_)
        · skip
          refine lv_iload_n hex hbc dX2_placeOf_28 rfl (lv_at hl 0 rfl) ?_
          exact g_iret hex hbc hrt hlocks hK hP hD hS ⟨rfl, i1, rfl, hi0, by omega, hw, by first | exact c19 | exact plc_last hw hq0 hq1 hq2 c9⟩ dX2_placeOf_29
        · skip
          refine lv_iinc (v := iI (i1 + 1)) (lv' := [(2, .int (iI (i1 + 1))), (0, .ref (a 3)), (1, .int (iI x))]) hex hbc dX2_placeOf_22 hl (k := 0) rfl (iI_add _ _) (by decide) rfl (fun ls hl => ?_)
          refine lv_goto (tgt := 2) hex hbc dX2_placeOf_25 (by decide) ?_
          exact ih_2 (i1 + 1) ⟨by omega, by omega, fun k h1 h2 => if hk : k = i1 then by subst hk; exact c19 else hw k h1 (by omega)⟩ (by omega) _ _ _ hP hD hS (lv_sub hl [0, 1, 2] rfl)
  exact loop_2 _ 0 ⟨by omega, by omega, fun k h1 h2 => by omega⟩ (mz_lt _) _ _ _ hP hD hS (lv_sub hl [0, 1, 2] rfl)
theorem iX2_exchange_X2 : ∀ w ∈ wsX20, w ∈ wsX2_exchange := fun _ h => List.mem_cons_of_mem _ (List.mem_append_right _ h)
set_option maxHeartbeats 4000000 in
set_option maxRecDepth 100000 in
theorem mX2_exchange (l : Launch) (G : va_G) (cx a : Nat → Nat) (σ : Nat → Int → Int)  (x1 : Int) (x2 : Int) (h1 : 0 ≤ x1 ∧ x1 < 16) (h2 : 0 ≤ x2 ∧ x2 < 16) : Met l yX2_exchange wsX2_exchange ({ frames := 0, cells := 0, slots := 0, locals := 0 }) (va_Pc [.ref (a 3), .int (iI x1), .int (iI x2)] (gW G (tx cx) (XA a) (wx cx a) σ)) (va_Qv (fun u => sc σ 0 (spx (σ 0) x1 x2) = u) (gW G (tx cx) (XA a) (wx cx a)) (XA a)) 0 0 (XA a) := by
  refine Met.ofW (cc := cX2_exchange) (maxL := 4) (ret := none) (by decide) rfl ?_
  intro p e s m args below meth c s₁ B hml hv
  obtain ⟨rfl, hP, hK, hD⟩ := hv
  have hex := B.exec
  have hbc := B.bytes
  have hrt := B.returns
  have hts := atoms_spec (ws := wsX2_exchange) B.pre
  have hown : s.vm.findClass RX2 = some m.cls := findClass_of_methodNamed B.named
  have hlocks := B.notSynchronized
  have hS : va_S (XA a) s.heap s.heap [] := va_S.rf
  have hin2 := iX2_exchange_X2
  have hl := lv_entry ([.ref (a 3), .int (iI x1), .int (iI x2)]) (n := 4) (Nat.le_of_ble_eq_true rfl)
  rw [lg_entry_eq]
  generalize (lg_sl ([.ref (a 3), .int (iI x1), .int (iI x2)]) ++ List.replicate (4 - (lg_sl ([.ref (a 3), .int (iI x1), .int (iI x2)])).length) Slot.unset).toArray = ls at hl ⊢
  have hl : lv_has ls 4 [(0, .ref (a 3)), (1, .int (iI x1)), (2, .int (iI x2))] := hl
  refine lv_aload_n hex hbc dX2_exchange_0 rfl (lv_at hl 0 rfl) ?_
  refine va_get (v := .ref (a 7)) hex hbc hts hin2 hown hK hP 3 rfl rfl 5 (by decide) (hts _ (List.mem_of_getElem? (i := 1) rfl)) (fun _ h => h) rfl dX2_exchange_1 ?_
  refine lv_iload_n hex hbc dX2_exchange_4 rfl (lv_at hl 1 rfl) ?_
  refine g_iald (f := (fun k => (σ 0 (91 + k)))) (v := (σ 0 (91 + x1))) (i := x1) hex hbc hK hP 7 0 rfl rfl (by decide) (by omega) rfl dX2_exchange_5 ?_
  refine lv_istore_n (lv' := [(3, .int (iI (σ 0 (91 + x1)))), (0, .ref (a 3)), (1, .int (iI x1)), (2, .int (iI x2))]) hex hbc dX2_exchange_6 rfl hl (by decide) rfl (fun ls hl => ?_)
  refine lv_aload_n hex hbc dX2_exchange_7 rfl (lv_at hl 1 rfl) ?_
  refine va_get (v := .ref (a 7)) hex hbc hts hin2 hown hK hP 3 rfl rfl 5 (by decide) (hts _ (List.mem_of_getElem? (i := 1) rfl)) (fun _ h => h) rfl dX2_exchange_8 ?_
  refine lv_iload_n hex hbc dX2_exchange_11 rfl (lv_at hl 2 rfl) ?_
  refine lv_aload_n hex hbc dX2_exchange_12 rfl (lv_at hl 1 rfl) ?_
  refine va_get (v := .ref (a 7)) hex hbc hts hin2 hown hK hP 3 rfl rfl 5 (by decide) (hts _ (List.mem_of_getElem? (i := 1) rfl)) (fun _ h => h) rfl dX2_exchange_13 ?_
  refine lv_iload_n hex hbc dX2_exchange_16 rfl (lv_at hl 3 rfl) ?_
  refine g_iald (f := (fun k => (σ 0 (91 + k)))) (v := (σ 0 (91 + x2))) (i := x2) hex hbc hK hP 7 0 rfl rfl (by decide) (by omega) rfl dX2_exchange_17 ?_
  have hi_18 : (0 : Int) ≤ x1 ∧ x1 < (16 : Int) := (by omega)
  refine g_iast (σ := σ) (f := (fun k => (σ 0 (91 + k)))) (i := x1) (v := (σ 0 (91 + x2))) (τ := st σ 0 (91 + x1) (σ 0 (91 + x2))) hex hbc hK hP hD hS 7 0 rfl rfl (by decide) hi_18 dX2_exchange_18 (wx_up_7 hi_18) (fun H locs hP hD hS => ?_)
  obtain ⟨f0_18, ef0_18⟩ : ∃ z : Int → Int, z = ups (σ 0) (91 + x1) (σ 0 (91 + x2)) := ⟨_, rfl⟩
  have hP : va_P G vwCl (wx cx a (sc σ 0 f0_18)) H := by rw [ef0_18]; exact hP
  have hD : va_D (XA a) (wx cx a (sc σ 0 f0_18)) := by rw [ef0_18]; exact hD
  refine lv_aload_n hex hbc dX2_exchange_19 rfl (lv_at hl 1 rfl) ?_
  refine va_get (v := .ref (a 7)) hex hbc hts hin2 hown hK hP 3 rfl rfl 5 (by decide) (hts _ (List.mem_of_getElem? (i := 1) rfl)) (fun _ h => h) rfl dX2_exchange_20 ?_
  refine lv_iload_n hex hbc dX2_exchange_23 rfl (lv_at hl 3 rfl) ?_
  refine lv_iload_n hex hbc dX2_exchange_24 rfl (lv_at hl 0 rfl) ?_
  have hi_25 : (0 : Int) ≤ x2 ∧ x2 < (16 : Int) := (by omega)
  refine g_iast (σ := (sc σ 0 f0_18)) (f := (fun k => (f0_18 (91 + k)))) (i := x2) (v := (σ 0 (91 + x1))) (τ := st (sc σ 0 f0_18) 0 (91 + x2) (σ 0 (91 + x1))) hex hbc hK hP hD hS 7 0 rfl rfl (by decide) hi_25 dX2_exchange_25 (wx_up_7 hi_25) (fun H locs hP hD hS => ?_)
  obtain ⟨f0_25, ef0_25⟩ : ∃ z : Int → Int, z = ups f0_18 (91 + x2) (σ 0 (91 + x1)) := ⟨_, rfl⟩
  have hP : va_P G vwCl (wx cx a (sc σ 0 f0_25)) H := by rw [ef0_25]; exact hP
  have hD : va_D (XA a) (wx cx a (sc σ 0 f0_25)) := by rw [ef0_25]; exact hD
  exact g_vret hex hbc hrt hlocks hK hP hD hS (congrArg (sc σ 0) (by rw [ef0_25, ef0_18]; rfl)) dX2_exchange_26
theorem iX2_marksBefore_X2 : ∀ w ∈ wsX20, w ∈ wsX2_marksBefore := fun _ h => List.mem_cons_of_mem _ (List.mem_append_right _ h)
set_option maxHeartbeats 4000000 in
set_option maxRecDepth 100000 in
theorem mX2_marksBefore (l : Launch) (G : va_G) (cx a : Nat → Nat) (σ : Nat → Int → Int)  (x : Int) (hx : -2147483648 ≤ x ∧ x < 2147483648) (hI : Inv (σ 0)) : Met l yX2_marksBefore wsX2_marksBefore ({ frames := 0, cells := 0, slots := 0, locals := 0 }) (va_Pc [.ref (a 3), .int (iI x)] (gW G (tx cx) (XA a) (wx cx a) σ)) (va_Qi (fun r u => σ = u ∧ ∃ p, iI p = r ∧ Bef (σ 0) x p) (gW G (tx cx) (XA a) (wx cx a)) (XA a)) 0 0 (XA a) := by
  refine Met.ofW (cc := cX2_marksBefore) (maxL := 3) (ret := some .int) (by decide) rfl ?_
  intro p e s m args below meth c s₁ B hml hv
  obtain ⟨rfl, hP, hK, hD⟩ := hv
  have hex := B.exec
  have hbc := B.bytes
  have hrt := B.returns
  have hts := atoms_spec (ws := wsX2_marksBefore) B.pre
  have hown : s.vm.findClass RX2 = some m.cls := findClass_of_methodNamed B.named
  have hlocks := B.notSynchronized
  have hS : va_S (XA a) s.heap s.heap [] := va_S.rf
  have hin2 := iX2_marksBefore_X2
  have hl := lv_entry ([.ref (a 3), .int (iI x)]) (n := 3) (Nat.le_of_ble_eq_true rfl)
  rw [lg_entry_eq]
  generalize (lg_sl ([.ref (a 3), .int (iI x)]) ++ List.replicate (3 - (lg_sl ([.ref (a 3), .int (iI x)])).length) Slot.unset).toArray = ls at hl ⊢
  have hl : lv_has ls 3 [(0, .ref (a 3)), (1, .int (iI x))] := hl
  obtain ⟨hB, hEn, hMk, hAs, hPm⟩ := id hI
  refine lv_iconst (v := iI 0) hex hbc dX2_marksBefore_0 rfl ?_
  refine lv_istore_n (lv' := [(2, .int (iI 0)), (0, .ref (a 3)), (1, .int (iI x))]) hex hbc dX2_marksBefore_1 rfl hl (by decide) rfl (fun ls hl => ?_)
  have loop_2 : ∀ (N : Nat) (i1 : Int), (0 ≤ i1 ∧ i1 ≤ σ 0 74 ∧ ∀ k, 0 ≤ k → k < i1 → σ 0 (75 + k) < x) → (16 - i1) < (N : Int) → ∀ (H : Heap) (locs : List Loc) (ls : Array Slot), va_P G vwCl (wx cx a σ) H → va_D (XA a) (wx cx a σ) → va_S (XA a) s.heap H locs → lv_has ls 3 [(2, .int (iI i1)), (0, .ref (a 3)), (1, .int (iI x))] → W p l e (headSpec wsX2_marksBefore ({ frames := 0, cells := 0, slots := 0, locals := 0 })).room s m ([.ref (a 3), .int (iI x)] : List Value).toArray below meth c H locs 0 0 (MQ below (va_Qi (fun r u => σ = u ∧ ∃ p, iI p = r ∧ Bef (σ 0) x p) (gW G (tx cx) (XA a) (wx cx a)) (XA a)) ([.ref (a 3), .int (iI x)] : List Value).toArray s 0 0 (XA a)) (F0 m 2 ls []) := by
    intro N
    induction N with
    | zero => intro i1 hinv hlt; exfalso; omega
    | succ N ih_2 =>
      intro i1 ⟨hi0, hi1, hw⟩ hlt_2 H locs ls hP hD hS hl
      refine lv_iload_n hex hbc dX2_marksBefore_2 rfl (lv_at hl 0 rfl) ?_
      refine lv_aload_n hex hbc dX2_marksBefore_3 rfl (lv_at hl 1 rfl) ?_
      refine va_get (v := .int (iI (σ 0 74))) hex hbc hts hin2 hown hK hP 3 rfl rfl 1 (by decide) (hts _ (List.mem_of_getElem? (i := 1) rfl)) (fun _ h => h) rfl dX2_marksBefore_4 ?_
      refine zt_icmp_ge (a := i1) (b := (σ 0 74)) (tgt := 26) hex hbc (by omega) dX2_marksBefore_7 (by decide) (fun c7 => ?_) (fun c7 => ?_)
      · skip
        refine lv_iload_n hex hbc dX2_marksBefore_26 rfl (lv_at hl 0 rfl) ?_
        exact g_iret hex hbc hrt hlocks hK hP hD hS ⟨rfl, i1, rfl, hi0, hi1, hw, fun h => by omega⟩ dX2_marksBefore_27
      · skip
        have hm := hMk i1 hi0 (by omega)
        refine lv_aload_n hex hbc dX2_marksBefore_10 rfl (lv_at hl 1 rfl) ?_
        refine va_get (v := .ref (a 6)) hex hbc hts hin2 hown hK hP 3 rfl rfl 4 (by decide) (hts _ (List.mem_of_getElem? (i := 2) rfl)) (fun _ h => h) rfl dX2_marksBefore_11 ?_
        refine lv_iload_n hex hbc dX2_marksBefore_14 rfl (lv_at hl 0 rfl) ?_
        refine g_iald (f := (fun k => (σ 0 (75 + k)))) (v := (σ 0 (75 + i1))) (i := i1) hex hbc hK hP 6 0 rfl rfl (by decide) (by omega) rfl dX2_marksBefore_15 ?_
        refine lv_iload_n hex hbc dX2_marksBefore_16 rfl (lv_at hl 2 rfl) ?_
        refine zt_icmp_ge (a := (σ 0 (75 + i1))) (b := x) (tgt := 26) hex hbc (by omega) dX2_marksBefore_17 (by decide) (fun c17 => ?_) (fun c17 => ?_)
        · skip
          refine lv_iload_n hex hbc dX2_marksBefore_26 rfl (lv_at hl 0 rfl) ?_
          exact g_iret hex hbc hrt hlocks hK hP hD hS ⟨rfl, i1, rfl, hi0, hi1, hw, fun h => by omega⟩ dX2_marksBefore_27
        · skip
          refine lv_iinc (v := iI (i1 + 1)) (lv' := [(2, .int (iI (i1 + 1))), (0, .ref (a 3)), (1, .int (iI x))]) hex hbc dX2_marksBefore_20 hl (k := 0) rfl (iI_add _ _) (by decide) rfl (fun ls hl => ?_)
          refine lv_goto (tgt := 2) hex hbc dX2_marksBefore_23 (by decide) ?_
          exact ih_2 (i1 + 1) ⟨by omega, by omega, fun k h1 h2 => if hk : k = i1 then by subst hk; omega else hw k h1 (by omega)⟩ (by omega) _ _ _ hP hD hS (lv_sub hl [0, 1, 2] rfl)
  exact loop_2 _ 0 ⟨by omega, by omega, fun k h1 h2 => by omega⟩ (mz_lt _) _ _ _ hP hD hS (lv_sub hl [0, 1, 2] rfl)
theorem iX2_insertMark_X2 : ∀ w ∈ wsX20, w ∈ wsX2_insertMark := fun _ h => List.mem_cons_of_mem _ (List.mem_append_right _ h)
set_option maxHeartbeats 4000000 in
set_option maxRecDepth 100000 in
theorem mX2_insertMark (l : Launch) (G : va_G) (cx a : Nat → Nat) (σ : Nat → Int → Int)  (x1 : Int) (x2 : Int) (h1 : 0 ≤ x1 ∧ x1 ≤ σ 0 74) (h2 : 1 ≤ σ 0 74 ∧ σ 0 74 < 16) : Met l yX2_insertMark wsX2_insertMark ({ frames := 1, cells := 0, slots := 0, locals := 21 }) (va_Pc [.ref (a 3), .int (iI x1), .int (iI x2)] (gW G (tx cx) (XA a) (wx cx a) σ)) (va_Qv (fun u => sc σ 0 (spi (σ 0) x1 x2) = u) (gW G (tx cx) (XA a) (wx cx a)) (XA a)) 0 0 (XA a) := by
  refine Met.ofW (cc := cX2_insertMark) (maxL := 4) (ret := none) (by decide) rfl ?_
  intro p e s m args below meth c s₁ B hml hv
  obtain ⟨rfl, hP, hK, hD⟩ := hv
  have hex := B.exec
  have hbc := B.bytes
  have hrt := B.returns
  have hts := atoms_spec (ws := wsX2_insertMark) B.pre
  have hown : s.vm.findClass RX2 = some m.cls := findClass_of_methodNamed B.named
  have hlocks := B.notSynchronized
  have hS : va_S (XA a) s.heap s.heap [] := va_S.rf
  have hin2 := iX2_insertMark_X2
  have hl := lv_entry ([.ref (a 3), .int (iI x1), .int (iI x2)]) (n := 4) (Nat.le_of_ble_eq_true rfl)
  rw [lg_entry_eq]
  generalize (lg_sl ([.ref (a 3), .int (iI x1), .int (iI x2)]) ++ List.replicate (4 - (lg_sl ([.ref (a 3), .int (iI x1), .int (iI x2)])).length) Slot.unset).toArray = ls at hl ⊢
  have hl : lv_has ls 4 [(0, .ref (a 3)), (1, .int (iI x1)), (2, .int (iI x2))] := hl
  refine lv_aload_n hex hbc dX2_insertMark_0 rfl (lv_at hl 0 rfl) ?_
  refine va_get (v := .int (iI (σ 0 74))) hex hbc hts hin2 hown hK hP 3 rfl rfl 1 (by decide) (hts _ (List.mem_of_getElem? (i := 1) rfl)) (fun _ h => h) rfl dX2_insertMark_1 ?_
  refine lv_istore_n (lv' := [(3, .int (iI (σ 0 74))), (0, .ref (a 3)), (1, .int (iI x1)), (2, .int (iI x2))]) hex hbc dX2_insertMark_4 rfl hl (by decide) rfl (fun ls hl => ?_)
  have loop_5 : ∀ (N : Nat) (i1 : Int) (w1 : Int → Int), (x1 ≤ i1 ∧ i1 ≤ σ 0 74 ∧ ∀ k, w1 k = if 75 + i1 < k ∧ k ≤ 75 + σ 0 74 then σ 0 (k - 1) else σ 0 k) → (i1 - x1) < (N : Int) → ∀ (H : Heap) (locs : List Loc) (ls : Array Slot), va_P G vwCl (wx cx a (sc σ 0 w1)) H → va_D (XA a) (wx cx a (sc σ 0 w1)) → va_S (XA a) s.heap H locs → lv_has ls 4 [(3, .int (iI i1)), (0, .ref (a 3)), (1, .int (iI x1)), (2, .int (iI x2))] → W p l e (headSpec wsX2_insertMark ({ frames := 1, cells := 0, slots := 0, locals := 21 })).room s m ([.ref (a 3), .int (iI x1), .int (iI x2)] : List Value).toArray below meth c H locs 0 0 (MQ below (va_Qv (fun u => sc σ 0 (spi (σ 0) x1 x2) = u) (gW G (tx cx) (XA a) (wx cx a)) (XA a)) ([.ref (a 3), .int (iI x1), .int (iI x2)] : List Value).toArray s 0 0 (XA a)) (F0 m 5 ls []) := by
    intro N
    induction N with
    | zero => intro i1 w1 hinv hlt; exfalso; omega
    | succ N ih_5 =>
      intro i1 w1 ⟨hi0, hi1, hw⟩ hlt_5 H locs ls hP hD hS hl
      refine lv_iload_n hex hbc dX2_insertMark_5 rfl (lv_at hl 0 rfl) ?_
      refine lv_iload_n hex hbc dX2_insertMark_6 rfl (lv_at hl 2 rfl) ?_
      refine zt_icmp_le (a := i1) (b := x1) (tgt := 30) hex hbc (by omega) dX2_insertMark_7 (by decide) (fun c7 => ?_) (fun c7 => ?_)
      · skip
        refine lv_aload_n hex hbc dX2_insertMark_30 rfl (lv_at hl 1 rfl) ?_
        refine va_get (v := .ref (a 6)) hex hbc hts hin2 hown hK hP 3 rfl rfl 4 (by decide) (hts _ (List.mem_of_getElem? (i := 2) rfl)) (fun _ h => h) rfl dX2_insertMark_31 ?_
        refine lv_iload_n hex hbc dX2_insertMark_34 rfl (lv_at hl 2 rfl) ?_
        refine lv_iload_n hex hbc dX2_insertMark_35 rfl (lv_at hl 3 rfl) ?_
        have hi_36 : (0 : Int) ≤ x1 ∧ x1 < (16 : Int) := (by omega)
        refine g_iast (σ := (sc σ 0 w1)) (f := (fun k => (w1 (75 + k)))) (i := x1) (v := x2) (τ := st (sc σ 0 w1) 0 (75 + x1) x2) hex hbc hK hP hD hS 6 0 rfl rfl (by decide) hi_36 dX2_insertMark_36 (wx_up_6 hi_36) (fun H locs hP hD hS => ?_)
        obtain ⟨f0_36, ef0_36⟩ : ∃ z : Int → Int, z = ups w1 (75 + x1) x2 := ⟨_, rfl⟩
        have hP : va_P G vwCl (wx cx a (sc σ 0 f0_36)) H := by rw [ef0_36]; exact hP
        have hD : va_D (XA a) (wx cx a (sc σ 0 f0_36)) := by rw [ef0_36]; exact hD
        refine lv_aload_n hex hbc dX2_insertMark_37 rfl (lv_at hl 1 rfl) ?_
        refine lv_dup hex hbc dX2_insertMark_38 rfl ?_
        refine va_get (v := .int (iI (f0_36 74))) hex hbc hts hin2 hown hK hP 3 rfl rfl 1 (by decide) (hts _ (List.mem_of_getElem? (i := 1) rfl)) (fun _ h => h) rfl dX2_insertMark_39 ?_
        refine zt_nm (a := (f0_36 74)) (b := (σ 0 74)) (by rw [ef0_36, ups_n _ _ (by omega), hw]; exact if_neg (by omega)) ?_
        refine lv_iconst (v := iI 1) hex hbc dX2_insertMark_42 rfl ?_
        refine zt_iadd hex hbc dX2_insertMark_43 ?_
        refine va_put hex hbc hts hin2 tyX2 tyX2_ok nmX2 hown hK hP hD hS 3 rfl rfl 1 (by decide) (hts _ (List.mem_of_getElem? (i := 1) rfl)) (fun _ h => h) rfl (tyX2_ok 1 (by decide)) rfl rfl (Nat.le_of_ble_eq_true rfl) dX2_insertMark_44 (fun H locs hP hD hS => ?_)
        have hP := leW_P (wx_pf_3_1 (G := G) (cx := cx) (a := a) (σ := (sc σ 0 f0_36))) hP
        have hD := leW_D (wx_pf_3_1 (G := G) (cx := cx) (a := a) (σ := (sc σ 0 f0_36))) hD
        obtain ⟨f0_44, ef0_44⟩ : ∃ z : Int → Int, z = ups f0_36 74 ((σ 0 74) + 1) := ⟨_, rfl⟩
        have hP : va_P G vwCl (wx cx a (sc σ 0 f0_44)) H := by rw [ef0_44]; exact hP
        have hD : va_D (XA a) (wx cx a (sc σ 0 f0_44)) := by rw [ef0_44]; exact hD
        refine lv_aload_n hex hbc dX2_insertMark_47 rfl (lv_at hl 1 rfl) ?_
        refine g_callv [] ⟨hex, hbc, hml, hown, hts⟩ (mX2_resetSequence l G cx a (sc σ 0 f0_44)  ) (cwV 0 hts gX2_insertMark_X2_resetSequence rfl rfl rfl (by decide +kernel) ⟨Nat.le_of_ble_eq_true rfl, Nat.le_of_ble_eq_true rfl⟩) hK hP hD hS (fun _ h => h) 3 2 rfl rfl rfl rfl hl.1 (Nat.le_of_ble_eq_true rfl) dX2_insertMark_48 ⟨Nat.zero_le _, Nat.zero_le _⟩ (fun u_48 H locs hw_48 hP hD hS hz_48 hk_48 => ?_)
        obtain rfl := hw_48
        have hP : va_P G vwCl (wx cx a (sc σ 0 (spo (f0_44)))) H := hP
        have hD : va_D (XA a) (wx cx a (sc σ 0 (spo (f0_44)))) := hD
        exact g_vret hex hbc hrt hlocks hK hP hD hS (congrArg (sc σ 0) (funext fun k => by unfold spo spi; rw [ef0_44]; unfold ups; rw [ef0_36]; unfold ups; rw [hw k]; (repeat' split) <;> first | omega | exact congrArg _ (by omega))) dX2_insertMark_51
      · skip
        refine lv_aload_n hex hbc dX2_insertMark_10 rfl (lv_at hl 1 rfl) ?_
        refine va_get (v := .ref (a 6)) hex hbc hts hin2 hown hK hP 3 rfl rfl 4 (by decide) (hts _ (List.mem_of_getElem? (i := 2) rfl)) (fun _ h => h) rfl dX2_insertMark_11 ?_
        refine lv_iload_n hex hbc dX2_insertMark_14 rfl (lv_at hl 0 rfl) ?_
        refine lv_aload_n hex hbc dX2_insertMark_15 rfl (lv_at hl 1 rfl) ?_
        refine va_get (v := .ref (a 6)) hex hbc hts hin2 hown hK hP 3 rfl rfl 4 (by decide) (hts _ (List.mem_of_getElem? (i := 2) rfl)) (fun _ h => h) rfl dX2_insertMark_16 ?_
        refine lv_iload_n hex hbc dX2_insertMark_19 rfl (lv_at hl 0 rfl) ?_
        refine lv_iconst (v := iI 1) hex hbc dX2_insertMark_20 rfl ?_
        refine zt_isub hex hbc dX2_insertMark_21 ?_
        refine g_iald (f := (fun k => (w1 (75 + k)))) (v := (w1 (75 + (i1 - 1)))) (i := (i1 - 1)) hex hbc hK hP 6 0 rfl rfl (by decide) (by omega) rfl dX2_insertMark_22 ?_
        refine zt_nm (a := (w1 (75 + (i1 - 1)))) (b := (σ 0 (75 + (i1 - 1)))) (by rw [hw]; exact if_neg (by omega)) ?_
        have hi_23 : (0 : Int) ≤ i1 ∧ i1 < (16 : Int) := (by omega)
        refine g_iast (σ := (sc σ 0 w1)) (f := (fun k => (w1 (75 + k)))) (i := i1) (v := (σ 0 (75 + (i1 - 1)))) (τ := st (sc σ 0 w1) 0 (75 + i1) (σ 0 (75 + (i1 - 1)))) hex hbc hK hP hD hS 6 0 rfl rfl (by decide) hi_23 dX2_insertMark_23 (wx_up_6 hi_23) (fun H locs hP hD hS => ?_)
        obtain ⟨f0_23, ef0_23⟩ : ∃ z : Int → Int, z = ups w1 (75 + i1) (σ 0 (75 + (i1 - 1))) := ⟨_, rfl⟩
        have hP : va_P G vwCl (wx cx a (sc σ 0 f0_23)) H := by rw [ef0_23]; exact hP
        have hD : va_D (XA a) (wx cx a (sc σ 0 f0_23)) := by rw [ef0_23]; exact hD
        refine lv_iinc (v := iI (i1 + (-1))) (lv' := [(3, .int (iI (i1 + (-1)))), (0, .ref (a 3)), (1, .int (iI x1)), (2, .int (iI x2))]) hex hbc dX2_insertMark_24 hl (k := 0) rfl (iI_add _ _) (by decide) rfl (fun ls hl => ?_)
        refine lv_goto (tgt := 5) hex hbc dX2_insertMark_27 (by decide) ?_
        exact ih_5 (i1 + (-1)) f0_23 ⟨by omega, by omega, fun k => by rw [ef0_23]; unfold ups; rw [hw k]; (repeat' split) <;> first | omega | exact congrArg _ (by omega)⟩ (by omega) _ _ _ hP hD hS (lv_sub hl [0, 1, 2, 3] rfl)
  exact loop_5 _ (σ 0 74) (σ 0) ⟨by omega, by omega, fun k => by rw [if_neg (by omega)]⟩ (mz_lt _) _ _ _ hP hD hS (lv_sub hl [0, 1, 2, 3] rfl)
theorem iX2_removeMark_X2 : ∀ w ∈ wsX20, w ∈ wsX2_removeMark := fun _ h => List.mem_cons_of_mem _ (List.mem_append_right _ h)
set_option maxHeartbeats 4000000 in
set_option maxRecDepth 100000 in
theorem mX2_removeMark (l : Launch) (G : va_G) (cx a : Nat → Nat) (σ : Nat → Int → Int)  (x : Int) (hx : 1 ≤ x ∧ x < σ 0 74) (h2 : σ 0 74 ≤ 16) : Met l yX2_removeMark wsX2_removeMark ({ frames := 1, cells := 0, slots := 0, locals := 21 }) (va_Pc [.ref (a 3), .int (iI x)] (gW G (tx cx) (XA a) (wx cx a) σ)) (va_Qv (fun u => sc σ 0 (spr (σ 0) x) = u) (gW G (tx cx) (XA a) (wx cx a)) (XA a)) 0 0 (XA a) := by
  refine Met.ofW (cc := cX2_removeMark) (maxL := 3) (ret := none) (by decide) rfl ?_
  intro p e s m args below meth c s₁ B hml hv
  obtain ⟨rfl, hP, hK, hD⟩ := hv
  have hex := B.exec
  have hbc := B.bytes
  have hrt := B.returns
  have hts := atoms_spec (ws := wsX2_removeMark) B.pre
  have hown : s.vm.findClass RX2 = some m.cls := findClass_of_methodNamed B.named
  have hlocks := B.notSynchronized
  have hS : va_S (XA a) s.heap s.heap [] := va_S.rf
  have hin2 := iX2_removeMark_X2
  have hl := lv_entry ([.ref (a 3), .int (iI x)]) (n := 3) (Nat.le_of_ble_eq_true rfl)
  rw [lg_entry_eq]
  generalize (lg_sl ([.ref (a 3), .int (iI x)]) ++ List.replicate (3 - (lg_sl ([.ref (a 3), .int (iI x)])).length) Slot.unset).toArray = ls at hl ⊢
  have hl : lv_has ls 3 [(0, .ref (a 3)), (1, .int (iI x))] := hl
  refine lv_iload_n hex hbc dX2_removeMark_0 rfl (lv_at hl 1 rfl) ?_
  refine lv_istore_n (lv' := [(2, .int (iI x)), (0, .ref (a 3)), (1, .int (iI x))]) hex hbc dX2_removeMark_1 rfl hl (by decide) rfl (fun ls hl => ?_)
  have loop_2 : ∀ (N : Nat) (i1 : Int) (w1 : Int → Int), (x ≤ i1 ∧ i1 ≤ σ 0 74 - 1 ∧ ∀ k, w1 k = if 75 + x ≤ k ∧ k < 75 + i1 then σ 0 (k + 1) else σ 0 k) → (σ 0 74 - i1) < (N : Int) → ∀ (H : Heap) (locs : List Loc) (ls : Array Slot), va_P G vwCl (wx cx a (sc σ 0 w1)) H → va_D (XA a) (wx cx a (sc σ 0 w1)) → va_S (XA a) s.heap H locs → lv_has ls 3 [(2, .int (iI i1)), (0, .ref (a 3))] → W p l e (headSpec wsX2_removeMark ({ frames := 1, cells := 0, slots := 0, locals := 21 })).room s m ([.ref (a 3), .int (iI x)] : List Value).toArray below meth c H locs 0 0 (MQ below (va_Qv (fun u => sc σ 0 (spr (σ 0) x) = u) (gW G (tx cx) (XA a) (wx cx a)) (XA a)) ([.ref (a 3), .int (iI x)] : List Value).toArray s 0 0 (XA a)) (F0 m 2 ls []) := by
    intro N
    induction N with
    | zero => intro i1 w1 hinv hlt; exfalso; omega
    | succ N ih_2 =>
      intro i1 w1 ⟨hi0, hi1, hw⟩ hlt_2 H locs ls hP hD hS hl
      refine lv_iload_n hex hbc dX2_removeMark_2 rfl (lv_at hl 0 rfl) ?_
      refine lv_aload_n hex hbc dX2_removeMark_3 rfl (lv_at hl 1 rfl) ?_
      refine va_get (v := .int (iI (w1 74))) hex hbc hts hin2 hown hK hP 3 rfl rfl 1 (by decide) (hts _ (List.mem_of_getElem? (i := 1) rfl)) (fun _ h => h) rfl dX2_removeMark_4 ?_
      refine zt_nm (a := (w1 74)) (b := (σ 0 74)) (by rw [hw]; exact if_neg (by omega)) ?_
      refine lv_iconst (v := iI 1) hex hbc dX2_removeMark_7 rfl ?_
      refine zt_isub hex hbc dX2_removeMark_8 ?_
      refine zt_icmp_ge (a := i1) (b := ((σ 0 74) - 1)) (tgt := 32) hex hbc (by omega) dX2_removeMark_9 (by decide) (fun c9 => ?_) (fun c9 => ?_)
      · skip
        refine lv_aload_n hex hbc dX2_removeMark_32 rfl (lv_at hl 1 rfl) ?_
        refine lv_dup hex hbc dX2_removeMark_33 rfl ?_
        refine va_get (v := .int (iI (w1 74))) hex hbc hts hin2 hown hK hP 3 rfl rfl 1 (by decide) (hts _ (List.mem_of_getElem? (i := 1) rfl)) (fun _ h => h) rfl dX2_removeMark_34 ?_
        refine zt_nm (a := (w1 74)) (b := (σ 0 74)) (by rw [hw]; exact if_neg (by omega)) ?_
        refine lv_iconst (v := iI 1) hex hbc dX2_removeMark_37 rfl ?_
        refine zt_isub hex hbc dX2_removeMark_38 ?_
        refine va_put hex hbc hts hin2 tyX2 tyX2_ok nmX2 hown hK hP hD hS 3 rfl rfl 1 (by decide) (hts _ (List.mem_of_getElem? (i := 1) rfl)) (fun _ h => h) rfl (tyX2_ok 1 (by decide)) rfl rfl (Nat.le_of_ble_eq_true rfl) dX2_removeMark_39 (fun H locs hP hD hS => ?_)
        have hP := leW_P (wx_pf_3_1 (G := G) (cx := cx) (a := a) (σ := (sc σ 0 w1))) hP
        have hD := leW_D (wx_pf_3_1 (G := G) (cx := cx) (a := a) (σ := (sc σ 0 w1))) hD
        obtain ⟨f0_39, ef0_39⟩ : ∃ z : Int → Int, z = ups w1 74 ((σ 0 74) - 1) := ⟨_, rfl⟩
        have hP : va_P G vwCl (wx cx a (sc σ 0 f0_39)) H := by rw [ef0_39]; exact hP
        have hD : va_D (XA a) (wx cx a (sc σ 0 f0_39)) := by rw [ef0_39]; exact hD
        refine lv_aload_n hex hbc dX2_removeMark_42 rfl (lv_at hl 1 rfl) ?_
        refine g_callv [] ⟨hex, hbc, hml, hown, hts⟩ (mX2_resetSequence l G cx a (sc σ 0 f0_39)  ) (cwV 0 hts gX2_removeMark_X2_resetSequence rfl rfl rfl (by decide +kernel) ⟨Nat.le_of_ble_eq_true rfl, Nat.le_of_ble_eq_true rfl⟩) hK hP hD hS (fun _ h => h) 3 2 rfl rfl rfl rfl hl.1 (Nat.le_of_ble_eq_true rfl) dX2_removeMark_43 ⟨Nat.zero_le _, Nat.zero_le _⟩ (fun u_43 H locs hw_43 hP hD hS hz_43 hk_43 => ?_)
        obtain rfl := hw_43
        have hP : va_P G vwCl (wx cx a (sc σ 0 (spo (f0_39)))) H := hP
        have hD : va_D (XA a) (wx cx a (sc σ 0 (spo (f0_39)))) := hD
        exact g_vret hex hbc hrt hlocks hK hP hD hS (congrArg (sc σ 0) (funext fun k => by unfold spo spr; rw [ef0_39]; unfold ups; rw [hw k]; (repeat' split) <;> first | omega | exact congrArg _ (by omega))) dX2_removeMark_46
      · skip
        refine lv_aload_n hex hbc dX2_removeMark_12 rfl (lv_at hl 1 rfl) ?_
        refine va_get (v := .ref (a 6)) hex hbc hts hin2 hown hK hP 3 rfl rfl 4 (by decide) (hts _ (List.mem_of_getElem? (i := 2) rfl)) (fun _ h => h) rfl dX2_removeMark_13 ?_
        refine lv_iload_n hex hbc dX2_removeMark_16 rfl (lv_at hl 0 rfl) ?_
        refine lv_aload_n hex hbc dX2_removeMark_17 rfl (lv_at hl 1 rfl) ?_
        refine va_get (v := .ref (a 6)) hex hbc hts hin2 hown hK hP 3 rfl rfl 4 (by decide) (hts _ (List.mem_of_getElem? (i := 2) rfl)) (fun _ h => h) rfl dX2_removeMark_18 ?_
        refine lv_iload_n hex hbc dX2_removeMark_21 rfl (lv_at hl 0 rfl) ?_
        refine lv_iconst (v := iI 1) hex hbc dX2_removeMark_22 rfl ?_
        refine zt_iadd hex hbc dX2_removeMark_23 ?_
        refine g_iald (f := (fun k => (w1 (75 + k)))) (v := (w1 (75 + (i1 + 1)))) (i := (i1 + 1)) hex hbc hK hP 6 0 rfl rfl (by decide) (by omega) rfl dX2_removeMark_24 ?_
        refine zt_nm (a := (w1 (75 + (i1 + 1)))) (b := (σ 0 (75 + (i1 + 1)))) (by rw [hw]; exact if_neg (by omega)) ?_
        have hi_25 : (0 : Int) ≤ i1 ∧ i1 < (16 : Int) := (by omega)
        refine g_iast (σ := (sc σ 0 w1)) (f := (fun k => (w1 (75 + k)))) (i := i1) (v := (σ 0 (75 + (i1 + 1)))) (τ := st (sc σ 0 w1) 0 (75 + i1) (σ 0 (75 + (i1 + 1)))) hex hbc hK hP hD hS 6 0 rfl rfl (by decide) hi_25 dX2_removeMark_25 (wx_up_6 hi_25) (fun H locs hP hD hS => ?_)
        obtain ⟨f0_25, ef0_25⟩ : ∃ z : Int → Int, z = ups w1 (75 + i1) (σ 0 (75 + (i1 + 1))) := ⟨_, rfl⟩
        have hP : va_P G vwCl (wx cx a (sc σ 0 f0_25)) H := by rw [ef0_25]; exact hP
        have hD : va_D (XA a) (wx cx a (sc σ 0 f0_25)) := by rw [ef0_25]; exact hD
        refine lv_iinc (v := iI (i1 + 1)) (lv' := [(2, .int (iI (i1 + 1))), (0, .ref (a 3))]) hex hbc dX2_removeMark_26 hl (k := 0) rfl (iI_add _ _) (by decide) rfl (fun ls hl => ?_)
        refine lv_goto (tgt := 2) hex hbc dX2_removeMark_29 (by decide) ?_
        exact ih_2 (i1 + 1) f0_25 ⟨by omega, by omega, fun k => by rw [ef0_25]; unfold ups; rw [hw k]; (repeat' split) <;> first | omega | exact congrArg _ (by omega)⟩ (by omega) _ _ _ hP hD hS (lv_sub hl [0, 1] rfl)
  exact loop_2 _ x (σ 0) ⟨by omega, by omega, fun k => by rw [if_neg (by omega)]⟩ (mz_lt _) _ _ _ hP hD hS (lv_sub hl [0, 1] rfl)
theorem iX2_loudestFrame_X2 : ∀ w ∈ wsX20, w ∈ wsX2_loudestFrame := fun _ h => List.mem_cons_of_mem _ (List.mem_append_right _ h)
set_option maxHeartbeats 4000000 in
set_option maxRecDepth 100000 in
theorem mX2_loudestFrame (l : Launch) (G : va_G) (cx a : Nat → Nat) (σ : Nat → Int → Int)  (x : Int) (hx : 0 ≤ x ∧ x < σ 0 74) (hI : Inv (σ 0)) : Met l yX2_loudestFrame wsX2_loudestFrame ({ frames := 1, cells := 0, slots := 0, locals := 21 }) (va_Pc [.ref (a 3), .int (iI x)] (gW G (tx cx) (XA a) (wx cx a) σ)) (va_Qi (fun r u => σ = u ∧ iI (ldn (σ 0) (fr (σ 0) x) (fr (σ 0) (x + 1) - fr (σ 0) x - 1).toNat) = r) (gW G (tx cx) (XA a) (wx cx a)) (XA a)) 0 0 (XA a) := by
  refine Met.ofW (cc := cX2_loudestFrame) (maxL := 5) (ret := some .int) (by decide) rfl ?_
  intro p e s m args below meth c s₁ B hml hv
  obtain ⟨rfl, hP, hK, hD⟩ := hv
  have hex := B.exec
  have hbc := B.bytes
  have hrt := B.returns
  have hts := atoms_spec (ws := wsX2_loudestFrame) B.pre
  have hown : s.vm.findClass RX2 = some m.cls := findClass_of_methodNamed B.named
  have hlocks := B.notSynchronized
  have hS : va_S (XA a) s.heap s.heap [] := va_S.rf
  have hin2 := iX2_loudestFrame_X2
  have hl := lv_entry ([.ref (a 3), .int (iI x)]) (n := 5) (Nat.le_of_ble_eq_true rfl)
  rw [lg_entry_eq]
  generalize (lg_sl ([.ref (a 3), .int (iI x)]) ++ List.replicate (5 - (lg_sl ([.ref (a 3), .int (iI x)])).length) Slot.unset).toArray = ls at hl ⊢
  have hl : lv_has ls 5 [(0, .ref (a 3)), (1, .int (iI x))] := hl
  obtain ⟨hB, hEn, hMk, hAs, hPm⟩ := id hI
  have hm0 := hMk x hx.1 hx.2
  have hup := hI.fr_up hx.1 hx.2
  have hfi := hI.fr_in (k := x + 1) (by omega)
  have hf0 : fr (σ 0) x = σ 0 (75 + x) := fr_lt hx.2
  refine lv_aload_n hex hbc dX2_loudestFrame_0 rfl (lv_at hl 0 rfl) ?_
  refine va_get (v := .ref (a 6)) hex hbc hts hin2 hown hK hP 3 rfl rfl 4 (by decide) (hts _ (List.mem_of_getElem? (i := 1) rfl)) (fun _ h => h) rfl dX2_loudestFrame_1 ?_
  refine lv_iload_n hex hbc dX2_loudestFrame_4 rfl (lv_at hl 1 rfl) ?_
  refine g_iald (f := (fun k => (σ 0 (75 + k)))) (v := (σ 0 (75 + x))) (i := x) hex hbc hK hP 6 0 rfl rfl (by decide) (by omega) rfl dX2_loudestFrame_5 ?_
  refine lv_istore_n (lv' := [(2, .int (iI (σ 0 (75 + x)))), (0, .ref (a 3)), (1, .int (iI x))]) hex hbc dX2_loudestFrame_6 rfl hl (by decide) rfl (fun ls hl => ?_)
  refine lv_aload_n hex hbc dX2_loudestFrame_7 rfl (lv_at hl 1 rfl) ?_
  refine lv_iload_n hex hbc dX2_loudestFrame_8 rfl (lv_at hl 2 rfl) ?_
  refine g_calli [.int (iI x)] ⟨hex, hbc, hml, hown, hts⟩ (mX2_endFrame l G cx a σ x (by omega) hI) (cwV 1 hts gX2_loudestFrame_X2_endFrame rfl rfl rfl (by decide +kernel) ⟨Nat.le_of_ble_eq_true rfl, Nat.le_of_ble_eq_true rfl⟩) hK hP hD hS (fun _ h => h) 3 2 rfl rfl rfl rfl hl.1 (Nat.le_of_ble_eq_true rfl) dX2_loudestFrame_9 ⟨Nat.zero_le _, Nat.zero_le _⟩ (fun r_9 u_9 H locs hw_9 hP hD hS hz_9 hk_9 => ?_)
  obtain ⟨rfl, rfl⟩ := hw_9
  refine lv_istore_n (lv' := [(3, .int (iI (fr (σ 0) (x + 1)))), (2, .int (iI (σ 0 (75 + x)))), (0, .ref (a 3)), (1, .int (iI x))]) hex hbc dX2_loudestFrame_12 rfl hl (by decide) rfl (fun ls hl => ?_)
  refine lv_iload_n hex hbc dX2_loudestFrame_13 rfl (lv_at hl 1 rfl) ?_
  refine lv_iconst (v := iI 1) hex hbc dX2_loudestFrame_14 rfl ?_
  refine zt_iadd hex hbc dX2_loudestFrame_15 ?_
  refine lv_istore (lv' := [(4, .int (iI ((σ 0 (75 + x)) + 1))), (3, .int (iI (fr (σ 0) (x + 1)))), (2, .int (iI (σ 0 (75 + x)))), (0, .ref (a 3)), (1, .int (iI x))]) hex hbc dX2_loudestFrame_16 hl (by decide) rfl (fun ls hl => ?_)
  have loop_18 : ∀ (N : Nat) (n1 : Nat) (i1 : Int) (b1 : Int), (i1 = fr (σ 0) x + (n1 : Int) + 1 ∧ i1 ≤ fr (σ 0) (x + 1) ∧ b1 = ldn (σ 0) (fr (σ 0) x) n1) → (64 - i1) < (N : Int) → ∀ (H : Heap) (locs : List Loc) (ls : Array Slot), va_P G vwCl (wx cx a σ) H → va_D (XA a) (wx cx a σ) → va_S (XA a) s.heap H locs → lv_has ls 5 [(4, .int (iI i1)), (2, .int (iI b1)), (3, .int (iI (fr (σ 0) (x + 1)))), (0, .ref (a 3))] → W p l e (headSpec wsX2_loudestFrame ({ frames := 1, cells := 0, slots := 0, locals := 21 })).room s m ([.ref (a 3), .int (iI x)] : List Value).toArray below meth c H locs 0 0 (MQ below (va_Qi (fun r u => σ = u ∧ iI (ldn (σ 0) (fr (σ 0) x) (fr (σ 0) (x + 1) - fr (σ 0) x - 1).toNat) = r) (gW G (tx cx) (XA a) (wx cx a)) (XA a)) ([.ref (a 3), .int (iI x)] : List Value).toArray s 0 0 (XA a)) (F0 m 18 ls []) := by
    intro N
    induction N with
    | zero => intro n1 i1 b1 hinv hlt; exfalso; omega
    | succ N ih_18 =>
      intro n1 i1 b1 ⟨hi0, hi1, hb1⟩ hlt_18 H locs ls hP hD hS hl
      have hld := ldn_in (σ 0) (fr (σ 0) x) n1
      rw [← hb1] at hld
      have he1 := hEn b1 (by omega) (by omega)
      refine lv_iload hex hbc dX2_loudestFrame_18 (lv_at hl 0 rfl) ?_
      refine lv_iload_n hex hbc dX2_loudestFrame_20 rfl (lv_at hl 2 rfl) ?_
      refine zt_icmp_ge (a := i1) (b := (fr (σ 0) (x + 1))) (tgt := 49) hex hbc (by omega) dX2_loudestFrame_21 (by decide) (fun c21 => ?_) (fun c21 => ?_)
      · skip
        refine lv_iload_n hex hbc dX2_loudestFrame_49 rfl (lv_at hl 1 rfl) ?_
        exact g_iret hex hbc hrt hlocks hK hP hD hS ⟨rfl, congrArg iI (by rw [hb1, show (fr (σ 0) (x + 1) - fr (σ 0) x - 1).toNat = n1 from by omega])⟩ dX2_loudestFrame_50
      · skip
        have he2 := hEn i1 (by omega) (by omega)
        refine lv_aload_n hex hbc dX2_loudestFrame_24 rfl (lv_at hl 3 rfl) ?_
        refine va_get (v := .ref (a 4)) hex hbc hts hin2 hown hK hP 3 rfl rfl 2 (by decide) (hts _ (List.mem_of_getElem? (i := 2) rfl)) (fun _ h => h) rfl dX2_loudestFrame_25 ?_
        refine lv_iload hex hbc dX2_loudestFrame_28 (lv_at hl 0 rfl) ?_
        refine g_iald (f := (fun k => (σ 0 (10 + k)))) (v := (σ 0 (10 + i1))) (i := i1) hex hbc hK hP 4 0 rfl rfl (by decide) (by omega) rfl dX2_loudestFrame_30 ?_
        refine lv_aload_n hex hbc dX2_loudestFrame_31 rfl (lv_at hl 3 rfl) ?_
        refine va_get (v := .ref (a 4)) hex hbc hts hin2 hown hK hP 3 rfl rfl 2 (by decide) (hts _ (List.mem_of_getElem? (i := 2) rfl)) (fun _ h => h) rfl dX2_loudestFrame_32 ?_
        refine lv_iload_n hex hbc dX2_loudestFrame_35 rfl (lv_at hl 1 rfl) ?_
        refine g_iald (f := (fun k => (σ 0 (10 + k)))) (v := (σ 0 (10 + b1))) (i := b1) hex hbc hK hP 4 0 rfl rfl (by decide) (by omega) rfl dX2_loudestFrame_36 ?_
        refine zt_icmp_le (a := (σ 0 (10 + i1))) (b := (σ 0 (10 + b1))) (tgt := 43) hex hbc (by omega) dX2_loudestFrame_37 (by decide) (fun c37 => ?_) (fun c37 => ?_)
        · skip
          refine lv_iinc (v := iI (i1 + 1)) (lv' := [(4, .int (iI (i1 + 1))), (2, .int (iI b1)), (3, .int (iI (fr (σ 0) (x + 1)))), (0, .ref (a 3))]) hex hbc dX2_loudestFrame_43 hl (k := 0) rfl (iI_add _ _) (by decide) rfl (fun ls hl => ?_)
          refine lv_goto (tgt := 18) hex hbc dX2_loudestFrame_46 (by decide) ?_
          exact ih_18 (n1 + 1) (i1 + 1) b1 ⟨by omega, by omega, by unfold ldn; rw [← hb1, show fr (σ 0) x + (n1 : Int) + 1 = i1 from by omega]; first | rw [if_pos (by omega)] | rw [if_neg (by omega)]⟩ (by omega) _ _ _ hP hD hS (lv_sub hl [0, 1, 2, 3] rfl)
        · skip
          refine lv_iload hex hbc dX2_loudestFrame_40 (lv_at hl 0 rfl) ?_
          refine lv_istore_n (lv' := [(2, .int (iI i1)), (4, .int (iI i1)), (3, .int (iI (fr (σ 0) (x + 1)))), (0, .ref (a 3))]) hex hbc dX2_loudestFrame_42 rfl hl (by decide) rfl (fun ls hl => ?_)
          refine lv_iinc (v := iI (i1 + 1)) (lv' := [(4, .int (iI (i1 + 1))), (2, .int (iI i1)), (3, .int (iI (fr (σ 0) (x + 1)))), (0, .ref (a 3))]) hex hbc dX2_loudestFrame_43 hl (k := 1) rfl (iI_add _ _) (by decide) rfl (fun ls hl => ?_)
          refine lv_goto (tgt := 18) hex hbc dX2_loudestFrame_46 (by decide) ?_
          exact ih_18 (n1 + 1) (i1 + 1) i1 ⟨by omega, by omega, by unfold ldn; rw [← hb1, show fr (σ 0) x + (n1 : Int) + 1 = i1 from by omega]; first | rw [if_pos (by omega)] | rw [if_neg (by omega)]⟩ (by omega) _ _ _ hP hD hS (lv_sub hl [0, 1, 2, 3] rfl)
  exact loop_18 _ 0 (σ 0 (75 + x) + 1) (σ 0 (75 + x)) ⟨by omega, by omega, by rw [← hf0]; rfl⟩ (mz_lt _) _ _ _ hP hD hS (lv_sub hl [0, 2, 1, 3] rfl)
theorem iX2_findRises_6_X2 : ∀ w ∈ wsX20, w ∈ wsX2_findRises := fun _ h => List.mem_cons_of_mem _ (List.mem_append_right _ h)
set_option maxHeartbeats 4000000 in
set_option maxRecDepth 100000 in
theorem mX2_findRises_6 (l : Launch) (G : va_G) (cx a : Nat → Nat) (σ : Nat → Int → Int)  (x : Int) (hx : -2147483648 ≤ x ∧ x < 2147483648) (hI : Inv (σ 0)) : Met l yX2_findRises wsX2_findRises ({ frames := 0, cells := 0, slots := 0, locals := 0 }) (va_Pc [.ref (a 3), .int (iI x), .ref (a 6)] (gW G (tx cx) (XA a) (wx cx a) σ)) (va_Qi (fun r u => sc σ 0 (fun k => if 75 ≤ k ∧ k < 91 then (fbn (σ 0) x (fun k => σ 0 (75 + k)) (σ 0 0 - 1).toNat).2 (k - 75) else σ 0 k) = u ∧ iI (fbn (σ 0) x (fun k => σ 0 (75 + k)) (σ 0 0 - 1).toNat).1 = r) (gW G (tx cx) (XA a) (wx cx a)) (XA a)) 0 0 (XA a) := by
  refine Met.ofW (cc := cX2_findRises) (maxL := 6) (ret := some .int) (by decide) rfl ?_
  intro p e s m args below meth c s₁ B hml hv
  obtain ⟨rfl, hP, hK, hD⟩ := hv
  have hex := B.exec
  have hbc := B.bytes
  have hrt := B.returns
  have hts := atoms_spec (ws := wsX2_findRises) B.pre
  have hown : s.vm.findClass RX2 = some m.cls := findClass_of_methodNamed B.named
  have hlocks := B.notSynchronized
  have hS : va_S (XA a) s.heap s.heap [] := va_S.rf
  have hin2 := iX2_findRises_6_X2
  have hl := lv_entry ([.ref (a 3), .int (iI x), .ref (a 6)]) (n := 6) (Nat.le_of_ble_eq_true rfl)
  rw [lg_entry_eq]
  generalize (lg_sl ([.ref (a 3), .int (iI x), .ref (a 6)]) ++ List.replicate (6 - (lg_sl ([.ref (a 3), .int (iI x), .ref (a 6)])).length) Slot.unset).toArray = ls at hl ⊢
  have hl : lv_has ls 6 [(0, .ref (a 3)), (1, .int (iI x)), (2, .ref (a 6))] := hl
  obtain ⟨hB, hEn, hMk, hAs, hPm⟩ := id hI
  refine lv_aload_n hex hbc dX2_findRises_0 rfl (lv_at hl 2 rfl) ?_
  refine lv_iconst (v := iI 0) hex hbc dX2_findRises_1 rfl ?_
  refine lv_iconst (v := iI 0) hex hbc dX2_findRises_2 rfl ?_
  have hi_3 : (0 : Int) ≤ 0 ∧ 0 < (16 : Int) := (by omega)
  refine g_iast (σ := σ) (f := (fun k => (σ 0 (75 + k)))) (i := 0) (v := 0) (τ := st σ 0 75 0) hex hbc hK hP hD hS 6 0 rfl rfl (by decide) hi_3 dX2_findRises_3 (wx_up_6 hi_3) (fun H locs hP hD hS => ?_)
  obtain ⟨f0_3, ef0_3⟩ : ∃ z : Int → Int, z = ups (σ 0) 75 0 := ⟨_, rfl⟩
  have hP : va_P G vwCl (wx cx a (sc σ 0 f0_3)) H := by rw [ef0_3]; exact hP
  have hD : va_D (XA a) (wx cx a (sc σ 0 f0_3)) := by rw [ef0_3]; exact hD
  refine lv_iconst (v := iI 1) hex hbc dX2_findRises_4 rfl ?_
  refine lv_istore_n (lv' := [(3, .int (iI 1)), (0, .ref (a 3)), (1, .int (iI x)), (2, .ref (a 6))]) hex hbc dX2_findRises_5 rfl hl (by decide) rfl (fun ls hl => ?_)
  refine lv_iconst (v := iI 1) hex hbc dX2_findRises_6 rfl ?_
  refine lv_istore (lv' := [(4, .int (iI 1)), (3, .int (iI 1)), (0, .ref (a 3)), (1, .int (iI x)), (2, .ref (a 6))]) hex hbc dX2_findRises_7 hl (by decide) rfl (fun ls hl => ?_)
  have loop_9 : ∀ (N : Nat) (n1 : Nat) (i1 : Int) (cn : Int) (w1 : Int → Int), (1 ≤ i1 ∧ i1 ≤ σ 0 0 ∧ i1 = (n1 : Int) + 1 ∧ cn = (fbn (σ 0) x (fun k => σ 0 (75 + k)) n1).1 ∧ (∀ k, w1 k = if 75 ≤ k ∧ k < 91 then (fbn (σ 0) x (fun k => σ 0 (75 + k)) n1).2 (k - 75) else σ 0 k)) → (64 - i1) < (N : Int) → ∀ (H : Heap) (locs : List Loc) (ls : Array Slot), va_P G vwCl (wx cx a (sc σ 0 w1)) H → va_D (XA a) (wx cx a (sc σ 0 w1)) → va_S (XA a) s.heap H locs → lv_has ls 6 [(4, .int (iI i1)), (3, .int (iI cn)), (0, .ref (a 3)), (1, .int (iI x)), (2, .ref (a 6))] → W p l e (headSpec wsX2_findRises ({ frames := 0, cells := 0, slots := 0, locals := 0 })).room s m ([.ref (a 3), .int (iI x), .ref (a 6)] : List Value).toArray below meth c H locs 0 0 (MQ below (va_Qi (fun r u => sc σ 0 (fun k => if 75 ≤ k ∧ k < 91 then (fbn (σ 0) x (fun k => σ 0 (75 + k)) (σ 0 0 - 1).toNat).2 (k - 75) else σ 0 k) = u ∧ iI (fbn (σ 0) x (fun k => σ 0 (75 + k)) (σ 0 0 - 1).toNat).1 = r) (gW G (tx cx) (XA a) (wx cx a)) (XA a)) ([.ref (a 3), .int (iI x), .ref (a 6)] : List Value).toArray s 0 0 (XA a)) (F0 m 9 ls []) := by
    intro N
    induction N with
    | zero => intro n1 i1 cn w1 hinv hlt; exfalso; omega
    | succ N ih_9 =>
      intro n1 i1 cn w1 ⟨hi0, hi1, hi2, hc, hw⟩ hlt_9 H locs ls hP hD hS hl
      have hfb := fbn_in (σ 0) x (fun k => σ 0 (75 + k)) n1
      rw [← hc] at hfb
      obtain ⟨hb1, hb2, hb3, hb4, hb5⟩ := hfb
      have e1 : σ 0 (10 + i1) = σ 0 (10 + ((n1 : Int) + 1)) := congrArg _ (by omega)
      have e2 : σ 0 (10 + (i1 - 1)) = σ 0 (10 + (n1 : Int)) := congrArg _ (by omega)
      have e2' : σ 0 (10 + i1 - 1) = σ 0 (10 + (n1 : Int)) := congrArg _ (by omega)
      have e3 : (w1 (75 + (cn - 1))) = (fbn (σ 0) x (fun k => σ 0 (75 + k)) n1).2 ((fbn (σ 0) x (fun k => σ 0 (75 + k)) n1).1 - 1) := by rw [hw, if_pos (by omega), ← hc]; exact congrArg _ (by omega)
      have hb6 := hb5 (cn - 1) (by omega) (by omega)
      rw [hc, ← e3] at hb6
      refine lv_iload hex hbc dX2_findRises_9 (lv_at hl 0 rfl) ?_
      refine lv_aload_n hex hbc dX2_findRises_11 rfl (lv_at hl 2 rfl) ?_
      refine va_get (v := .int (iI (w1 0))) hex hbc hts hin2 hown hK hP 3 rfl rfl 0 (by decide) (hts _ (List.mem_of_getElem? (i := 1) rfl)) (fun _ h => h) rfl dX2_findRises_12 ?_
      refine zt_nm (a := (w1 0)) (b := (σ 0 0)) (by rw [hw]; exact if_neg (by omega)) ?_
      refine zt_icmp_ge (a := i1) (b := (σ 0 0)) (tgt := 80) hex hbc (by omega) dX2_findRises_15 (by decide) (fun c15 => ?_) (fun c15 => ?_)
      · skip
        refine lv_iload_n hex hbc dX2_findRises_80 rfl (lv_at hl 1 rfl) ?_
        exact g_iret hex hbc hrt hlocks hK hP hD hS ⟨congrArg (sc σ 0) (funext fun k => by rw [hw k, (fbn_end (n := n1) (N := (σ 0 0 - 1).toNat) (by omega) (by omega))]), congrArg iI (by rw [(fbn_end (n := n1) (N := (σ 0 0 - 1).toNat) (by omega) (by omega))]; exact hc.symm)⟩ dX2_findRises_81
      · skip
        have hen1 := hEn i1 (by omega) (by omega)
        have hen2 := hEn (i1 - 1) (by omega) (by omega)
        have hen3 : σ 0 (10 + (i1 - 1)) = σ 0 (10 + i1 - 1) := congrArg _ (by omega)
        refine lv_iload_n hex hbc dX2_findRises_18 rfl (lv_at hl 1 rfl) ?_
        refine lv_bipush (v := iI 16) hex hbc dX2_findRises_19 (by decide) ?_
        refine zt_icmp_ge (a := cn) (b := 16) (tgt := 80) hex hbc (by omega) dX2_findRises_21 (by decide) (fun c21 => ?_) (fun c21 => ?_)
        · skip
          refine lv_iload_n hex hbc dX2_findRises_80 rfl (lv_at hl 1 rfl) ?_
          exact g_iret hex hbc hrt hlocks hK hP hD hS ⟨congrArg (sc σ 0) (funext fun k => by rw [hw k, (fbn_end (n := n1) (N := (σ 0 0 - 1).toNat) (by omega) (by omega))]), congrArg iI (by rw [(fbn_end (n := n1) (N := (σ 0 0 - 1).toNat) (by omega) (by omega))]; exact hc.symm)⟩ dX2_findRises_81
        · skip
          refine lv_aload_n hex hbc dX2_findRises_24 rfl (lv_at hl 2 rfl) ?_
          refine va_get (v := .ref (a 4)) hex hbc hts hin2 hown hK hP 3 rfl rfl 2 (by decide) (hts _ (List.mem_of_getElem? (i := 2) rfl)) (fun _ h => h) rfl dX2_findRises_25 ?_
          refine lv_iload hex hbc dX2_findRises_28 (lv_at hl 0 rfl) ?_
          refine g_iald (f := (fun k => (w1 (10 + k)))) (v := (w1 (10 + i1))) (i := i1) hex hbc hK hP 4 0 rfl rfl (by decide) (by omega) rfl dX2_findRises_30 ?_
          refine zt_nm (a := (w1 (10 + i1))) (b := (σ 0 (10 + i1))) (by rw [hw]; exact if_neg (by omega)) ?_
          refine lv_aload_n hex hbc dX2_findRises_31 rfl (lv_at hl 2 rfl) ?_
          refine va_get (v := .ref (a 4)) hex hbc hts hin2 hown hK hP 3 rfl rfl 2 (by decide) (hts _ (List.mem_of_getElem? (i := 2) rfl)) (fun _ h => h) rfl dX2_findRises_32 ?_
          refine lv_iload hex hbc dX2_findRises_35 (lv_at hl 0 rfl) ?_
          refine lv_iconst (v := iI 1) hex hbc dX2_findRises_37 rfl ?_
          refine zt_isub hex hbc dX2_findRises_38 ?_
          refine g_iald (f := (fun k => (w1 (10 + k)))) (v := (w1 (10 + (i1 - 1)))) (i := (i1 - 1)) hex hbc hK hP 4 0 rfl rfl (by decide) (by omega) rfl dX2_findRises_39 ?_
          refine zt_nm (a := (w1 (10 + (i1 - 1)))) (b := (σ 0 (10 + (i1 - 1)))) (by rw [hw]; exact if_neg (by omega)) ?_
          refine zt_isub hex hbc dX2_findRises_40 ?_
          refine lv_istore (lv' := [(5, .int (iI ((σ 0 (10 + i1)) - (σ 0 (10 + (i1 - 1)))))), (4, .int (iI i1)), (3, .int (iI cn)), (0, .ref (a 3)), (1, .int (iI x)), (2, .ref (a 6))]) hex hbc dX2_findRises_41 hl (by decide) rfl (fun ls hl => ?_)
          refine lv_iload hex hbc dX2_findRises_43 (lv_at hl 0 rfl) ?_
          refine lv_iload_n hex hbc dX2_findRises_45 rfl (lv_at hl 4 rfl) ?_
          refine zt_icmp_lt (a := ((σ 0 (10 + i1)) - (σ 0 (10 + (i1 - 1))))) (b := x) (tgt := 74) hex hbc (by omega) dX2_findRises_46 (by decide) (fun c46 => ?_) (fun c46 => ?_)
          · skip
            refine lv_iinc (v := iI (i1 + 1)) (lv' := [(4, .int (iI (i1 + 1))), (5, .int (iI ((σ 0 (10 + i1)) - (σ 0 (10 + (i1 - 1)))))), (3, .int (iI cn)), (0, .ref (a 3)), (1, .int (iI x)), (2, .ref (a 6))]) hex hbc dX2_findRises_74 hl (k := 1) rfl (iI_add _ _) (by decide) rfl (fun ls hl => ?_)
            refine lv_goto (tgt := 9) hex hbc dX2_findRises_77 (by decide) ?_
            exact ih_9 (n1 + 1) (i1 + 1) cn w1 ⟨by omega, by omega, by omega, by rw [fbn_n (by omega)]; exact hc, by rw [fbn_n (by omega)]; exact hw⟩ (by omega) _ _ _ hP hD hS (lv_sub hl [0, 2, 3, 4, 5] rfl)
          · skip
            refine lv_iload hex hbc dX2_findRises_49 (lv_at hl 1 rfl) ?_
            refine lv_aload_n hex hbc dX2_findRises_51 rfl (lv_at hl 5 rfl) ?_
            refine lv_iload_n hex hbc dX2_findRises_52 rfl (lv_at hl 2 rfl) ?_
            refine lv_iconst (v := iI 1) hex hbc dX2_findRises_53 rfl ?_
            refine zt_isub hex hbc dX2_findRises_54 ?_
            refine g_iald (f := (fun k => (w1 (75 + k)))) (v := (w1 (75 + (cn - 1)))) (i := (cn - 1)) hex hbc hK hP 6 0 rfl rfl (by decide) (by omega) rfl dX2_findRises_55 ?_
            refine zt_isub hex hbc dX2_findRises_56 ?_
            refine lv_aload_n hex hbc dX2_findRises_57 rfl (lv_at hl 3 rfl) ?_
            refine va_get (v := .ref (a 5)) hex hbc hts hin2 hown hK hP 3 rfl rfl 3 (by decide) (hts _ (List.mem_of_getElem? (i := 3) rfl)) (fun _ h => h) rfl dX2_findRises_58 ?_
            refine lv_iconst (v := iI 2) hex hbc dX2_findRises_61 rfl ?_
            refine g_iald (f := (fun k => (w1 (1 + k)))) (v := (w1 3)) (i := 2) hex hbc hK hP 5 0 rfl rfl (by decide) (by omega) rfl dX2_findRises_62 ?_
            refine zt_nm (a := (w1 3)) (b := (σ 0 3)) (by rw [hw]; exact if_neg (by omega)) ?_
            refine zt_icmp_lt (a := (i1 - (w1 (75 + (cn - 1))))) (b := (σ 0 3)) (tgt := 74) hex hbc (by omega) dX2_findRises_63 (by decide) (fun c63 => ?_) (fun c63 => ?_)
            · skip
              refine lv_iinc (v := iI (i1 + 1)) (lv' := [(4, .int (iI (i1 + 1))), (5, .int (iI ((σ 0 (10 + i1)) - (σ 0 (10 + (i1 - 1)))))), (3, .int (iI cn)), (0, .ref (a 3)), (1, .int (iI x)), (2, .ref (a 6))]) hex hbc dX2_findRises_74 hl (k := 1) rfl (iI_add _ _) (by decide) rfl (fun ls hl => ?_)
              refine lv_goto (tgt := 9) hex hbc dX2_findRises_77 (by decide) ?_
              exact ih_9 (n1 + 1) (i1 + 1) cn w1 ⟨by omega, by omega, by omega, by rw [fbn_n (by omega)]; exact hc, by rw [fbn_n (by omega)]; exact hw⟩ (by omega) _ _ _ hP hD hS (lv_sub hl [0, 2, 3, 4, 5] rfl)
            · skip
              refine lv_aload_n hex hbc dX2_findRises_66 rfl (lv_at hl 5 rfl) ?_
              refine lv_iload_n hex hbc dX2_findRises_67 rfl (lv_at hl 2 rfl) ?_
              refine lv_iload hex hbc dX2_findRises_68 (lv_at hl 1 rfl) ?_
              have hi_70 : (0 : Int) ≤ cn ∧ cn < (16 : Int) := (by omega)
              refine g_iast (σ := (sc σ 0 w1)) (f := (fun k => (w1 (75 + k)))) (i := cn) (v := i1) (τ := st (sc σ 0 w1) 0 (75 + cn) i1) hex hbc hK hP hD hS 6 0 rfl rfl (by decide) hi_70 dX2_findRises_70 (wx_up_6 hi_70) (fun H locs hP hD hS => ?_)
              obtain ⟨f0_70, ef0_70⟩ : ∃ z : Int → Int, z = ups w1 (75 + cn) i1 := ⟨_, rfl⟩
              have hP : va_P G vwCl (wx cx a (sc σ 0 f0_70)) H := by rw [ef0_70]; exact hP
              have hD : va_D (XA a) (wx cx a (sc σ 0 f0_70)) := by rw [ef0_70]; exact hD
              refine lv_iinc (v := iI (cn + 1)) (lv' := [(3, .int (iI (cn + 1))), (5, .int (iI ((σ 0 (10 + i1)) - (σ 0 (10 + (i1 - 1)))))), (4, .int (iI i1)), (0, .ref (a 3)), (1, .int (iI x)), (2, .ref (a 6))]) hex hbc dX2_findRises_71 hl (k := 2) rfl (iI_add _ _) (by decide) rfl (fun ls hl => ?_)
              refine lv_iinc (v := iI (i1 + 1)) (lv' := [(4, .int (iI (i1 + 1))), (3, .int (iI (cn + 1))), (5, .int (iI ((σ 0 (10 + i1)) - (σ 0 (10 + (i1 - 1)))))), (0, .ref (a 3)), (1, .int (iI x)), (2, .ref (a 6))]) hex hbc dX2_findRises_74 hl (k := 2) rfl (iI_add _ _) (by decide) rfl (fun ls hl => ?_)
              refine lv_goto (tgt := 9) hex hbc dX2_findRises_77 (by decide) ?_
              exact ih_9 (n1 + 1) (i1 + 1) (cn + 1) f0_70 ⟨by omega, by omega, by omega, by rw [fbn_y (by omega)]; show _ = _ + 1; rw [hc], fun k => by rw [fbn_y (by omega), ef0_70]; dsimp only; unfold ups; rw [← hc, hw k]; (repeat' split) <;> first | omega | exact congrArg _ (by omega)⟩ (by omega) _ _ _ hP hD hS (lv_sub hl [0, 1, 3, 4, 5] rfl)
  exact loop_9 _ 0 1 1 f0_3 ⟨by omega, by omega, by omega, rfl, fun k => by rw [ef0_3, fbn_0]; dsimp only; unfold ups; (repeat' split) <;> first | omega | exact congrArg _ (by omega)⟩ (mz_lt _) _ _ _ hP hD hS (lv_sub hl [0, 1, 2, 3, 4] rfl)
theorem iX2_findRises_2_X2 : ∀ w ∈ wsX20, w ∈ wsX2_findRises := fun _ h => List.mem_cons_of_mem _ (List.mem_append_right _ h)
set_option maxHeartbeats 4000000 in
set_option maxRecDepth 100000 in
theorem mX2_findRises_2 (l : Launch) (G : va_G) (cx a : Nat → Nat) (σ : Nat → Int → Int)  (x : Int) (hx : -2147483648 ≤ x ∧ x < 2147483648) (hI : Inv (σ 0)) : Met l yX2_findRises wsX2_findRises ({ frames := 0, cells := 0, slots := 0, locals := 0 }) (va_Pc [.ref (a 3), .int (iI x), .ref (a 2)] (gW G (tx cx) (XA a) (wx cx a) σ)) (va_Qi (fun r u => sc σ 13 (fbn (σ 0) x (σ 13) (σ 0 0 - 1).toNat).2 = u ∧ iI (fbn (σ 0) x (σ 13) (σ 0 0 - 1).toNat).1 = r) (gW G (tx cx) (XA a) (wx cx a)) (XA a)) 0 0 (XA a) := by
  refine Met.ofW (cc := cX2_findRises) (maxL := 6) (ret := some .int) (by decide) rfl ?_
  intro p e s m args below meth c s₁ B hml hv
  obtain ⟨rfl, hP, hK, hD⟩ := hv
  have hex := B.exec
  have hbc := B.bytes
  have hrt := B.returns
  have hts := atoms_spec (ws := wsX2_findRises) B.pre
  have hown : s.vm.findClass RX2 = some m.cls := findClass_of_methodNamed B.named
  have hlocks := B.notSynchronized
  have hS : va_S (XA a) s.heap s.heap [] := va_S.rf
  have hin2 := iX2_findRises_2_X2
  have hl := lv_entry ([.ref (a 3), .int (iI x), .ref (a 2)]) (n := 6) (Nat.le_of_ble_eq_true rfl)
  rw [lg_entry_eq]
  generalize (lg_sl ([.ref (a 3), .int (iI x), .ref (a 2)]) ++ List.replicate (6 - (lg_sl ([.ref (a 3), .int (iI x), .ref (a 2)])).length) Slot.unset).toArray = ls at hl ⊢
  have hl : lv_has ls 6 [(0, .ref (a 3)), (1, .int (iI x)), (2, .ref (a 2))] := hl
  obtain ⟨hB, hEn, hMk, hAs, hPm⟩ := id hI
  refine lv_aload_n hex hbc dX2_findRises_0 rfl (lv_at hl 2 rfl) ?_
  refine lv_iconst (v := iI 0) hex hbc dX2_findRises_1 rfl ?_
  refine lv_iconst (v := iI 0) hex hbc dX2_findRises_2 rfl ?_
  have hi_3 : (0 : Int) ≤ 0 ∧ 0 < (16 : Int) := (by omega)
  refine g_iast (σ := σ) (f := (σ 13)) (i := 0) (v := 0) (τ := st σ 13 0 0) hex hbc hK hP hD hS 2 0 rfl rfl (by decide) hi_3 dX2_findRises_3 (wx_up_2 hi_3) (fun H locs hP hD hS => ?_)
  obtain ⟨f13_3, ef13_3⟩ : ∃ z : Int → Int, z = ups (σ 13) 0 0 := ⟨_, rfl⟩
  have hP : va_P G vwCl (wx cx a (sc σ 13 f13_3)) H := by rw [ef13_3]; exact hP
  have hD : va_D (XA a) (wx cx a (sc σ 13 f13_3)) := by rw [ef13_3]; exact hD
  refine lv_iconst (v := iI 1) hex hbc dX2_findRises_4 rfl ?_
  refine lv_istore_n (lv' := [(3, .int (iI 1)), (0, .ref (a 3)), (1, .int (iI x)), (2, .ref (a 2))]) hex hbc dX2_findRises_5 rfl hl (by decide) rfl (fun ls hl => ?_)
  refine lv_iconst (v := iI 1) hex hbc dX2_findRises_6 rfl ?_
  refine lv_istore (lv' := [(4, .int (iI 1)), (3, .int (iI 1)), (0, .ref (a 3)), (1, .int (iI x)), (2, .ref (a 2))]) hex hbc dX2_findRises_7 hl (by decide) rfl (fun ls hl => ?_)
  have loop_9 : ∀ (N : Nat) (n1 : Nat) (i1 : Int) (cn : Int) (w1 : Int → Int), (1 ≤ i1 ∧ i1 ≤ σ 0 0 ∧ i1 = (n1 : Int) + 1 ∧ cn = (fbn (σ 0) x (σ 13) n1).1 ∧ w1 = (fbn (σ 0) x (σ 13) n1).2) → (64 - i1) < (N : Int) → ∀ (H : Heap) (locs : List Loc) (ls : Array Slot), va_P G vwCl (wx cx a (sc σ 13 w1)) H → va_D (XA a) (wx cx a (sc σ 13 w1)) → va_S (XA a) s.heap H locs → lv_has ls 6 [(4, .int (iI i1)), (3, .int (iI cn)), (0, .ref (a 3)), (1, .int (iI x)), (2, .ref (a 2))] → W p l e (headSpec wsX2_findRises ({ frames := 0, cells := 0, slots := 0, locals := 0 })).room s m ([.ref (a 3), .int (iI x), .ref (a 2)] : List Value).toArray below meth c H locs 0 0 (MQ below (va_Qi (fun r u => sc σ 13 (fbn (σ 0) x (σ 13) (σ 0 0 - 1).toNat).2 = u ∧ iI (fbn (σ 0) x (σ 13) (σ 0 0 - 1).toNat).1 = r) (gW G (tx cx) (XA a) (wx cx a)) (XA a)) ([.ref (a 3), .int (iI x), .ref (a 2)] : List Value).toArray s 0 0 (XA a)) (F0 m 9 ls []) := by
    intro N
    induction N with
    | zero => intro n1 i1 cn w1 hinv hlt; exfalso; omega
    | succ N ih_9 =>
      intro n1 i1 cn w1 ⟨hi0, hi1, hi2, hc, hw⟩ hlt_9 H locs ls hP hD hS hl
      have hfb := fbn_in (σ 0) x (σ 13) n1
      rw [← hc] at hfb
      obtain ⟨hb1, hb2, hb3, hb4, hb5⟩ := hfb
      have e1 : σ 0 (10 + i1) = σ 0 (10 + ((n1 : Int) + 1)) := congrArg _ (by omega)
      have e2 : σ 0 (10 + (i1 - 1)) = σ 0 (10 + (n1 : Int)) := congrArg _ (by omega)
      have e2' : σ 0 (10 + i1 - 1) = σ 0 (10 + (n1 : Int)) := congrArg _ (by omega)
      have e3 : (w1 (cn - 1)) = (fbn (σ 0) x (σ 13) n1).2 ((fbn (σ 0) x (σ 13) n1).1 - 1) := by rw [hw, hc]
      have hb6 := hb5 (cn - 1) (by omega) (by omega)
      rw [hc, ← e3] at hb6
      refine lv_iload hex hbc dX2_findRises_9 (lv_at hl 0 rfl) ?_
      refine lv_aload_n hex hbc dX2_findRises_11 rfl (lv_at hl 2 rfl) ?_
      refine va_get (v := .int (iI (σ 0 0))) hex hbc hts hin2 hown hK hP 3 rfl rfl 0 (by decide) (hts _ (List.mem_of_getElem? (i := 1) rfl)) (fun _ h => h) rfl dX2_findRises_12 ?_
      refine zt_icmp_ge (a := i1) (b := (σ 0 0)) (tgt := 80) hex hbc (by omega) dX2_findRises_15 (by decide) (fun c15 => ?_) (fun c15 => ?_)
      · skip
        refine lv_iload_n hex hbc dX2_findRises_80 rfl (lv_at hl 1 rfl) ?_
        exact g_iret hex hbc hrt hlocks hK hP hD hS ⟨congrArg (sc σ 13) (by rw [(fbn_end (n := n1) (N := (σ 0 0 - 1).toNat) (by omega) (by omega))]; exact hw.symm), congrArg iI (by rw [(fbn_end (n := n1) (N := (σ 0 0 - 1).toNat) (by omega) (by omega))]; exact hc.symm)⟩ dX2_findRises_81
      · skip
        have hen1 := hEn i1 (by omega) (by omega)
        have hen2 := hEn (i1 - 1) (by omega) (by omega)
        have hen3 : σ 0 (10 + (i1 - 1)) = σ 0 (10 + i1 - 1) := congrArg _ (by omega)
        refine lv_iload_n hex hbc dX2_findRises_18 rfl (lv_at hl 1 rfl) ?_
        refine lv_bipush (v := iI 16) hex hbc dX2_findRises_19 (by decide) ?_
        refine zt_icmp_ge (a := cn) (b := 16) (tgt := 80) hex hbc (by omega) dX2_findRises_21 (by decide) (fun c21 => ?_) (fun c21 => ?_)
        · skip
          refine lv_iload_n hex hbc dX2_findRises_80 rfl (lv_at hl 1 rfl) ?_
          exact g_iret hex hbc hrt hlocks hK hP hD hS ⟨congrArg (sc σ 13) (by rw [(fbn_end (n := n1) (N := (σ 0 0 - 1).toNat) (by omega) (by omega))]; exact hw.symm), congrArg iI (by rw [(fbn_end (n := n1) (N := (σ 0 0 - 1).toNat) (by omega) (by omega))]; exact hc.symm)⟩ dX2_findRises_81
        · skip
          refine lv_aload_n hex hbc dX2_findRises_24 rfl (lv_at hl 2 rfl) ?_
          refine va_get (v := .ref (a 4)) hex hbc hts hin2 hown hK hP 3 rfl rfl 2 (by decide) (hts _ (List.mem_of_getElem? (i := 2) rfl)) (fun _ h => h) rfl dX2_findRises_25 ?_
          refine lv_iload hex hbc dX2_findRises_28 (lv_at hl 0 rfl) ?_
          refine g_iald (f := (fun k => (σ 0 (10 + k)))) (v := (σ 0 (10 + i1))) (i := i1) hex hbc hK hP 4 0 rfl rfl (by decide) (by omega) rfl dX2_findRises_30 ?_
          refine lv_aload_n hex hbc dX2_findRises_31 rfl (lv_at hl 2 rfl) ?_
          refine va_get (v := .ref (a 4)) hex hbc hts hin2 hown hK hP 3 rfl rfl 2 (by decide) (hts _ (List.mem_of_getElem? (i := 2) rfl)) (fun _ h => h) rfl dX2_findRises_32 ?_
          refine lv_iload hex hbc dX2_findRises_35 (lv_at hl 0 rfl) ?_
          refine lv_iconst (v := iI 1) hex hbc dX2_findRises_37 rfl ?_
          refine zt_isub hex hbc dX2_findRises_38 ?_
          refine g_iald (f := (fun k => (σ 0 (10 + k)))) (v := (σ 0 (10 + (i1 - 1)))) (i := (i1 - 1)) hex hbc hK hP 4 0 rfl rfl (by decide) (by omega) rfl dX2_findRises_39 ?_
          refine zt_isub hex hbc dX2_findRises_40 ?_
          refine lv_istore (lv' := [(5, .int (iI ((σ 0 (10 + i1)) - (σ 0 (10 + (i1 - 1)))))), (4, .int (iI i1)), (3, .int (iI cn)), (0, .ref (a 3)), (1, .int (iI x)), (2, .ref (a 2))]) hex hbc dX2_findRises_41 hl (by decide) rfl (fun ls hl => ?_)
          refine lv_iload hex hbc dX2_findRises_43 (lv_at hl 0 rfl) ?_
          refine lv_iload_n hex hbc dX2_findRises_45 rfl (lv_at hl 4 rfl) ?_
          refine zt_icmp_lt (a := ((σ 0 (10 + i1)) - (σ 0 (10 + (i1 - 1))))) (b := x) (tgt := 74) hex hbc (by omega) dX2_findRises_46 (by decide) (fun c46 => ?_) (fun c46 => ?_)
          · skip
            refine lv_iinc (v := iI (i1 + 1)) (lv' := [(4, .int (iI (i1 + 1))), (5, .int (iI ((σ 0 (10 + i1)) - (σ 0 (10 + (i1 - 1)))))), (3, .int (iI cn)), (0, .ref (a 3)), (1, .int (iI x)), (2, .ref (a 2))]) hex hbc dX2_findRises_74 hl (k := 1) rfl (iI_add _ _) (by decide) rfl (fun ls hl => ?_)
            refine lv_goto (tgt := 9) hex hbc dX2_findRises_77 (by decide) ?_
            exact ih_9 (n1 + 1) (i1 + 1) cn w1 ⟨by omega, by omega, by omega, by rw [fbn_n (by omega)]; exact hc, by rw [fbn_n (by omega)]; exact hw⟩ (by omega) _ _ _ hP hD hS (lv_sub hl [0, 2, 3, 4, 5] rfl)
          · skip
            refine lv_iload hex hbc dX2_findRises_49 (lv_at hl 1 rfl) ?_
            refine lv_aload_n hex hbc dX2_findRises_51 rfl (lv_at hl 5 rfl) ?_
            refine lv_iload_n hex hbc dX2_findRises_52 rfl (lv_at hl 2 rfl) ?_
            refine lv_iconst (v := iI 1) hex hbc dX2_findRises_53 rfl ?_
            refine zt_isub hex hbc dX2_findRises_54 ?_
            refine g_iald (f := w1) (v := (w1 (cn - 1))) (i := (cn - 1)) hex hbc hK hP 2 0 rfl rfl (by decide) (by omega) rfl dX2_findRises_55 ?_
            refine zt_isub hex hbc dX2_findRises_56 ?_
            refine lv_aload_n hex hbc dX2_findRises_57 rfl (lv_at hl 3 rfl) ?_
            refine va_get (v := .ref (a 5)) hex hbc hts hin2 hown hK hP 3 rfl rfl 3 (by decide) (hts _ (List.mem_of_getElem? (i := 3) rfl)) (fun _ h => h) rfl dX2_findRises_58 ?_
            refine lv_iconst (v := iI 2) hex hbc dX2_findRises_61 rfl ?_
            refine g_iald (f := (fun k => (σ 0 (1 + k)))) (v := (σ 0 3)) (i := 2) hex hbc hK hP 5 0 rfl rfl (by decide) (by omega) rfl dX2_findRises_62 ?_
            refine zt_icmp_lt (a := (i1 - (w1 (cn - 1)))) (b := (σ 0 3)) (tgt := 74) hex hbc (by omega) dX2_findRises_63 (by decide) (fun c63 => ?_) (fun c63 => ?_)
            · skip
              refine lv_iinc (v := iI (i1 + 1)) (lv' := [(4, .int (iI (i1 + 1))), (5, .int (iI ((σ 0 (10 + i1)) - (σ 0 (10 + (i1 - 1)))))), (3, .int (iI cn)), (0, .ref (a 3)), (1, .int (iI x)), (2, .ref (a 2))]) hex hbc dX2_findRises_74 hl (k := 1) rfl (iI_add _ _) (by decide) rfl (fun ls hl => ?_)
              refine lv_goto (tgt := 9) hex hbc dX2_findRises_77 (by decide) ?_
              exact ih_9 (n1 + 1) (i1 + 1) cn w1 ⟨by omega, by omega, by omega, by rw [fbn_n (by omega)]; exact hc, by rw [fbn_n (by omega)]; exact hw⟩ (by omega) _ _ _ hP hD hS (lv_sub hl [0, 2, 3, 4, 5] rfl)
            · skip
              refine lv_aload_n hex hbc dX2_findRises_66 rfl (lv_at hl 5 rfl) ?_
              refine lv_iload_n hex hbc dX2_findRises_67 rfl (lv_at hl 2 rfl) ?_
              refine lv_iload hex hbc dX2_findRises_68 (lv_at hl 1 rfl) ?_
              have hi_70 : (0 : Int) ≤ cn ∧ cn < (16 : Int) := (by omega)
              refine g_iast (σ := (sc σ 13 w1)) (f := w1) (i := cn) (v := i1) (τ := st (sc σ 13 w1) 13 cn i1) hex hbc hK hP hD hS 2 0 rfl rfl (by decide) hi_70 dX2_findRises_70 (wx_up_2 hi_70) (fun H locs hP hD hS => ?_)
              obtain ⟨f13_70, ef13_70⟩ : ∃ z : Int → Int, z = ups w1 cn i1 := ⟨_, rfl⟩
              have hP : va_P G vwCl (wx cx a (sc σ 13 f13_70)) H := by rw [ef13_70]; exact hP
              have hD : va_D (XA a) (wx cx a (sc σ 13 f13_70)) := by rw [ef13_70]; exact hD
              refine lv_iinc (v := iI (cn + 1)) (lv' := [(3, .int (iI (cn + 1))), (5, .int (iI ((σ 0 (10 + i1)) - (σ 0 (10 + (i1 - 1)))))), (4, .int (iI i1)), (0, .ref (a 3)), (1, .int (iI x)), (2, .ref (a 2))]) hex hbc dX2_findRises_71 hl (k := 2) rfl (iI_add _ _) (by decide) rfl (fun ls hl => ?_)
              refine lv_iinc (v := iI (i1 + 1)) (lv' := [(4, .int (iI (i1 + 1))), (3, .int (iI (cn + 1))), (5, .int (iI ((σ 0 (10 + i1)) - (σ 0 (10 + (i1 - 1)))))), (0, .ref (a 3)), (1, .int (iI x)), (2, .ref (a 2))]) hex hbc dX2_findRises_74 hl (k := 2) rfl (iI_add _ _) (by decide) rfl (fun ls hl => ?_)
              refine lv_goto (tgt := 9) hex hbc dX2_findRises_77 (by decide) ?_
              exact ih_9 (n1 + 1) (i1 + 1) (cn + 1) f13_70 ⟨by omega, by omega, by omega, by rw [fbn_y (by omega)]; show _ = _ + 1; rw [hc], by rw [fbn_y (by omega), ef13_70]; show ups _ _ _ = ups _ _ _; rw [← hw, ← hc]; exact congrArg (ups w1 cn) (by omega)⟩ (by omega) _ _ _ hP hD hS (lv_sub hl [0, 1, 3, 4, 5] rfl)
  exact loop_9 _ 0 1 1 f13_3 ⟨by omega, by omega, by omega, rfl, ef13_3⟩ (mz_lt _) _ _ _ hP hD hS (lv_sub hl [0, 1, 2, 3, 4] rfl)
theorem iX5_findBy_X5 : ∀ w ∈ wsX50, w ∈ wsX5_findBy := fun _ h => List.mem_cons_of_mem _ (List.mem_append_right _ h)
set_option maxHeartbeats 4000000 in
set_option maxRecDepth 100000 in
theorem mX5_findBy (l : Launch) (G : va_G) (cx a : Nat → Nat) (σ : Nat → Int → Int)  (x : Int) (hx : -2147483648 ≤ x ∧ x < 2147483648) (hI : Inv (σ 0)) : Met l yX5_findBy wsX5_findBy ({ frames := 0, cells := 0, slots := 0, locals := 0 }) (va_Pc [.ref (a 0), .int (iI x)] (gW G (tm cx) (MA a) (wm cx a) σ)) (va_Qi (fun r u => sc σ 4 (fbn (σ 0) x (σ 4) (σ 0 0 - 1).toNat).2 = u ∧ iI (fbn (σ 0) x (σ 4) (σ 0 0 - 1).toNat).1 = r) (gW G (tm cx) (MA a) (wm cx a)) (MA a)) 0 0 (MA a) := by
  refine Met.ofW (cc := cX5_findBy) (maxL := 4) (ret := some .int) (by decide) rfl ?_
  intro p e s m args below meth c s₁ B hml hv
  obtain ⟨rfl, hP, hK, hD⟩ := hv
  have hex := B.exec
  have hbc := B.bytes
  have hrt := B.returns
  have hts := atoms_spec (ws := wsX5_findBy) B.pre
  have hown : s.vm.findClass RX5 = some m.cls := findClass_of_methodNamed B.named
  have hlocks := B.notSynchronized
  have hS : va_S (MA a) s.heap s.heap [] := va_S.rf
  have hin5 := iX5_findBy_X5
  have hl := lv_entry ([.ref (a 0), .int (iI x)]) (n := 4) (Nat.le_of_ble_eq_true rfl)
  rw [lg_entry_eq]
  generalize (lg_sl ([.ref (a 0), .int (iI x)]) ++ List.replicate (4 - (lg_sl ([.ref (a 0), .int (iI x)])).length) Slot.unset).toArray = ls at hl ⊢
  have hl : lv_has ls 4 [(0, .ref (a 0)), (1, .int (iI x))] := hl
  obtain ⟨hB, hEn, hMk, hAs, hPm⟩ := id hI
  refine lv_iconst (v := iI 1) hex hbc dX5_findBy_0 rfl ?_
  refine lv_istore_n (lv' := [(2, .int (iI 1)), (0, .ref (a 0)), (1, .int (iI x))]) hex hbc dX5_findBy_1 rfl hl (by decide) rfl (fun ls hl => ?_)
  refine lv_aload_n hex hbc dX5_findBy_2 rfl (lv_at hl 1 rfl) ?_
  refine va_get (v := .ref (a 4)) hex hbc hts hin5 hown hK hP 0 rfl rfl 5 (by decide) (hts _ (List.mem_of_getElem? (i := 1) rfl)) (fun _ h => h) rfl dX5_findBy_3 ?_
  refine lv_iconst (v := iI 0) hex hbc dX5_findBy_6 rfl ?_
  refine lv_iconst (v := iI 0) hex hbc dX5_findBy_7 rfl ?_
  have hi_8 : (0 : Int) ≤ 0 ∧ 0 < (16 : Int) := (by omega)
  refine g_iast (σ := σ) (f := (σ 4)) (i := 0) (v := 0) (τ := st σ 4 0 0) hex hbc hK hP hD hS 4 0 rfl rfl (by decide) hi_8 dX5_findBy_8 (wm_up_4 hi_8) (fun H locs hP hD hS => ?_)
  obtain ⟨f4_8, ef4_8⟩ : ∃ z : Int → Int, z = ups (σ 4) 0 0 := ⟨_, rfl⟩
  have hP : va_P G vwCl (wm cx a (sc σ 4 f4_8)) H := by rw [ef4_8]; exact hP
  have hD : va_D (MA a) (wm cx a (sc σ 4 f4_8)) := by rw [ef4_8]; exact hD
  refine lv_iconst (v := iI 1) hex hbc dX5_findBy_9 rfl ?_
  refine lv_istore_n (lv' := [(3, .int (iI 1)), (2, .int (iI 1)), (0, .ref (a 0)), (1, .int (iI x))]) hex hbc dX5_findBy_10 rfl hl (by decide) rfl (fun ls hl => ?_)
  have loop_11 : ∀ (N : Nat) (n1 : Nat) (i1 : Int) (cn : Int) (w1 : Int → Int), (1 ≤ i1 ∧ i1 ≤ σ 0 0 ∧ i1 = (n1 : Int) + 1 ∧ cn = (fbn (σ 0) x (σ 4) n1).1 ∧ w1 = (fbn (σ 0) x (σ 4) n1).2) → (64 - i1) < (N : Int) → ∀ (H : Heap) (locs : List Loc) (ls : Array Slot), va_P G vwCl (wm cx a (sc σ 4 w1)) H → va_D (MA a) (wm cx a (sc σ 4 w1)) → va_S (MA a) s.heap H locs → lv_has ls 4 [(3, .int (iI i1)), (2, .int (iI cn)), (0, .ref (a 0)), (1, .int (iI x))] → W p l e (headSpec wsX5_findBy ({ frames := 0, cells := 0, slots := 0, locals := 0 })).room s m ([.ref (a 0), .int (iI x)] : List Value).toArray below meth c H locs 0 0 (MQ below (va_Qi (fun r u => sc σ 4 (fbn (σ 0) x (σ 4) (σ 0 0 - 1).toNat).2 = u ∧ iI (fbn (σ 0) x (σ 4) (σ 0 0 - 1).toNat).1 = r) (gW G (tm cx) (MA a) (wm cx a)) (MA a)) ([.ref (a 0), .int (iI x)] : List Value).toArray s 0 0 (MA a)) (F0 m 11 ls []) := by
    intro N
    induction N with
    | zero => intro n1 i1 cn w1 hinv hlt; exfalso; omega
    | succ N ih_11 =>
      intro n1 i1 cn w1 ⟨hi0, hi1, hi2, hc, hw⟩ hlt_11 H locs ls hP hD hS hl
      have hfb := fbn_in (σ 0) x (σ 4) n1
      rw [← hc] at hfb
      obtain ⟨hb1, hb2, hb3, hb4, hb5⟩ := hfb
      have e1 : σ 0 (10 + i1) = σ 0 (10 + ((n1 : Int) + 1)) := congrArg _ (by omega)
      have e2 : σ 0 (10 + (i1 - 1)) = σ 0 (10 + (n1 : Int)) := congrArg _ (by omega)
      have e2' : σ 0 (10 + i1 - 1) = σ 0 (10 + (n1 : Int)) := congrArg _ (by omega)
      have e3 : (w1 (cn - 1)) = (fbn (σ 0) x (σ 4) n1).2 ((fbn (σ 0) x (σ 4) n1).1 - 1) := by rw [hw, hc]
      have hb6 := hb5 (cn - 1) (by omega) (by omega)
      rw [hc, ← e3] at hb6
      refine lv_iload_n hex hbc dX5_findBy_11 rfl (lv_at hl 0 rfl) ?_
      refine lv_aload_n hex hbc dX5_findBy_12 rfl (lv_at hl 2 rfl) ?_
      refine va_get (v := .ref (a 1)) hex hbc hts hin5 hown hK hP 0 rfl rfl 0 (by decide) (hts _ (List.mem_of_getElem? (i := 2) rfl)) (fun _ h => h) rfl dX5_findBy_13 ?_
      refine lv_iconst (v := iI 0) hex hbc dX5_findBy_16 rfl ?_
      refine g_iald (f := (σ 0)) (v := (σ 0 0)) (i := 0) hex hbc hK hP 1 0 rfl rfl (by decide) (by omega) rfl dX5_findBy_17 ?_
      refine zt_icmp_ge (a := i1) (b := (σ 0 0)) (tgt := 87) hex hbc (by omega) dX5_findBy_18 (by decide) (fun c18 => ?_) (fun c18 => ?_)
      · skip
        refine lv_iload_n hex hbc dX5_findBy_87 rfl (lv_at hl 1 rfl) ?_
        exact g_iret hex hbc hrt hlocks hK hP hD hS ⟨congrArg (sc σ 4) (by rw [(fbn_end (n := n1) (N := (σ 0 0 - 1).toNat) (by omega) (by omega))]; exact hw.symm), congrArg iI (by rw [(fbn_end (n := n1) (N := (σ 0 0 - 1).toNat) (by omega) (by omega))]; exact hc.symm)⟩ dX5_findBy_88
      · skip
        have hen1 := hEn i1 (by omega) (by omega)
        have hen2 := hEn (i1 - 1) (by omega) (by omega)
        have hen3 : σ 0 (10 + (i1 - 1)) = σ 0 (10 + i1 - 1) := congrArg _ (by omega)
        refine lv_iload_n hex hbc dX5_findBy_21 rfl (lv_at hl 1 rfl) ?_
        refine lv_bipush (v := iI 16) hex hbc dX5_findBy_22 (by decide) ?_
        refine zt_icmp_ge (a := cn) (b := 16) (tgt := 87) hex hbc (by omega) dX5_findBy_24 (by decide) (fun c24 => ?_) (fun c24 => ?_)
        · skip
          refine lv_iload_n hex hbc dX5_findBy_87 rfl (lv_at hl 1 rfl) ?_
          exact g_iret hex hbc hrt hlocks hK hP hD hS ⟨congrArg (sc σ 4) (by rw [(fbn_end (n := n1) (N := (σ 0 0 - 1).toNat) (by omega) (by omega))]; exact hw.symm), congrArg iI (by rw [(fbn_end (n := n1) (N := (σ 0 0 - 1).toNat) (by omega) (by omega))]; exact hc.symm)⟩ dX5_findBy_88
        · skip
          refine lv_aload_n hex hbc dX5_findBy_27 rfl (lv_at hl 2 rfl) ?_
          refine va_get (v := .ref (a 1)) hex hbc hts hin5 hown hK hP 0 rfl rfl 0 (by decide) (hts _ (List.mem_of_getElem? (i := 2) rfl)) (fun _ h => h) rfl dX5_findBy_28 ?_
          refine lv_bipush (v := iI 10) hex hbc dX5_findBy_31 (by decide) ?_
          refine lv_iload_n hex hbc dX5_findBy_33 rfl (lv_at hl 0 rfl) ?_
          refine zt_iadd hex hbc dX5_findBy_34 ?_
          refine g_iald (f := (σ 0)) (v := (σ 0 (10 + i1))) (i := (10 + i1)) hex hbc hK hP 1 0 rfl rfl (by decide) (by omega) rfl dX5_findBy_35 ?_
          refine lv_aload_n hex hbc dX5_findBy_36 rfl (lv_at hl 2 rfl) ?_
          refine va_get (v := .ref (a 1)) hex hbc hts hin5 hown hK hP 0 rfl rfl 0 (by decide) (hts _ (List.mem_of_getElem? (i := 2) rfl)) (fun _ h => h) rfl dX5_findBy_37 ?_
          refine lv_bipush (v := iI 10) hex hbc dX5_findBy_40 (by decide) ?_
          refine lv_iload_n hex hbc dX5_findBy_42 rfl (lv_at hl 0 rfl) ?_
          refine zt_iadd hex hbc dX5_findBy_43 ?_
          refine lv_iconst (v := iI 1) hex hbc dX5_findBy_44 rfl ?_
          refine zt_isub hex hbc dX5_findBy_45 ?_
          refine g_iald (f := (σ 0)) (v := (σ 0 ((10 + i1) - 1))) (i := ((10 + i1) - 1)) hex hbc hK hP 1 0 rfl rfl (by decide) (by omega) rfl dX5_findBy_46 ?_
          refine zt_isub hex hbc dX5_findBy_47 ?_
          refine lv_iload_n hex hbc dX5_findBy_48 rfl (lv_at hl 3 rfl) ?_
          refine zt_icmp_lt (a := ((σ 0 (10 + i1)) - (σ 0 ((10 + i1) - 1)))) (b := x) (tgt := 81) hex hbc (by omega) dX5_findBy_49 (by decide) (fun c49 => ?_) (fun c49 => ?_)
          · skip
            refine lv_iinc (v := iI (i1 + 1)) (lv' := [(3, .int (iI (i1 + 1))), (2, .int (iI cn)), (0, .ref (a 0)), (1, .int (iI x))]) hex hbc dX5_findBy_81 hl (k := 0) rfl (iI_add _ _) (by decide) rfl (fun ls hl => ?_)
            refine lv_goto (tgt := 11) hex hbc dX5_findBy_84 (by decide) ?_
            exact ih_11 (n1 + 1) (i1 + 1) cn w1 ⟨by omega, by omega, by omega, by rw [fbn_n (by omega)]; exact hc, by rw [fbn_n (by omega)]; exact hw⟩ (by omega) _ _ _ hP hD hS (lv_sub hl [0, 1, 2, 3] rfl)
          · skip
            refine lv_iload_n hex hbc dX5_findBy_52 rfl (lv_at hl 0 rfl) ?_
            refine lv_aload_n hex hbc dX5_findBy_53 rfl (lv_at hl 2 rfl) ?_
            refine va_get (v := .ref (a 4)) hex hbc hts hin5 hown hK hP 0 rfl rfl 5 (by decide) (hts _ (List.mem_of_getElem? (i := 1) rfl)) (fun _ h => h) rfl dX5_findBy_54 ?_
            refine lv_iload_n hex hbc dX5_findBy_57 rfl (lv_at hl 1 rfl) ?_
            refine lv_iconst (v := iI 1) hex hbc dX5_findBy_58 rfl ?_
            refine zt_isub hex hbc dX5_findBy_59 ?_
            refine g_iald (f := w1) (v := (w1 (cn - 1))) (i := (cn - 1)) hex hbc hK hP 4 0 rfl rfl (by decide) (by omega) rfl dX5_findBy_60 ?_
            refine zt_isub hex hbc dX5_findBy_61 ?_
            refine lv_aload_n hex hbc dX5_findBy_62 rfl (lv_at hl 2 rfl) ?_
            refine va_get (v := .ref (a 1)) hex hbc hts hin5 hown hK hP 0 rfl rfl 0 (by decide) (hts _ (List.mem_of_getElem? (i := 2) rfl)) (fun _ h => h) rfl dX5_findBy_63 ?_
            refine lv_iconst (v := iI 3) hex hbc dX5_findBy_66 rfl ?_
            refine g_iald (f := (σ 0)) (v := (σ 0 3)) (i := 3) hex hbc hK hP 1 0 rfl rfl (by decide) (by omega) rfl dX5_findBy_67 ?_
            refine zt_icmp_lt (a := (i1 - (w1 (cn - 1)))) (b := (σ 0 3)) (tgt := 81) hex hbc (by omega) dX5_findBy_68 (by decide) (fun c68 => ?_) (fun c68 => ?_)
            · skip
              refine lv_iinc (v := iI (i1 + 1)) (lv' := [(3, .int (iI (i1 + 1))), (2, .int (iI cn)), (0, .ref (a 0)), (1, .int (iI x))]) hex hbc dX5_findBy_81 hl (k := 0) rfl (iI_add _ _) (by decide) rfl (fun ls hl => ?_)
              refine lv_goto (tgt := 11) hex hbc dX5_findBy_84 (by decide) ?_
              exact ih_11 (n1 + 1) (i1 + 1) cn w1 ⟨by omega, by omega, by omega, by rw [fbn_n (by omega)]; exact hc, by rw [fbn_n (by omega)]; exact hw⟩ (by omega) _ _ _ hP hD hS (lv_sub hl [0, 1, 2, 3] rfl)
            · skip
              refine lv_aload_n hex hbc dX5_findBy_71 rfl (lv_at hl 2 rfl) ?_
              refine va_get (v := .ref (a 4)) hex hbc hts hin5 hown hK hP 0 rfl rfl 5 (by decide) (hts _ (List.mem_of_getElem? (i := 1) rfl)) (fun _ h => h) rfl dX5_findBy_72 ?_
              refine lv_iload_n hex hbc dX5_findBy_75 rfl (lv_at hl 1 rfl) ?_
              refine lv_iload_n hex hbc dX5_findBy_76 rfl (lv_at hl 0 rfl) ?_
              have hi_77 : (0 : Int) ≤ cn ∧ cn < (16 : Int) := (by omega)
              refine g_iast (σ := (sc σ 4 w1)) (f := w1) (i := cn) (v := i1) (τ := st (sc σ 4 w1) 4 cn i1) hex hbc hK hP hD hS 4 0 rfl rfl (by decide) hi_77 dX5_findBy_77 (wm_up_4 hi_77) (fun H locs hP hD hS => ?_)
              obtain ⟨f4_77, ef4_77⟩ : ∃ z : Int → Int, z = ups w1 cn i1 := ⟨_, rfl⟩
              have hP : va_P G vwCl (wm cx a (sc σ 4 f4_77)) H := by rw [ef4_77]; exact hP
              have hD : va_D (MA a) (wm cx a (sc σ 4 f4_77)) := by rw [ef4_77]; exact hD
              refine lv_iinc (v := iI (cn + 1)) (lv' := [(2, .int (iI (cn + 1))), (3, .int (iI i1)), (0, .ref (a 0)), (1, .int (iI x))]) hex hbc dX5_findBy_78 hl (k := 1) rfl (iI_add _ _) (by decide) rfl (fun ls hl => ?_)
              refine lv_iinc (v := iI (i1 + 1)) (lv' := [(3, .int (iI (i1 + 1))), (2, .int (iI (cn + 1))), (0, .ref (a 0)), (1, .int (iI x))]) hex hbc dX5_findBy_81 hl (k := 1) rfl (iI_add _ _) (by decide) rfl (fun ls hl => ?_)
              refine lv_goto (tgt := 11) hex hbc dX5_findBy_84 (by decide) ?_
              exact ih_11 (n1 + 1) (i1 + 1) (cn + 1) f4_77 ⟨by omega, by omega, by omega, by rw [fbn_y (by omega)]; show _ = _ + 1; rw [hc], by rw [fbn_y (by omega), ef4_77]; show ups _ _ _ = ups _ _ _; rw [← hw, ← hc]; exact congrArg (ups w1 cn) (by omega)⟩ (by omega) _ _ _ hP hD hS (lv_sub hl [0, 1, 2, 3] rfl)
  exact loop_11 _ 0 1 1 f4_8 ⟨by omega, by omega, by omega, rfl, ef4_8⟩ (mz_lt _) _ _ _ hP hD hS (lv_sub hl [0, 1, 2, 3] rfl)
end
section
/-! the budgets: shared freely, or on the grid -/
theorem sumN_congr {f g : Int → Int} : ∀ n : Nat, (∀ k, 0 ≤ k → k < (n : Int) → f k = g k) → sumN f n = sumN g n
  | 0, _ => rfl
  | n + 1, h => by
    unfold sumN
    rw [sumN_congr n (fun k h0 h1 => h k h0 (by omega)), h n (by omega) (by omega)]
theorem sumN_add (f g : Int → Int) : ∀ n : Nat, sumN (fun k => f k + g k) n = sumN f n + sumN g n
  | 0 => rfl
  | n + 1 => by
    unfold sumN
    rw [sumN_add f g n]
    omega
theorem sumN_mul (f : Int → Int) (c : Int) : ∀ n : Nat, sumN (fun k => f k * c) n = sumN f n * c
  | 0 => by simp [sumN]
  | n + 1 => by
    unfold sumN
    rw [sumN_mul f c n, Int.add_mul]
theorem sumN_le {f g : Int → Int} : ∀ n : Nat, (∀ k, 0 ≤ k → k < (n : Int) → f k ≤ g k) → sumN f n ≤ sumN g n
  | 0, _ => Int.le_refl _
  | n + 1, h => by
    unfold sumN
    have h1 := sumN_le n (fun k h0 h1 => h k h0 (by omega))
    have h2 := h n (by omega) (by omega)
    omega
theorem sumN_tel (f : Int → Int) : ∀ n : Nat, sumN (fun k => f (k + 1) - f k) n = f n - f 0
  | 0 => by simp [sumN]
  | n + 1 => by
    unfold sumN
    rw [sumN_tel f n]
    have : ((n + 1 : Nat) : Int) = (n : Int) + 1 := by omega
    rw [this]
    omega
theorem sumN_c (c : Int) : ∀ n : Nat, sumN (fun _ => c) n = (n : Int) * c
  | 0 => by simp [sumN]
  | n + 1 => by
    unfold sumN
    rw [sumN_c c n, show ((n + 1 : Nat) : Int) = (n : Int) + 1 by omega, Int.add_mul]
    omega
theorem sumN_ups (f : Int → Int) (i v : Int) : ∀ n : Nat, 0 ≤ i → sumN (ups f i v) n = if i < (n : Int) then sumN f n - f i + v else sumN f n
  | 0, h => by rw [if_neg (by omega)]; rfl
  | n + 1, h => by
    unfold sumN
    rw [sumN_ups f i v n h]
    by_cases q : i = (n : Int)
    · rw [if_neg (by omega), if_pos (by omega), q, ups_s]
      omega
    · rw [ups_n _ _ (fun z => q z.symm)]
      by_cases q2 : i < (n : Int)
      · rw [if_pos q2, if_pos (by omega)]
        omega
      · rw [if_neg q2, if_neg (by omega)]
/-- a sum with one part less than the others could be -/
theorem sumN_ex {f : Int → Int} (n : Nat) (h : sumN f n < (n : Int)) (hf : ∀ k, 0 ≤ k → k < (n : Int) → f k = 0 ∨ f k = 1) : ∃ k, 0 ≤ k ∧ k < (n : Int) ∧ f k = 0 := by
  apply Classical.byContradiction
  intro hn
  have h1 : sumN f n = sumN (fun _ => 1) n := sumN_congr n (fun k h0 h1 => (hf k h0 h1).elim (fun q => absurd ⟨k, h0, h1, q⟩ hn) (fun q => q))
  rw [h1, sumN_c] at h
  omega
def b0_ (w : Int → Int) : Int → Int := fun k => ln w k * w 6 / (w 0 * w 1)
def rm_ (w : Int → Int) : Int → Int := fun k => ln w k * w 6 % (w 0 * w 1)
def left_ (w : Int → Int) : Int := w 6 - sumN (b0_ w) (w 74).toNat
/-- the first of the greatest among f 0 .. f n -/
def argx (f : Int → Int) : Nat → Int
  | 0 => 0
  | n + 1 => if f (argx f n) < f ((n : Int) + 1) then (n : Int) + 1 else argx f n
theorem argx_in (f : Int → Int) : ∀ n : Nat, 0 ≤ argx f n ∧ argx f n ≤ (n : Int) ∧ ∀ k, 0 ≤ k → k ≤ (n : Int) → f k ≤ f (argx f n)
  | 0 => ⟨Int.le_refl _, Int.le_refl _, fun k h0 h1 => by have : k = 0 := by omega
                                                          subst this; exact Int.le_refl _⟩
  | n + 1 => by
    obtain ⟨h1, h2, h3⟩ := argx_in f n
    unfold argx
    by_cases q : f (argx f n) < f ((n : Int) + 1)
    · rw [if_pos q]
      refine ⟨by omega, by omega, fun k k0 k1 => ?_⟩
      by_cases qk : k = (n : Int) + 1
      · rw [qk]; exact Int.le_refl _
      · have := h3 k k0 (by omega); omega
    · rw [if_neg q]
      refine ⟨h1, by omega, fun k k0 k1 => ?_⟩
      by_cases qk : k = (n : Int) + 1
      · rw [qk]; omega
      · exact h3 k k0 (by omega)
theorem argx_congr {f g : Int → Int} : ∀ n : Nat, (∀ k, 0 ≤ k → k ≤ (n : Int) → f k = g k) → argx f n = argx g n
  | 0, _ => rfl
  | n + 1, h => by
    have e := argx_congr n (fun k h0 h1 => h k h0 (by omega))
    obtain ⟨a1, a2, -⟩ := argx_in g n
    unfold argx
    rw [e, h (argx g n) a1 (by omega), h ((n : Int) + 1) (by omega) (by omega)]
/-- the remainders of those that have had no sample more -/
def rr_ (w sv : Int → Int) : Int → Int := fun k => if sv k = 1 then -1 else rm_ w k
/-- who has had a sample more, after n of them -/
def sv_ (w : Int → Int) : Nat → Int → Int
  | 0 => fun _ => 0
  | n + 1 => ups (sv_ w n) (argx (rr_ w (sv_ w n)) (w 74 - 1).toNat) 1
def fbu (w : Int → Int) : Int → Int := fun k => b0_ w k + sv_ w (left_ w).toNat k
theorem rm_in {w : Int → Int} (h : Inv w) (k : Int) : 0 ≤ rm_ w k ∧ rm_ w k < w 0 * w 1 := by
  have := h.wh_in
  exact ⟨Int.emod_nonneg _ (by omega), Int.emod_lt_of_pos _ (by omega)⟩
theorem sum_ln {w : Int → Int} (h : Inv w) : sumN (ln w) (w 74).toNat = w 0 * w 1 := by
  have hb := h.1
  have e : sumN (ln w) (w 74).toNat = sumN (fun k => (fr w (k + 1) - fr w k) * w 1) (w 74).toNat := rfl
  rw [e, sumN_mul (fun k => fr w (k + 1) - fr w k), sumN_tel, fr_ge (k := (((w 74).toNat : Nat) : Int)) (by omega), fr_lt (k := 0) (by omega), show (75 : Int) + 0 = 75 from rfl, hb.2.2.2.2.2.2.2.2.2.2.2]
  rw [Int.sub_zero]
theorem sum_b0 {w : Int → Int} (h : Inv w) : sumN (b0_ w) (w 74).toNat * (w 0 * w 1) + sumN (rm_ w) (w 74).toNat = w 6 * (w 0 * w 1) := by
  have e1 : sumN (fun k => b0_ w k * (w 0 * w 1) + rm_ w k) (w 74).toNat = sumN (fun k => ln w k * w 6) (w 74).toNat := sumN_congr _ (fun k _ _ => by
    unfold b0_ rm_
    have := Int.mul_ediv_add_emod (ln w k * w 6) (w 0 * w 1)
    rw [Int.mul_comm (ln w k * w 6 / (w 0 * w 1)) (w 0 * w 1)]
    exact this)
  rw [sumN_add, sumN_mul, sumN_mul, sum_ln h] at e1
  rw [e1, Int.mul_comm]
theorem b0_in {w : Int → Int} (h : Inv w) {k : Int} (h0 : 0 ≤ k) (h1 : k < w 74) : 0 ≤ b0_ w k ∧ b0_ w k ≤ w 6 := by
  have hl := h.ln_in h0 h1
  have hw := h.wh_in
  have hb := h.1
  have hm := mulb (a := ln w k) (b := w 6) (A := w 0 * w 1) (B := w 6) (by omega) (by omega) (by omega) (by omega)
  unfold b0_
  have h3 : ln w k * w 6 / (w 0 * w 1) ≤ w 0 * w 1 * w 6 / (w 0 * w 1) := Int.ediv_le_ediv (by omega) hm.2
  rw [Int.mul_ediv_cancel_left _ (by omega)] at h3
  exact ⟨Int.ediv_nonneg hm.1 (by omega), h3⟩
theorem left_in {w : Int → Int} (h : Inv w) : 0 ≤ left_ w ∧ left_ w < w 74 := by
  have hs := sum_b0 h
  have hw := h.wh_in
  have hb := h.1
  have r1 : sumN (fun _ => 0) (w 74).toNat ≤ sumN (rm_ w) (w 74).toNat := sumN_le _ (fun k _ _ => (rm_in h k).1)
  have r2 : sumN (rm_ w) (w 74).toNat ≤ sumN (fun _ => w 0 * w 1 - 1) (w 74).toNat := sumN_le _ (fun k _ _ => by have := (rm_in h k).2; omega)
  rw [sumN_c] at r1 r2
  have el : left_ w * (w 0 * w 1) = sumN (rm_ w) (w 74).toNat := by
    unfold left_
    rw [Int.sub_mul]
    omega
  constructor
  · apply Classical.byContradiction
    intro hn
    have : left_ w * (w 0 * w 1) < 0 := Int.mul_neg_of_neg_of_pos (by omega) (by omega)
    omega
  · apply Classical.byContradiction
    intro hn
    have h1 : w 74 * (w 0 * w 1) ≤ left_ w * (w 0 * w 1) := Int.mul_le_mul_of_nonneg_right (by omega) (by omega)
    have h2 : (((w 74).toNat : Nat) : Int) * (w 0 * w 1 - 1) = w 74 * (w 0 * w 1) - w 74 := by
      rw [show (((w 74).toNat : Nat) : Int) = w 74 by omega, Int.mul_sub, Int.mul_one]
    omega
theorem sv_in {w : Int → Int} (h : Inv w) : ∀ n : Nat, (n : Int) ≤ left_ w → sumN (sv_ w n) (w 74).toNat = (n : Int) ∧ ∀ k, sv_ w n k = 0 ∨ sv_ w n k = 1
  | 0, _ => ⟨sumN_0 _ _ (fun _ _ _ => rfl), fun _ => Or.inl rfl⟩
  | n + 1, hn => by
    obtain ⟨h1, h2⟩ := sv_in h n (by omega)
    have hl := left_in h
    have hb := h.1
    obtain ⟨a1, a2, a3⟩ := argx_in (rr_ w (sv_ w n)) (w 74 - 1).toNat
    obtain ⟨k, k0, k1, k2⟩ := sumN_ex (f := sv_ w n) (w 74).toNat (by omega) (fun k _ _ => h2 k)
    have k3 := a3 k k0 (by omega)
    have hs : sv_ w n (argx (rr_ w (sv_ w n)) (w 74 - 1).toNat) = 0 := by
      rcases h2 (argx (rr_ w (sv_ w n)) (w 74 - 1).toNat) with q | q
      · exact q
      · have e1 : rr_ w (sv_ w n) (argx (rr_ w (sv_ w n)) (w 74 - 1).toNat) = -1 := if_pos q
        have e2 : rr_ w (sv_ w n) k = rm_ w k := if_neg (by omega)
        have := (rm_in h k).1
        omega
    unfold sv_
    refine ⟨?_, fun j => ?_⟩
    · rw [sumN_ups _ _ _ _ a1, if_pos (by omega), hs]
      omega
    · by_cases q : j = argx (rr_ w (sv_ w n)) (w 74 - 1).toNat
      · rw [q, ups_s]; exact Or.inr rfl
      · rw [ups_n _ _ q]; exact h2 j
/-- the next one had none before -/
theorem sv_new {w : Int → Int} (h : Inv w) {n : Nat} (hn : (n : Int) < left_ w) : sv_ w n (argx (rr_ w (sv_ w n)) (w 74 - 1).toNat) = 0 := by
  obtain ⟨h1, h2⟩ := sv_in h n (by omega)
  have hl := left_in h
  have hb := h.1
  obtain ⟨a1, a2, a3⟩ := argx_in (rr_ w (sv_ w n)) (w 74 - 1).toNat
  obtain ⟨k, k0, k1, k2⟩ := sumN_ex (f := sv_ w n) (w 74).toNat (by omega) (fun k _ _ => h2 k)
  have k3 := a3 k k0 (by omega)
  rcases h2 (argx (rr_ w (sv_ w n)) (w 74 - 1).toNat) with q | q
  · exact q
  · have e1 : rr_ w (sv_ w n) (argx (rr_ w (sv_ w n)) (w 74 - 1).toNat) = -1 := if_pos q
    have e2 : rr_ w (sv_ w n) k = rm_ w k := if_neg (by omega)
    have := (rm_in h k).1
    omega
theorem fbu_in {w : Int → Int} (h : Inv w) {k : Int} (h0 : 0 ≤ k) (h1 : k < w 74) : 0 ≤ fbu w k ∧ fbu w k ≤ w 6 + 1 := by
  have hb := b0_in h h0 h1
  have hl := left_in h
  have hs := (sv_in h (left_ w).toNat (by omega)).2 k
  unfold fbu
  omega
theorem fbu_sum {w : Int → Int} (h : Inv w) : sumN (fbu w) (w 74).toNat = w 6 := by
  have hl := left_in h
  have hs := (sv_in h (left_ w).toNat (by omega)).1
  have e : sumN (fbu w) (w 74).toNat = sumN (fun k => b0_ w k + sv_ w (left_ w).toNat k) (w 74).toNat := rfl
  rw [e, sumN_add, hs]
  unfold left_ at hl ⊢
  omega
end
section
/-! the grid: the least sums from a mark on, and the steps that are taken -/
def FAR : Int := 1152921504606846976
/-- the least of g lo .. g (lo + n - 1), FAR if none is less -/
def mnf (g : Int → Int) (lo : Int) : Nat → Int
  | 0 => FAR
  | n + 1 => if g (lo + (n : Int)) < mnf g lo n then g (lo + (n : Int)) else mnf g lo n
/-- where it is first -/
def argm (g : Int → Int) (lo : Int) : Nat → Int
  | 0 => lo
  | n + 1 => if g (lo + (n : Int)) < mnf g lo n then lo + (n : Int) else argm g lo n
theorem mnf_le (g : Int → Int) (lo : Int) : ∀ n : Nat, mnf g lo n ≤ FAR
  | 0 => Int.le_refl _
  | n + 1 => by
    have := mnf_le g lo n
    unfold mnf
    split <;> omega
theorem mnf_lo (g : Int → Int) (lo : Int) : ∀ (n : Nat) (j : Int), lo ≤ j → j < lo + (n : Int) → mnf g lo n ≤ g j
  | 0, j, h0, h1 => by omega
  | n + 1, j, h0, h1 => by
    unfold mnf
    by_cases q : j = lo + (n : Int)
    · rw [q]; split <;> omega
    · have := mnf_lo g lo n j h0 (by omega)
      split <;> omega
theorem mnf_congr {g g' : Int → Int} (lo : Int) : ∀ n : Nat, (∀ j, lo ≤ j → j < lo + (n : Int) → g j = g' j) → mnf g lo n = mnf g' lo n
  | 0, _ => rfl
  | n + 1, h => by
    unfold mnf
    rw [mnf_congr lo n (fun j h0 h1 => h j h0 (by omega)), h (lo + (n : Int)) (by omega) (by omega)]
theorem argm_ok (g : Int → Int) (lo : Int) : ∀ n : Nat, mnf g lo n < FAR → lo ≤ argm g lo n ∧ argm g lo n < lo + (n : Int) ∧ g (argm g lo n) = mnf g lo n ∧ ∀ j, lo ≤ j → j < argm g lo n → mnf g lo n < g j
  | 0, h => absurd h (Int.lt_irrefl _)
  | n + 1, h => by
    unfold mnf at h
    unfold mnf argm
    by_cases q : g (lo + (n : Int)) < mnf g lo n
    · rw [if_pos q, if_pos q]
      exact ⟨by omega, by omega, rfl, fun j h0 h1 => by have := mnf_lo g lo n j h0 h1; omega⟩
    · rw [if_neg q] at h
      rw [if_neg q, if_neg q]
      obtain ⟨h1, h2, h3, h4⟩ := argm_ok g lo n h
      exact ⟨h1, by omega, h3, h4⟩
theorem mnf_far {g : Int → Int} {lo : Int} (n : Nat) (h : ∀ j, lo ≤ j → j < lo + (n : Int) → FAR ≤ g j) : mnf g lo n = FAR := by
  have h1 := mnf_le g lo n
  rcases Int.lt_or_le (mnf g lo n) FAR with q | q
  · obtain ⟨a1, a2, a3, -⟩ := argm_ok g lo n q
    have := h _ a1 a2
    omega
  · omega
/-- the marks behind a mark are d: the sum from that mark on, without its own, and with it -/
def raw_ (w : Int → Int) (T G : Int) (m : Int) (nxt : Int → Int) (step : Int) : Int :=
  mnf (fun j => if ln w m * w 4 / 100 ≤ po T G j - po T G step ∧ po T G j - po T G step ≤ ln w m * w 5 / 100 then nxt j else FAR) (step + 1) (G - 1 - step).toNat
def own_ (w : Int → Int) (T G : Int) (m : Int) (step x : Int) : Int := if x = FAR then FAR else x + of_ w T G m step
def bst (w : Int → Int) (T G : Int) : Nat → Int → Int
  | 0 => fun step => own_ w T G (w 74 - 1) step (if ln w (w 74 - 1) * w 4 / 100 ≤ T - po T G step ∧ T - po T G step ≤ ln w (w 74 - 1) * w 5 / 100 then 0 else FAR)
  | d + 1 => fun step => own_ w T G (w 74 - 1 - ((d : Int) + 1)) step (raw_ w T G (w 74 - 1 - ((d : Int) + 1)) (bst w T G d) step)
theorem of_in {w : Int → Int} (h : Inv w) {T G m s : Int} (hT : 0 ≤ T ∧ T ≤ 200000) (hG : 1 ≤ G) (hm : 0 ≤ m) (hs : 0 ≤ s ∧ s ≤ G) : 0 ≤ of_ w T G m s ∧ of_ w T G m s ≤ 12800000 := by
  have h1 := po_in hT hG hs
  have h2 := h.fr_in hm
  have hb := h.1
  have m1 := mulb (a := po T G s) (b := w 0) (A := 200000) (B := 64) (by omega) (by omega) (by omega) (by omega)
  have m2 := mulb (a := fr w m) (b := T) (A := 64) (B := 200000) (by omega) (by omega) (by omega) (by omega)
  exact abI_in (by omega)
theorem bst_in {w : Int → Int} (h : Inv w) {T G : Int} (hT : 0 ≤ T ∧ T ≤ 200000) (hG : 1 ≤ G) : ∀ (d : Nat) (s : Int), (d : Int) < w 74 → 0 ≤ s → s < G → bst w T G d s = FAR ∨ (0 ≤ bst w T G d s ∧ bst w T G d s ≤ ((d : Int) + 1) * 12800000)
  | 0, s, hd, h0, h1 => by
    have ho := of_in h (T := T) (G := G) (m := w 74 - 1) (s := s) hT hG (by omega) (by omega)
    unfold bst own_
    by_cases q : ln w (w 74 - 1) * w 4 / 100 ≤ T - po T G s ∧ T - po T G s ≤ ln w (w 74 - 1) * w 5 / 100
    · rw [if_pos q, if_neg (by unfold FAR; omega)]
      exact Or.inr ⟨by omega, by omega⟩
    · rw [if_neg q, if_pos rfl]
      exact Or.inl rfl
  | d + 1, s, hd, h0, h1 => by
    have ho := of_in h (T := T) (G := G) (m := w 74 - 1 - ((d : Int) + 1)) (s := s) hT hG (by omega) (by omega)
    unfold bst own_
    by_cases q : raw_ w T G (w 74 - 1 - ((d : Int) + 1)) (bst w T G d) s = FAR
    · rw [if_pos q]; exact Or.inl rfl
    · rw [if_neg q]
      have hle : raw_ w T G (w 74 - 1 - ((d : Int) + 1)) (bst w T G d) s ≤ FAR := mnf_le _ _ _
      obtain ⟨a1, a2, a3, -⟩ := argm_ok _ _ _ (show raw_ w T G (w 74 - 1 - ((d : Int) + 1)) (bst w T G d) s < FAR by omega)
      have hr : raw_ w T G (w 74 - 1 - ((d : Int) + 1)) (bst w T G d) s = mnf (fun j => if ln w (w 74 - 1 - ((d : Int) + 1)) * w 4 / 100 ≤ po T G j - po T G s ∧ po T G j - po T G s ≤ ln w (w 74 - 1 - ((d : Int) + 1)) * w 5 / 100 then bst w T G d j else FAR) (s + 1) (G - 1 - s).toNat := rfl
      rw [← hr] at a3
      have a3' : (if ln w (w 74 - 1 - ((d : Int) + 1)) * w 4 / 100 ≤ po T G (argm (fun j => if ln w (w 74 - 1 - ((d : Int) + 1)) * w 4 / 100 ≤ po T G j - po T G s ∧ po T G j - po T G s ≤ ln w (w 74 - 1 - ((d : Int) + 1)) * w 5 / 100 then bst w T G d j else FAR) (s + 1) (G - 1 - s).toNat) - po T G s ∧ po T G (argm (fun j => if ln w (w 74 - 1 - ((d : Int) + 1)) * w 4 / 100 ≤ po T G j - po T G s ∧ po T G j - po T G s ≤ ln w (w 74 - 1 - ((d : Int) + 1)) * w 5 / 100 then bst w T G d j else FAR) (s + 1) (G - 1 - s).toNat) - po T G s ≤ ln w (w 74 - 1 - ((d : Int) + 1)) * w 5 / 100 then bst w T G d (argm (fun j => if ln w (w 74 - 1 - ((d : Int) + 1)) * w 4 / 100 ≤ po T G j - po T G s ∧ po T G j - po T G s ≤ ln w (w 74 - 1 - ((d : Int) + 1)) * w 5 / 100 then bst w T G d j else FAR) (s + 1) (G - 1 - s).toNat) else FAR) = raw_ w T G (w 74 - 1 - ((d : Int) + 1)) (bst w T G d) s := a3
      revert a1 a2 a3'
      generalize argm (fun j => if ln w (w 74 - 1 - ((d : Int) + 1)) * w 4 / 100 ≤ po T G j - po T G s ∧ po T G j - po T G s ≤ ln w (w 74 - 1 - ((d : Int) + 1)) * w 5 / 100 then bst w T G d j else FAR) (s + 1) (G - 1 - s).toNat = jm
      intro a1 a2 a3'
      split at a3'
      · rcases bst_in h hT hG d jm (by omega) (by omega) (by omega) with z | z
        · rw [z] at a3'; exact absurd a3'.symm q
        · rw [a3'] at z
          refine Or.inr ⟨by omega, ?_⟩
          rw [show (((d + 1 : Nat) : Int) + 1) * 12800000 = ((d : Int) + 1) * 12800000 + 12800000 by omega]
          omega
      · exact absurd a3'.symm q
/-- no room for the marks behind: no way -/
theorem bst_out {w : Int → Int} {T G : Int} : ∀ (d : Nat) (s : Int), G - 1 - (d : Int) < s → 1 ≤ d → bst w T G d s = FAR
  | 0, s, _, h => absurd h (by decide)
  | d + 1, s, h, _ => by
    unfold bst own_
    rw [if_pos]
    refine mnf_far _ (fun j h0 h1 => ?_)
    show FAR ≤ if _ then bst w T G d j else FAR
    split
    · rw [bst_out d j (by omega) (by
        rcases Nat.eq_zero_or_pos d with q | q
        · subst q; omega
        · exact q)]
      exact Int.le_refl _
    · exact Int.le_refl _
/-- the step of a mark -/
def stq (w : Int → Int) (T G : Int) : Nat → Int
  | 0 => 0
  | m + 1 => argm (fun j => if ln w (m : Int) * w 4 / 100 ≤ po T G j - po T G (stq w T G m) ∧ po T G j - po T G (stq w T G m) ≤ ln w (m : Int) * w 5 / 100 then bst w T G (w 74 - 2 - (m : Int)).toNat j else FAR) (stq w T G m + 1) (G - 1 - stq w T G m).toNat
def stp (w : Int → Int) (T G : Int) (k : Int) : Int := if k < w 74 then stq w T G k.toNat else G
def gbu (w : Int → Int) (T G : Int) : Int → Int := fun k => po T G (stp w T G (k + 1)) - po T G (stp w T G k)
def can_ (w : Int → Int) (T G : Int) : Prop := bst w T G (w 74 - 1).toNat 0 ≠ FAR
/-- along the steps that are taken there is always a way -/
theorem stq_ok {w : Int → Int} (h : Inv w) {T G : Int} (hT : 0 ≤ T ∧ T ≤ 200000) (hG : 1 ≤ G) (hc : can_ w T G) : ∀ m : Nat, (m : Int) < w 74 → (m : Int) ≤ stq w T G m ∧ stq w T G m < G ∧ bst w T G (w 74 - 1 - (m : Int)).toNat (stq w T G m) < FAR
  | 0, hm => by
    have hle : bst w T G (w 74 - 1).toNat 0 ≤ FAR := by
      rcases bst_in h hT hG (w 74 - 1).toNat 0 (by omega) (by omega) (by omega) with q | q
      · omega
      · have hb := h.1
        have : (((w 74 - 1).toNat : Nat) : Int) + 1 ≤ 16 := by omega
        unfold FAR
        omega
    unfold can_ at hc
    rw [show w 74 - 1 - ((0 : Nat) : Int) = w 74 - 1 by omega]
    exact ⟨by unfold stq; omega, by unfold stq; omega, by unfold stq; omega⟩
  | m + 1, hm => by
    obtain ⟨h1, h2, h3⟩ := stq_ok h hT hG hc m (by omega)
    have hb := h.1
    have e1 : (w 74 - 1 - (m : Int)).toNat = (w 74 - 2 - (m : Int)).toNat + 1 := by omega
    have e2 : w 74 - 1 - ((((w 74 - 2 - (m : Int)).toNat : Nat) : Int) + 1) = (m : Int) := by omega
    rw [e1] at h3
    unfold bst own_ at h3
    rw [e2] at h3
    by_cases q : raw_ w T G (m : Int) (bst w T G (w 74 - 2 - (m : Int)).toNat) (stq w T G m) = FAR
    · rw [if_pos q] at h3; exact absurd h3 (Int.lt_irrefl _)
    · have hle : raw_ w T G (m : Int) (bst w T G (w 74 - 2 - (m : Int)).toNat) (stq w T G m) ≤ FAR := mnf_le _ _ _
      have hlt : raw_ w T G (m : Int) (bst w T G (w 74 - 2 - (m : Int)).toNat) (stq w T G m) < FAR := by omega
      obtain ⟨a1, a2, a3, -⟩ := argm_ok _ _ _ hlt
      have hst : stq w T G (m + 1) = argm (fun j => if ln w (m : Int) * w 4 / 100 ≤ po T G j - po T G (stq w T G m) ∧ po T G j - po T G (stq w T G m) ≤ ln w (m : Int) * w 5 / 100 then bst w T G (w 74 - 2 - (m : Int)).toNat j else FAR) (stq w T G m + 1) (G - 1 - stq w T G m).toNat := rfl
      rw [← hst] at a1 a2 a3
      refine ⟨by omega, by omega, ?_⟩
      rw [show w 74 - 1 - ((m + 1 : Nat) : Int) = w 74 - 2 - (m : Int) by omega]
      have hlt2 : mnf (fun j => if ln w (m : Int) * w 4 / 100 ≤ po T G j - po T G (stq w T G m) ∧ po T G j - po T G (stq w T G m) ≤ ln w (m : Int) * w 5 / 100 then bst w T G (w 74 - 2 - (m : Int)).toNat j else FAR) (stq w T G m + 1) (G - 1 - stq w T G m).toNat < FAR := hlt
      rw [← a3] at hlt2
      by_cases q2 : ln w (m : Int) * w 4 / 100 ≤ po T G (stq w T G (m + 1)) - po T G (stq w T G m) ∧ po T G (stq w T G (m + 1)) - po T G (stq w T G m) ≤ ln w (m : Int) * w 5 / 100
      · simp only [if_pos q2] at hlt2
        exact hlt2
      · simp only [if_neg q2] at hlt2
        exact absurd hlt2 (Int.lt_irrefl _)
/-- the step that is taken next: it fits, it is on the least way, and none before it is -/
theorem stq_next {w : Int → Int} (h : Inv w) {T G : Int} (hT : 0 ≤ T ∧ T ≤ 200000) (hG : 1 ≤ G) (hc : can_ w T G) (m : Nat) (hm : (m : Int) + 1 < w 74) :
    stq w T G m < stq w T G (m + 1) ∧ fits_ w (m : Int) (po T G (stq w T G (m + 1)) - po T G (stq w T G m)) ∧ bst w T G (w 74 - 2 - (m : Int)).toNat (stq w T G (m + 1)) = raw_ w T G (m : Int) (bst w T G (w 74 - 2 - (m : Int)).toNat) (stq w T G m) ∧
    bst w T G (w 74 - 1 - (m : Int)).toNat (stq w T G m) = raw_ w T G (m : Int) (bst w T G (w 74 - 2 - (m : Int)).toNat) (stq w T G m) + of_ w T G (m : Int) (stq w T G m) ∧
    (∀ j, stq w T G m < j → j < stq w T G (m + 1) → ¬ (fits_ w (m : Int) (po T G j - po T G (stq w T G m)) ∧ bst w T G (w 74 - 2 - (m : Int)).toNat j ≤ raw_ w T G (m : Int) (bst w T G (w 74 - 2 - (m : Int)).toNat) (stq w T G m))) := by
  obtain ⟨h1, h2, h3⟩ := stq_ok h hT hG hc m (by omega)
  have hb := h.1
  have e1 : (w 74 - 1 - (m : Int)).toNat = (w 74 - 2 - (m : Int)).toNat + 1 := by omega
  have e2 : w 74 - 1 - ((((w 74 - 2 - (m : Int)).toNat : Nat) : Int) + 1) = (m : Int) := by omega
  rw [e1] at h3 ⊢
  have hu : bst w T G ((w 74 - 2 - (m : Int)).toNat + 1) (stq w T G m) = own_ w T G (m : Int) (stq w T G m) (raw_ w T G (m : Int) (bst w T G (w 74 - 2 - (m : Int)).toNat) (stq w T G m)) := by
    show own_ w T G (w 74 - 1 - ((((w 74 - 2 - (m : Int)).toNat : Nat) : Int) + 1)) _ (raw_ w T G (w 74 - 1 - ((((w 74 - 2 - (m : Int)).toNat : Nat) : Int) + 1)) _ _) = _
    rw [e2]
  rw [hu] at h3 ⊢
  unfold own_ at h3 ⊢
  by_cases q : raw_ w T G (m : Int) (bst w T G (w 74 - 2 - (m : Int)).toNat) (stq w T G m) = FAR
  · rw [if_pos q] at h3; exact absurd h3 (Int.lt_irrefl _)
  · have hle : raw_ w T G (m : Int) (bst w T G (w 74 - 2 - (m : Int)).toNat) (stq w T G m) ≤ FAR := mnf_le _ _ _
    have hlt : raw_ w T G (m : Int) (bst w T G (w 74 - 2 - (m : Int)).toNat) (stq w T G m) < FAR := by omega
    obtain ⟨a1, a2, a3, a4⟩ := argm_ok _ _ _ hlt
    have hst : stq w T G (m + 1) = argm (fun j => if ln w (m : Int) * w 4 / 100 ≤ po T G j - po T G (stq w T G m) ∧ po T G j - po T G (stq w T G m) ≤ ln w (m : Int) * w 5 / 100 then bst w T G (w 74 - 2 - (m : Int)).toNat j else FAR) (stq w T G m + 1) (G - 1 - stq w T G m).toNat := rfl
    rw [← hst] at a1 a2 a3 a4
    have a3' : (if ln w (m : Int) * w 4 / 100 ≤ po T G (stq w T G (m + 1)) - po T G (stq w T G m) ∧ po T G (stq w T G (m + 1)) - po T G (stq w T G m) ≤ ln w (m : Int) * w 5 / 100 then bst w T G (w 74 - 2 - (m : Int)).toNat (stq w T G (m + 1)) else FAR) = raw_ w T G (m : Int) (bst w T G (w 74 - 2 - (m : Int)).toNat) (stq w T G m) := a3
    by_cases q2 : ln w (m : Int) * w 4 / 100 ≤ po T G (stq w T G (m + 1)) - po T G (stq w T G m) ∧ po T G (stq w T G (m + 1)) - po T G (stq w T G m) ≤ ln w (m : Int) * w 5 / 100
    · rw [if_pos q2] at a3'
      refine ⟨by omega, q2, a3', by rw [if_neg q], fun j j0 j1 z => ?_⟩
      have := a4 j (by omega) j1
      have e : (if ln w (m : Int) * w 4 / 100 ≤ po T G j - po T G (stq w T G m) ∧ po T G j - po T G (stq w T G m) ≤ ln w (m : Int) * w 5 / 100 then bst w T G (w 74 - 2 - (m : Int)).toNat j else FAR) = bst w T G (w 74 - 2 - (m : Int)).toNat j := if_pos z.1
      have z2 := z.2
      have h5 : raw_ w T G (m : Int) (bst w T G (w 74 - 2 - (m : Int)).toNat) (stq w T G m) < (if ln w (m : Int) * w 4 / 100 ≤ po T G j - po T G (stq w T G m) ∧ po T G j - po T G (stq w T G m) ≤ ln w (m : Int) * w 5 / 100 then bst w T G (w 74 - 2 - (m : Int)).toNat j else FAR) := this
      rw [e] at h5
      omega
    · rw [if_neg q2] at a3'
      exact absurd a3'.symm q
theorem stp_in {w : Int → Int} (h : Inv w) {T G : Int} (hT : 0 ≤ T ∧ T ≤ 200000) (hG : 1 ≤ G) (hc : can_ w T G) {k : Int} (h0 : 0 ≤ k) : 0 ≤ stp w T G k ∧ stp w T G k ≤ G := by
  unfold stp
  split
  · have := stq_ok h hT hG hc k.toNat (by omega); omega
  · omega
theorem stp_lt {w : Int → Int} (h : Inv w) {T G : Int} (hT : 0 ≤ T ∧ T ≤ 200000) (hG : 1 ≤ G) (hc : can_ w T G) {k : Int} (h0 : 0 ≤ k) (h1 : k < w 74) : stp w T G k < stp w T G (k + 1) := by
  unfold stp
  rw [if_pos h1]
  split
  · have := (stq_next h hT hG hc k.toNat (by omega)).1
    rw [show (k + 1).toNat = k.toNat + 1 by omega]
    exact this
  · exact (stq_ok h hT hG hc k.toNat (by omega)).2.1
theorem gbu_in {w : Int → Int} (h : Inv w) {T G : Int} (hT : 0 ≤ T ∧ T ≤ 200000) (hG : 1 ≤ G) (hc : can_ w T G) {k : Int} (h0 : 0 ≤ k) (h1 : k < w 74) : 0 ≤ gbu w T G k ∧ gbu w T G k ≤ T := by
  have a := stp_in h hT hG hc h0
  have b := stp_in h hT hG hc (k := k + 1) (by omega)
  have c := stp_lt h hT hG hc h0 h1
  have p1 := po_in hT hG a
  have p2 := po_in hT hG b
  have p3 := po_mono (T := T) (G := G) hT.1 hG (Int.le_of_lt c)
  unfold gbu
  omega
theorem gbu_sum {w : Int → Int} (h : Inv w) {T G : Int} (hG : 1 ≤ G) : sumN (gbu w T G) (w 74).toNat = T := by
  have hb := h.1
  have e : sumN (gbu w T G) (w 74).toNat = po T G (stp w T G (((w 74).toNat : Nat) : Int)) - po T G (stp w T G 0) := sumN_tel (fun z => po T G (stp w T G z)) (w 74).toNat
  rw [e]
  have e1 : stp w T G (((w 74).toNat : Nat) : Int) = G := by unfold stp; exact if_neg (by omega)
  have e2 : stp w T G 0 = 0 := by unfold stp; rw [if_pos (by omega)]; rfl
  rw [e1, e2]
  unfold po
  rw [Int.mul_ediv_cancel_left _ (by omega), Int.zero_mul, Int.zero_ediv]
  omega
end
section
/-! the program's way to the least sums: windows of steps, -1 for no way -/
def fst_ (w : Int → Int) (G m : Int) : Int := if m < w 74 then m else G
def lst_ (w : Int → Int) (G m : Int) : Int := if m = 0 then 0 else G - (w 74 - m)
def cv_ (x : Int) : Int := if x = FAR then -1 else x
/-- b is the step with the least of S among lo .. hi of which F holds and S isn't -1, the first of several; -1 if there is none -/
def BN (S : Int → Int) (F : Int → Prop) (lo hi b : Int) : Prop :=
  (b = -1 ∧ ∀ j, lo ≤ j → j ≤ hi → F j → S j = -1) ∨ (lo ≤ b ∧ b ≤ hi ∧ F b ∧ S b ≠ -1 ∧ (∀ j, lo ≤ j → j ≤ hi → F j → S j ≠ -1 → S b ≤ S j) ∧ ∀ j, lo ≤ j → j < b → F j → S j ≠ -1 → S b < S j)
/-- the loop's grid is measured for the target T and the grid G -/
def Ms (σ : Nat → Int → Int) (T G : Int) : Prop := σ 21 0 = T ∧ σ 21 1 = G ∧ (∀ i, 0 ≤ i → i ≤ G → σ 14 i = po T G i) ∧ (∀ k, 0 ≤ k → k < σ 0 74 → σ 15 k = ln (σ 0) k * σ 0 4 / 100) ∧ ∀ k, 0 ≤ k → k < σ 0 74 → σ 16 k = ln (σ 0) k * σ 0 5 / 100
/-- the row of sums of the mark m is right -/
def Rw (w : Int → Int) (T G : Int) (f : Int → Int) (m : Int) : Prop := if m = w 74 then f (m * 33 + G) = 0 else ∀ j, m ≤ j → j ≤ lst_ w G m → f (m * 33 + j) = cv_ (bst w T G (w 74 - 1 - m).toNat j)
theorem cv_in {w : Int → Int} (h : Inv w) {T G : Int} (hT : 0 ≤ T ∧ T ≤ 200000) (hG : 1 ≤ G) {d : Nat} {s : Int} (hd : (d : Int) < w 74) (h0 : 0 ≤ s) (h1 : s < G) : -1 ≤ cv_ (bst w T G d s) ∧ cv_ (bst w T G d s) ≤ 204800000 ∧ (cv_ (bst w T G d s) = -1 ↔ bst w T G d s = FAR) ∧ (bst w T G d s ≠ FAR → cv_ (bst w T G d s) = bst w T G d s) := by
  have hb := h.1
  have h2 := bst_in h hT hG d s hd h0 h1
  unfold cv_
  rcases h2 with z | z
  · rw [if_pos z]
    exact ⟨by omega, by omega, ⟨fun _ => z, fun _ => rfl⟩, fun q => absurd z q⟩
  · have hd2 : ((d : Int) + 1) ≤ 16 := by omega
    have hf : FAR = 1152921504606846976 := rfl
    rw [if_neg (by omega)]
    exact ⟨by omega, by omega, ⟨fun q => by omega, fun q => by omega⟩, fun _ => rfl⟩
theorem lst_in {w : Int → Int} {G m : Int} (hm : 1 ≤ m) : lst_ w G m = G - (w 74 - m) := if_neg (by omega)
/-- the steps behind one, of a mark that isn't the last -/
theorem nx_in {w : Int → Int} (h : Inv w) {T G m s : Int} (hT : 0 ≤ T ∧ T ≤ 200000) (hG : 1 ≤ G ∧ G ≤ 32) (hm : 0 ≤ m ∧ m + 1 < w 74) (hs : m ≤ s ∧ s < G) {f : Int → Int} (hR : Rw w T G f (m + 1)) {b : Int}
    (hb : BN (fun j => f ((m + 1) * 33 + j)) (fun j => fits_ w m (po T G j - po T G s)) (max (s + 1) (fst_ w G (m + 1))) (lst_ w G (m + 1)) b) :
    (b = -1 ∧ raw_ w T G m (bst w T G (w 74 - 2 - m).toNat) s = FAR) ∨ (s < b ∧ b < G ∧ b ≤ lst_ w G (m + 1) ∧ raw_ w T G m (bst w T G (w 74 - 2 - m).toNat) s = f ((m + 1) * 33 + b) ∧ f ((m + 1) * 33 + b) < FAR ∧ 0 ≤ f ((m + 1) * 33 + b) ∧ bst w T G (w 74 - 2 - m).toNat b = f ((m + 1) * 33 + b) ∧
      b = argm (fun j => if ln w m * w 4 / 100 ≤ po T G j - po T G s ∧ po T G j - po T G s ≤ ln w m * w 5 / 100 then bst w T G (w 74 - 2 - m).toNat j else FAR) (s + 1) (G - 1 - s).toNat) := by
  have hi := h.1
  have e1 : fst_ w G (m + 1) = m + 1 := if_pos hm.2
  have e2 : lst_ w G (m + 1) = G - (w 74 - (m + 1)) := lst_in (by omega)
  have e3 : (w 74 - 1 - (m + 1)).toNat = (w 74 - 2 - m).toNat := by omega
  unfold Rw at hR
  rw [if_neg (by omega), e3] at hR
  rw [e1, show max (s + 1) (m + 1) = s + 1 by omega] at hb
  have hf : FAR = 1152921504606846976 := rfl
  have hcv : ∀ j, s + 1 ≤ j → j ≤ lst_ w G (m + 1) → f ((m + 1) * 33 + j) = cv_ (bst w T G (w 74 - 2 - m).toNat j) ∧ -1 ≤ cv_ (bst w T G (w 74 - 2 - m).toNat j) ∧ cv_ (bst w T G (w 74 - 2 - m).toNat j) ≤ 204800000 ∧ (cv_ (bst w T G (w 74 - 2 - m).toNat j) = -1 ↔ bst w T G (w 74 - 2 - m).toNat j = FAR) ∧ (bst w T G (w 74 - 2 - m).toNat j ≠ FAR → cv_ (bst w T G (w 74 - 2 - m).toNat j) = bst w T G (w 74 - 2 - m).toNat j) :=
    fun j h0 h1 => ⟨hR j (by omega) h1, cv_in h hT hG.1 (by omega) (by omega) (by omega)⟩
  have hout : ∀ j, lst_ w G (m + 1) < j → j < G → bst w T G (w 74 - 2 - m).toNat j = FAR := fun j h0 h1 => bst_out _ _ (by omega) (by omega)
  rcases hb with ⟨hb0, hb1⟩ | ⟨hb0, hb1, hb2, hb3, hb4, hb5⟩
  · refine Or.inl ⟨hb0, mnf_far _ (fun j h0 h1 => ?_)⟩
    show FAR ≤ if ln w m * w 4 / 100 ≤ po T G j - po T G s ∧ po T G j - po T G s ≤ ln w m * w 5 / 100 then bst w T G (w 74 - 2 - m).toNat j else FAR
    split
    · rename_i hfit
      rcases Int.lt_or_le (lst_ w G (m + 1)) j with q | q
      · rw [hout j q (by omega)]; exact Int.le_refl _
      · have z := hb1 j h0 q hfit
        have c := hcv j h0 q
        have z2 : f ((m + 1) * 33 + j) = -1 := z
        rw [c.1] at z2
        rw [c.2.2.2.1.mp z2]; exact Int.le_refl _
    · exact Int.le_refl _
  · have cb := hcv b hb0 hb1
    have hb3' : f ((m + 1) * 33 + b) ≠ -1 := hb3
    have hnf : bst w T G (w 74 - 2 - m).toNat b ≠ FAR := fun q => hb3' (by rw [cb.1]; exact cb.2.2.2.1.mpr q)
    have heq : f ((m + 1) * 33 + b) = bst w T G (w 74 - 2 - m).toNat b := cb.1.trans (cb.2.2.2.2 hnf)
    have hgb : (if ln w m * w 4 / 100 ≤ po T G b - po T G s ∧ po T G b - po T G s ≤ ln w m * w 5 / 100 then bst w T G (w 74 - 2 - m).toNat b else FAR) = f ((m + 1) * 33 + b) := (if_pos hb2).trans heq.symm
    have hle := mnf_lo (fun j => if ln w m * w 4 / 100 ≤ po T G j - po T G s ∧ po T G j - po T G s ≤ ln w m * w 5 / 100 then bst w T G (w 74 - 2 - m).toNat j else FAR) (s + 1) (G - 1 - s).toNat b (by omega) (by omega)
    have hle' : raw_ w T G m (bst w T G (w 74 - 2 - m).toNat) s ≤ f ((m + 1) * 33 + b) := by rw [← hgb]; exact hle
    have hlt : raw_ w T G m (bst w T G (w 74 - 2 - m).toNat) s < FAR := by omega
    obtain ⟨a1, a2, a3, a4⟩ := argm_ok _ _ _ (show mnf (fun j => if ln w m * w 4 / 100 ≤ po T G j - po T G s ∧ po T G j - po T G s ≤ ln w m * w 5 / 100 then bst w T G (w 74 - 2 - m).toNat j else FAR) (s + 1) (G - 1 - s).toNat < FAR from hlt)
    have a3' : (if ln w m * w 4 / 100 ≤ po T G (argm (fun j => if ln w m * w 4 / 100 ≤ po T G j - po T G s ∧ po T G j - po T G s ≤ ln w m * w 5 / 100 then bst w T G (w 74 - 2 - m).toNat j else FAR) (s + 1) (G - 1 - s).toNat) - po T G s ∧ po T G (argm (fun j => if ln w m * w 4 / 100 ≤ po T G j - po T G s ∧ po T G j - po T G s ≤ ln w m * w 5 / 100 then bst w T G (w 74 - 2 - m).toNat j else FAR) (s + 1) (G - 1 - s).toNat) - po T G s ≤ ln w m * w 5 / 100 then bst w T G (w 74 - 2 - m).toNat (argm (fun j => if ln w m * w 4 / 100 ≤ po T G j - po T G s ∧ po T G j - po T G s ≤ ln w m * w 5 / 100 then bst w T G (w 74 - 2 - m).toNat j else FAR) (s + 1) (G - 1 - s).toNat) else FAR) = raw_ w T G m (bst w T G (w 74 - 2 - m).toNat) s := a3
    have a4' : ∀ j, s + 1 ≤ j → j < argm (fun j => if ln w m * w 4 / 100 ≤ po T G j - po T G s ∧ po T G j - po T G s ≤ ln w m * w 5 / 100 then bst w T G (w 74 - 2 - m).toNat j else FAR) (s + 1) (G - 1 - s).toNat → raw_ w T G m (bst w T G (w 74 - 2 - m).toNat) s < if ln w m * w 4 / 100 ≤ po T G j - po T G s ∧ po T G j - po T G s ≤ ln w m * w 5 / 100 then bst w T G (w 74 - 2 - m).toNat j else FAR := a4
    revert a1 a2 a3' a4'
    generalize argm (fun j => if ln w m * w 4 / 100 ≤ po T G j - po T G s ∧ po T G j - po T G s ≤ ln w m * w 5 / 100 then bst w T G (w 74 - 2 - m).toNat j else FAR) (s + 1) (G - 1 - s).toNat = jm
    intro a1 a2 a3' a4'
    have hfit : ln w m * w 4 / 100 ≤ po T G jm - po T G s ∧ po T G jm - po T G s ≤ ln w m * w 5 / 100 := by
      apply Classical.byContradiction
      intro hn
      rw [if_neg hn] at a3'
      omega
    rw [if_pos hfit] at a3'
    have hjl : jm ≤ lst_ w G (m + 1) := by
      rcases Int.lt_or_le (lst_ w G (m + 1)) jm with q | q
      · rw [hout jm q (by omega)] at a3'; omega
      · exact q
    have cj := hcv jm a1 hjl
    have hjn : bst w T G (w 74 - 2 - m).toNat jm ≠ FAR := by omega
    have hje : f ((m + 1) * 33 + jm) = bst w T G (w 74 - 2 - m).toNat jm := cj.1.trans (cj.2.2.2.2 hjn)
    have hj1 : f ((m + 1) * 33 + jm) ≠ -1 := by rw [cj.1]; exact fun q => hjn (cj.2.2.2.1.mp q)
    have hmin : f ((m + 1) * 33 + b) ≤ f ((m + 1) * 33 + jm) := hb4 jm a1 hjl hfit hj1
    have hraw : raw_ w T G m (bst w T G (w 74 - 2 - m).toNat) s = f ((m + 1) * 33 + b) := by omega
    refine Or.inr ⟨by omega, by omega, hb1, hraw, by omega, ?_, heq.symm, ?_⟩
    · rw [cb.1]; have := cb.2.1; have := fun q => hb3' (cb.1.trans q); omega
    · rcases Int.lt_trichotomy b jm with q | q | q
      · have := a4' b hb0 q
        rw [hgb] at this
        omega
      · exact q
      · have : f ((m + 1) * 33 + b) < f ((m + 1) * 33 + jm) := hb5 jm a1 q hfit hj1
        omega
/-- the end behind the last mark -/
theorem nx_last {w : Int → Int} (h : Inv w) {T G s : Int} (hG : 1 ≤ G ∧ G ≤ 32) (hs : 0 ≤ s ∧ s < G) {f : Int → Int} (hR : Rw w T G f (w 74)) {b : Int}
    (hb : BN (fun j => f ((w 74 - 1 + 1) * 33 + j)) (fun j => fits_ w (w 74 - 1) (po T G j - po T G s)) (max (s + 1) (fst_ w G (w 74 - 1 + 1))) (lst_ w G (w 74 - 1 + 1)) b) :
    (b = -1 ∧ ¬ fits_ w (w 74 - 1) (T - po T G s)) ∨ (b = G ∧ fits_ w (w 74 - 1) (T - po T G s) ∧ f ((w 74 - 1 + 1) * 33 + b) = 0) := by
  have hi := h.1
  have e0 : w 74 - 1 + 1 = w 74 := by omega
  have e1 : fst_ w G (w 74) = G := if_neg (by omega)
  have e2 : lst_ w G (w 74) = G := by rw [lst_in (by omega)]; omega
  have e3 : po T G G = T := by unfold po; exact Int.mul_ediv_cancel_left _ (by omega)
  unfold Rw at hR
  rw [if_pos rfl] at hR
  rw [e0, e1, e2, show max (s + 1) G = G by omega] at hb
  rw [e0]
  rcases hb with ⟨hb0, hb1⟩ | ⟨hb0, hb1, hb2, hb3, -, -⟩
  · refine Or.inl ⟨hb0, fun q => ?_⟩
    have := hb1 G (Int.le_refl _) (Int.le_refl _) (by show fits_ w (w 74 - 1) (po T G G - po T G s); rw [e3]; exact q)
    have h2 : f (w 74 * 33 + G) = -1 := this
    omega
  · have eb : b = G := by omega
    subst eb
    refine Or.inr ⟨rfl, ?_, hR⟩
    have : fits_ w (w 74 - 1) (po T b b - po T b s) := hb2
    rwa [e3] at this
/-- a mark without a way: none from the first mark on -/
theorem none_up {w : Int → Int} (h : Inv w) {T G : Int} : ∀ m : Nat, (m : Int) < w 74 → (∀ j, (m : Int) ≤ j → j < G → bst w T G (w 74 - 1 - (m : Int)).toNat j = FAR) → 1 ≤ G → bst w T G (w 74 - 1).toNat 0 = FAR
  | 0, hm, hz, hG => by
    have := hz 0 (by omega) (by omega)
    rwa [show w 74 - 1 - ((0 : Nat) : Int) = w 74 - 1 by omega] at this
  | m + 1, hm, hz, hG => by
    refine none_up h m (by omega) (fun j h0 h1 => ?_) hG
    have e1 : (w 74 - 1 - (m : Int)).toNat = (w 74 - 1 - ((m + 1 : Nat) : Int)).toNat + 1 := by omega
    rw [e1]
    unfold bst own_
    rw [if_pos]
    refine mnf_far _ (fun i i0 i1 => ?_)
    show FAR ≤ if _ then bst w T G (w 74 - 1 - ((m + 1 : Nat) : Int)).toNat i else FAR
    split
    · rw [hz i (by omega) (by omega)]; exact Int.le_refl _
    · exact Int.le_refl _
end
section
/-! steps of the walk for the next step, and what a row of sums becomes -/
theorem sc_self (σ : Nat → Int → Int) (c : Nat) : sc σ c (σ c) = σ := by
  funext d
  by_cases h : d = c
  · subst h; exact sc_s _ _ _
  · exact sc_d _ _ h
theorem BN_exit {S : Int → Int} {F : Int → Prop} {lo hi i b : Int} (h : BN S F lo (i - 1) b) (h1 : hi < i) (h2 : i ≤ max lo (hi + 1)) : BN S F lo hi b := by
  rcases h with ⟨a1, a2⟩ | ⟨a1, a2, a3, a4, a5, a6⟩
  · exact Or.inl ⟨a1, fun j j0 j1 => a2 j j0 (by omega)⟩
  · exact Or.inr ⟨a1, by omega, a3, a4, fun j j0 j1 => a5 j j0 (by omega), a6⟩
theorem BN_cut {S : Int → Int} {F : Int → Prop} {lo hi i b : Int} (h : BN S F lo (i - 1) b) (h1 : i ≤ hi) (h2 : ∀ j, i ≤ j → ¬ F j) : BN S F lo hi b := by
  rcases h with ⟨a1, a2⟩ | ⟨a1, a2, a3, a4, a5, a6⟩
  · exact Or.inl ⟨a1, fun j j0 j1 f => by
      rcases Int.lt_or_le j i with q | q
      · exact a2 j j0 (by omega) f
      · exact absurd f (h2 j q)⟩
  · exact Or.inr ⟨a1, by omega, a3, a4, fun j j0 j1 f => by
      rcases Int.lt_or_le j i with q | q
      · exact a5 j j0 (by omega) f
      · exact absurd f (h2 j q), a6⟩
theorem BN_skip {S : Int → Int} {F : Int → Prop} {lo i b : Int} (h : BN S F lo (i - 1) b) (h2 : F i → S i = -1) : BN S F lo (i + 1 - 1) b := by
  rcases h with ⟨a1, a2⟩ | ⟨a1, a2, a3, a4, a5, a6⟩
  · exact Or.inl ⟨a1, fun j j0 j1 f => by
      by_cases q : j = i
      · rw [q] at f ⊢; exact h2 f
      · exact a2 j j0 (by omega) f⟩
  · exact Or.inr ⟨a1, by omega, a3, a4, fun j j0 j1 f s => by
      by_cases q : j = i
      · rw [q] at f s; exact absurd (h2 f) s
      · exact a5 j j0 (by omega) f s, a6⟩
theorem BN_take {S : Int → Int} {F : Int → Prop} {lo i b : Int} (h : BN S F lo (i - 1) b) (hl : lo ≤ i) (f : F i) (s : S i ≠ -1) (h2 : b = -1 ∨ S i < S b) (hlo : 0 ≤ lo) : BN S F lo (i + 1 - 1) i := by
  rcases h with ⟨a1, a2⟩ | ⟨a1, a2, a3, a4, a5, a6⟩
  · exact Or.inr ⟨hl, by omega, f, s, fun j j0 j1 fj sj => by
      by_cases q : j = i
      · rw [q]; exact Int.le_refl _
      · exact absurd (a2 j j0 (by omega) fj) sj, fun j j0 j1 fj sj => absurd (a2 j j0 (by omega) fj) sj⟩
  · have hlt : S i < S b := by
      rcases h2 with q | q
      · omega
      · exact q
    exact Or.inr ⟨hl, by omega, f, s, fun j j0 j1 fj sj => by
      by_cases q : j = i
      · rw [q]; exact Int.le_refl _
      · have := a5 j j0 (by omega) fj sj; omega, fun j j0 j1 fj sj => by have := a5 j j0 (by omega) fj sj; omega⟩
theorem BN_keep {S : Int → Int} {F : Int → Prop} {lo i b : Int} (h : BN S F lo (i - 1) b) (hb : b ≠ -1) (h2 : S b ≤ S i) : BN S F lo (i + 1 - 1) b := by
  rcases h with ⟨a1, a2⟩ | ⟨a1, a2, a3, a4, a5, a6⟩
  · exact absurd a1 hb
  · exact Or.inr ⟨a1, by omega, a3, a4, fun j j0 j1 fj sj => by
      by_cases q : j = i
      · rw [q]; exact h2
      · exact a5 j j0 (by omega) fj sj, a6⟩
theorem BN_rng {S : Int → Int} {F : Int → Prop} {lo hi b : Int} (h : BN S F lo hi b) : b = -1 ∨ (lo ≤ b ∧ b ≤ hi) := h.elim (fun q => Or.inl q.1) (fun q => Or.inr ⟨q.1, q.2.1⟩)
theorem Rw_congr {w : Int → Int} {T G : Int} {f g : Int → Int} {m : Int} (hG : 1 ≤ G ∧ G ≤ 32) (hm : 0 ≤ m ∧ m ≤ w 74) (h : ∀ i, m * 33 ≤ i → i < m * 33 + 33 → f i = g i) (hR : Rw w T G f m) : Rw w T G g m := by
  unfold Rw at hR ⊢
  by_cases q : m = w 74
  · rw [if_pos q] at hR ⊢
    rw [← h _ (by omega) (by omega)]; exact hR
  · rw [if_neg q] at hR ⊢
    intro j j0 j1
    have hj : j ≤ G := by
      by_cases z : m = 0
      · rw [z] at j1; unfold lst_ at j1; rw [if_pos rfl] at j1; omega
      · rw [lst_in (by omega)] at j1; omega
    rw [← h _ (by omega) (by omega)]
    exact hR j j0 j1
/-- what can be read of the row behind a mark -/
theorem Rw_rng {w : Int → Int} (h : Inv w) {T G : Int} (hT : 0 ≤ T ∧ T ≤ 200000) (hG : 1 ≤ G ∧ G ≤ 32) {f : Int → Int} {m : Int} (hm : 0 ≤ m ∧ m < w 74) (hR : Rw w T G f (m + 1)) {j lo : Int} (h0 : max lo (fst_ w G (m + 1)) ≤ j) (h1 : j ≤ lst_ w G (m + 1)) : -1 ≤ f ((m + 1) * 33 + j) ∧ f ((m + 1) * 33 + j) ≤ 204800000 := by
  have hi := h.1
  rw [lst_in (by omega)] at h1
  unfold Rw at hR
  unfold fst_ at h0
  by_cases q : m + 1 = w 74
  · rw [if_neg (by omega)] at h0
    rw [if_pos q] at hR
    rw [show j = G by omega, hR]
    omega
  · rw [if_pos (by omega)] at h0
    rw [if_neg q] at hR
    rw [hR j (by omega) (by rw [lst_in (by omega)]; exact h1)]
    have := cv_in h hT hG.1 (d := (w 74 - 1 - (m + 1)).toNat) (s := j) (by omega) (by omega) (by omega)
    omega
/-- the sum from a mark at a step on, by the step that was found behind it -/
theorem fill_val {w : Int → Int} (h : Inv w) {T G m s : Int} (hT : 0 ≤ T ∧ T ≤ 200000) (hG : 1 ≤ G ∧ G ≤ 32) (hm : 0 ≤ m ∧ m < w 74) (hs : m ≤ s ∧ s < G) {f : Int → Int} (hR : Rw w T G f (m + 1)) {b : Int}
    (hb : BN (fun j => f ((m + 1) * 33 + j)) (fun j => fits_ w m (po T G j - po T G s)) (max (s + 1) (fst_ w G (m + 1))) (lst_ w G (m + 1)) b) :
    (b = -1 ∧ bst w T G (w 74 - 1 - m).toNat s = FAR) ∨ (s < b ∧ b ≤ G ∧ bst w T G (w 74 - 1 - m).toNat s = f ((m + 1) * 33 + b) + of_ w T G m s ∧ bst w T G (w 74 - 1 - m).toNat s ≠ FAR ∧ 0 ≤ f ((m + 1) * 33 + b) ∧ f ((m + 1) * 33 + b) ≤ 204800000) := by
  have hi := h.1
  have ho := of_in h hT hG.1 hm.1 (show 0 ≤ s ∧ s ≤ G by omega)
  have hf : FAR = 1152921504606846976 := rfl
  by_cases q : m + 1 = w 74
  · have em : m = w 74 - 1 := by omega
    subst em
    rw [show (w 74 - 1 - (w 74 - 1)).toNat = 0 by omega]
    rw [show w 74 - 1 + 1 = w 74 by omega] at hR
    have hbs : ∀ c : Prop, ∀ _ : Decidable c, True := fun _ _ => trivial
    rcases nx_last h hG (by omega) hR hb with ⟨z1, z2⟩ | ⟨z1, z2, z3⟩
    · refine Or.inl ⟨z1, ?_⟩
      show own_ w T G (w 74 - 1) s _ = FAR
      unfold own_
      rw [if_pos]
      exact if_neg z2
    · refine Or.inr ⟨by omega, by omega, ?_, ?_, by omega, by omega⟩
      · show own_ w T G (w 74 - 1) s _ = _
        rw [show (if ln w (w 74 - 1) * w 4 / 100 ≤ T - po T G s ∧ T - po T G s ≤ ln w (w 74 - 1) * w 5 / 100 then (0 : Int) else FAR) = 0 from if_pos z2]
        unfold own_
        rw [if_neg (by omega), z3]
      · show own_ w T G (w 74 - 1) s _ ≠ FAR
        rw [show (if ln w (w 74 - 1) * w 4 / 100 ≤ T - po T G s ∧ T - po T G s ≤ ln w (w 74 - 1) * w 5 / 100 then (0 : Int) else FAR) = 0 from if_pos z2]
        unfold own_
        rw [if_neg (by omega)]
        omega
  · have e1 : (w 74 - 1 - m).toNat = (w 74 - 2 - m).toNat + 1 := by omega
    have e2 : w 74 - 1 - ((((w 74 - 2 - m).toNat : Nat) : Int) + 1) = m := by omega
    have hu : bst w T G (w 74 - 1 - m).toNat s = own_ w T G m s (raw_ w T G m (bst w T G (w 74 - 2 - m).toNat) s) := by
      rw [e1]
      show own_ w T G (w 74 - 1 - ((((w 74 - 2 - m).toNat : Nat) : Int) + 1)) _ (raw_ w T G (w 74 - 1 - ((((w 74 - 2 - m).toNat : Nat) : Int) + 1)) _ _) = _
      rw [e2]
    rw [hu]
    unfold own_
    rcases nx_in h hT hG (by omega) hs hR hb with ⟨z1, z2⟩ | ⟨z1, z2, z3, z4, z5, z6, z7, z8⟩
    · exact Or.inl ⟨z1, if_pos z2⟩
    · have hz := Rw_rng h hT hG hm hR (j := b) (lo := s + 1) (by
        rcases BN_rng hb with y | y
        · omega
        · exact y.1) z3
      refine Or.inr ⟨z1, by omega, ?_, ?_, z6, hz.2⟩
      · rw [z4, if_neg (by omega)]
      · rw [z4, if_neg (by omega)]
        omega
def Ready (σ : Nat → Int → Int) (T G : Int) : Prop := Ms σ T G ∧ ∀ m, 0 ≤ m → m ≤ σ 0 74 → Rw (σ 0) T G (σ 17) m
theorem bst_small {w : Int → Int} (h : Inv w) {T G : Int} (hG : 1 ≤ G) (hk : G < w 74) : bst w T G (w 74 - 1).toNat 0 = FAR := by
  have hi := h.1
  exact bst_out _ _ (by omega) (by omega)
theorem none_row {w : Int → Int} (h : Inv w) {T G m : Int} (hG : 1 ≤ G) (hm : 0 ≤ m ∧ m < w 74) (hz : ¬ ∃ j, m ≤ j ∧ j ≤ lst_ w G m ∧ bst w T G (w 74 - 1 - m).toNat j ≠ FAR) : bst w T G (w 74 - 1).toNat 0 = FAR := by
  have hi := h.1
  have hz' : ∀ j, m ≤ j → j ≤ lst_ w G m → bst w T G (w 74 - 1 - m).toNat j = FAR := fun j j0 j1 => Classical.byContradiction fun q => hz ⟨j, j0, j1, q⟩
  by_cases q : m = 0
  · have := hz' 0 (by omega) (by unfold lst_; rw [if_pos q]; omega)
    rw [q] at this
    rwa [show w 74 - 1 - 0 = w 74 - 1 by omega] at this
  · have := none_up h (T := T) (G := G) m.toNat (by omega) (fun j j0 j1 => by
      rw [show ((m.toNat : Nat) : Int) = m by omega]
      rcases Int.lt_or_le (lst_ w G m) j with z | z
      · rw [lst_in (by omega)] at z
        exact bst_out _ _ (by omega) (by omega)
      · exact hz' j (by omega) z) hG
    exact this
theorem lst_ge {w : Int → Int} {G m : Int} (hm : 0 ≤ m ∧ m < w 74) (hG : w 74 ≤ G) : m ≤ lst_ w G m ∧ lst_ w G m < G := by
  unfold lst_
  split <;> omega
/-- along the steps that are taken, the next one is the one that is found -/
theorem draw_next {w : Int → Int} (h : Inv w) {T G : Int} (hT : 0 ≤ T ∧ T ≤ 200000) (hG : 1 ≤ G ∧ G ≤ 32) (hc : can_ w T G) {m : Int} (hm : 0 ≤ m ∧ m < w 74) {f : Int → Int} (hR : Rw w T G f (m + 1)) {b : Int}
    (hb : BN (fun j => f ((m + 1) * 33 + j)) (fun j => fits_ w m (po T G j - po T G (stp w T G m))) (max (stp w T G m + 1) (fst_ w G (m + 1))) (lst_ w G (m + 1)) b) : b = stp w T G (m + 1) := by
  have hi := h.1
  have hk := stq_ok h hT hG.1 hc m.toNat (by omega)
  have es : stp w T G m = stq w T G m.toNat := if_pos hm.2
  rw [es] at hb
  have em : ((m.toNat : Nat) : Int) = m := by omega
  rw [em] at hk
  by_cases q : m + 1 = w 74
  · have e2 : m = w 74 - 1 := by omega
    have hR' : Rw w T G f (w 74) := by rw [← q]; exact hR
    have eG : stp w T G (m + 1) = G := if_neg (by omega)
    rw [eG]
    have hfv := fill_val h hT hG hm (s := stq w T G m.toNat) (by omega) hR hb
    generalize stq w T G m.toNat = s0 at hk hb hfv
    have hb' := hb
    rw [e2] at hb'
    rcases nx_last h hG (by omega) hR' hb' with ⟨z1, z2⟩ | ⟨z1, z2, z3⟩
    · rcases hfv with ⟨y1, y2⟩ | ⟨y1, y2, y3, y4, y5, y6⟩
      · exact absurd y2 (by omega)
      · omega
    · exact z1
  · have eS : stp w T G (m + 1) = stq w T G (m + 1).toNat := if_pos (by omega)
    rw [eS, show (m + 1).toNat = m.toNat + 1 by omega]
    rcases nx_in h hT hG (by omega) (s := stq w T G m.toNat) (by omega) hR hb with ⟨z1, z2⟩ | ⟨z1, z2, z3, z4, z5, z6, z7, z8⟩
    · have hn := (stq_next h hT hG.1 hc m.toNat (by omega))
      rw [em] at hn
      have := hn.2.2.1
      have hlt := stq_ok h hT hG.1 hc (m.toNat + 1) (by omega)
      have e5 : w 74 - 1 - ((m.toNat + 1 : Nat) : Int) = w 74 - 2 - m := by omega
      rw [e5] at hlt
      omega
    · rw [z8]
      show _ = argm _ _ _
      rw [em]
end
section
/-! the program: its grid (rows laid by wip/gen) -/
theorem iX0_firstStepOf_X0 : ∀ w ∈ wsX00, w ∈ wsX0_firstStepOf := fun _ h => List.mem_cons_of_mem _ (List.mem_append_left _ (List.mem_append_right _ h))
theorem iX0_firstStepOf_X2 : ∀ w ∈ wsX20, w ∈ wsX0_firstStepOf := fun _ h => List.mem_cons_of_mem _ (List.mem_append_right _ h)
set_option maxHeartbeats 4000000 in
set_option maxRecDepth 100000 in
theorem mX0_firstStepOf (l : Launch) (G : va_G) (cx a : Nat → Nat) (σ : Nat → Int → Int)  (x : Int) (hx : 0 ≤ x ∧ x ≤ 16) (hI : Inv (σ 0)) : Met l yX0_firstStepOf wsX0_firstStepOf ({ frames := 0, cells := 0, slots := 0, locals := 0 }) (va_Pc [.ref (a 8), .int (iI x)] (gW G (tx cx) (XA a) (wx cx a) σ)) (va_Qi (fun r u => σ = u ∧ iI (fst_ (σ 0) (σ 21 1) x) = r) (gW G (tx cx) (XA a) (wx cx a)) (XA a)) 0 0 (XA a) := by
  refine Met.ofW (cc := cX0_firstStepOf) (maxL := 2) (ret := some .int) (by decide) rfl ?_
  intro p e s m args below meth c s₁ B hml hv
  obtain ⟨rfl, hP, hK, hD⟩ := hv
  have hex := B.exec
  have hbc := B.bytes
  have hrt := B.returns
  have hts := atoms_spec (ws := wsX0_firstStepOf) B.pre
  have hown : s.vm.findClass RX0 = some m.cls := findClass_of_methodNamed B.named
  have hlocks := B.notSynchronized
  have hS : va_S (XA a) s.heap s.heap [] := va_S.rf
  have hin0 := iX0_firstStepOf_X0
  have hin2 := iX0_firstStepOf_X2
  have hl := lv_entry ([.ref (a 8), .int (iI x)]) (n := 2) (Nat.le_of_ble_eq_true rfl)
  rw [lg_entry_eq]
  generalize (lg_sl ([.ref (a 8), .int (iI x)]) ++ List.replicate (2 - (lg_sl ([.ref (a 8), .int (iI x)])).length) Slot.unset).toArray = ls at hl ⊢
  have hl : lv_has ls 2 [(0, .ref (a 8)), (1, .int (iI x))] := hl
  obtain ⟨hB, hEn, hMk, hAs, hPm⟩ := id hI
  refine lv_iload_n hex hbc dX0_firstStepOf_0 rfl (lv_at hl 1 rfl) ?_
  refine lv_aload_n hex hbc dX0_firstStepOf_1 rfl (lv_at hl 0 rfl) ?_
  refine va_get (v := .ref (a 3)) hex hbc hts hin0 hown hK hP 8 rfl rfl 0 (by decide) (hts _ (List.mem_of_getElem? (i := 1) rfl)) (fun _ h => h) rfl dX0_firstStepOf_2 ?_
  refine va_get (v := .int (iI (σ 0 74))) hex hbc hts hin2 hown hK hP 3 rfl rfl 1 (by decide) (hts _ (List.mem_of_getElem? (i := 2) rfl)) (fun _ h => h) rfl dX0_firstStepOf_5 ?_
  refine zt_icmp_ge (a := x) (b := (σ 0 74)) (tgt := 15) hex hbc (by omega) dX0_firstStepOf_8 (by decide) (fun c8 => ?_) (fun c8 => ?_)
  · skip
    refine lv_aload_n hex hbc dX0_firstStepOf_15 rfl (lv_at hl 0 rfl) ?_
    refine va_get (v := .int (iI (σ 21 1))) hex hbc hts hin0 hown hK hP 8 rfl rfl 2 (by decide) (hts _ (List.mem_of_getElem? (i := 3) rfl)) (fun _ h => h) rfl dX0_firstStepOf_16 ?_
    exact g_iret hex hbc hrt hlocks hK hP hD hS ⟨rfl, congrArg iI (by unfold fst_; first | exact if_pos (by omega) | exact if_neg (by omega))⟩ dX0_firstStepOf_19
  · skip
    refine lv_iload_n hex hbc dX0_firstStepOf_11 rfl (lv_at hl 1 rfl) ?_
    refine lv_goto (tgt := 19) hex hbc dX0_firstStepOf_12 (by decide) ?_
    exact g_iret hex hbc hrt hlocks hK hP hD hS ⟨rfl, congrArg iI (by unfold fst_; first | exact if_pos (by omega) | exact if_neg (by omega))⟩ dX0_firstStepOf_19
theorem iX0_lastStepOf_X0 : ∀ w ∈ wsX00, w ∈ wsX0_lastStepOf := fun _ h => List.mem_cons_of_mem _ (List.mem_append_left _ (List.mem_append_right _ h))
theorem iX0_lastStepOf_X2 : ∀ w ∈ wsX20, w ∈ wsX0_lastStepOf := fun _ h => List.mem_cons_of_mem _ (List.mem_append_right _ h)
set_option maxHeartbeats 4000000 in
set_option maxRecDepth 100000 in
theorem mX0_lastStepOf (l : Launch) (G : va_G) (cx a : Nat → Nat) (σ : Nat → Int → Int)  (x : Int) (hx : 0 ≤ x ∧ x ≤ 16) (hI : Inv (σ 0)) : Met l yX0_lastStepOf wsX0_lastStepOf ({ frames := 0, cells := 0, slots := 0, locals := 0 }) (va_Pc [.ref (a 8), .int (iI x)] (gW G (tx cx) (XA a) (wx cx a) σ)) (va_Qi (fun r u => σ = u ∧ iI (lst_ (σ 0) (σ 21 1) x) = r) (gW G (tx cx) (XA a) (wx cx a)) (XA a)) 0 0 (XA a) := by
  refine Met.ofW (cc := cX0_lastStepOf) (maxL := 2) (ret := some .int) (by decide) rfl ?_
  intro p e s m args below meth c s₁ B hml hv
  obtain ⟨rfl, hP, hK, hD⟩ := hv
  have hex := B.exec
  have hbc := B.bytes
  have hrt := B.returns
  have hts := atoms_spec (ws := wsX0_lastStepOf) B.pre
  have hown : s.vm.findClass RX0 = some m.cls := findClass_of_methodNamed B.named
  have hlocks := B.notSynchronized
  have hS : va_S (XA a) s.heap s.heap [] := va_S.rf
  have hin0 := iX0_lastStepOf_X0
  have hin2 := iX0_lastStepOf_X2
  have hl := lv_entry ([.ref (a 8), .int (iI x)]) (n := 2) (Nat.le_of_ble_eq_true rfl)
  rw [lg_entry_eq]
  generalize (lg_sl ([.ref (a 8), .int (iI x)]) ++ List.replicate (2 - (lg_sl ([.ref (a 8), .int (iI x)])).length) Slot.unset).toArray = ls at hl ⊢
  have hl : lv_has ls 2 [(0, .ref (a 8)), (1, .int (iI x))] := hl
  obtain ⟨hB, hEn, hMk, hAs, hPm⟩ := id hI
  refine lv_iload_n hex hbc dX0_lastStepOf_0 rfl (lv_at hl 1 rfl) ?_
  refine zt_if_ne (a := x) (tgt := 8) hex hbc (by omega) dX0_lastStepOf_1 (by decide) (fun c1 => ?_) (fun c1 => ?_)
  · skip
    refine lv_aload_n hex hbc dX0_lastStepOf_8 rfl (lv_at hl 0 rfl) ?_
    refine va_get (v := .int (iI (σ 21 1))) hex hbc hts hin0 hown hK hP 8 rfl rfl 2 (by decide) (hts _ (List.mem_of_getElem? (i := 1) rfl)) (fun _ h => h) rfl dX0_lastStepOf_9 ?_
    refine lv_aload_n hex hbc dX0_lastStepOf_12 rfl (lv_at hl 0 rfl) ?_
    refine va_get (v := .ref (a 3)) hex hbc hts hin0 hown hK hP 8 rfl rfl 0 (by decide) (hts _ (List.mem_of_getElem? (i := 2) rfl)) (fun _ h => h) rfl dX0_lastStepOf_13 ?_
    refine va_get (v := .int (iI (σ 0 74))) hex hbc hts hin2 hown hK hP 3 rfl rfl 1 (by decide) (hts _ (List.mem_of_getElem? (i := 3) rfl)) (fun _ h => h) rfl dX0_lastStepOf_16 ?_
    refine lv_iload_n hex hbc dX0_lastStepOf_19 rfl (lv_at hl 1 rfl) ?_
    refine zt_isub hex hbc dX0_lastStepOf_20 ?_
    refine zt_isub hex hbc dX0_lastStepOf_21 ?_
    exact g_iret hex hbc hrt hlocks hK hP hD hS ⟨rfl, congrArg iI (by unfold lst_; first | exact if_pos (by omega) | exact if_neg (by omega))⟩ dX0_lastStepOf_22
  · skip
    refine lv_iconst (v := iI 0) hex hbc dX0_lastStepOf_4 rfl ?_
    refine lv_goto (tgt := 22) hex hbc dX0_lastStepOf_5 (by decide) ?_
    exact g_iret hex hbc hrt hlocks hK hP hD hS ⟨rfl, congrArg iI (by unfold lst_; first | exact if_pos (by omega) | exact if_neg (by omega))⟩ dX0_lastStepOf_22
theorem iX0_distance_X0 : ∀ w ∈ wsX00, w ∈ wsX0_distance := fun _ h => List.mem_cons_of_mem _ (List.mem_append_left _ (List.mem_append_right _ h))
theorem iX0_distance_X2 : ∀ w ∈ wsX20, w ∈ wsX0_distance := fun _ h => List.mem_cons_of_mem _ (List.mem_append_right _ h)
set_option maxHeartbeats 4000000 in
set_option maxRecDepth 100000 in
theorem mX0_distance (l : Launch) (G : va_G) (cx a : Nat → Nat) (σ : Nat → Int → Int) (T0 : Int) (G0 : Int) (x1 : Int) (x2 : Int) (h1 : 0 ≤ x1 ∧ x1 < σ 0 74) (h2 : 0 ≤ x2 ∧ x2 ≤ G0) (hTG : (1 ≤ T0 ∧ T0 ≤ 200000) ∧ (1 ≤ G0 ∧ G0 ≤ 32) ∧ σ 0 74 ≤ G0) (hM : Ms σ T0 G0) (hI : Inv (σ 0)) : Met l yX0_distance wsX0_distance ({ frames := 1, cells := 0, slots := 0, locals := 30 }) (va_Pc [.ref (a 8), .int (iI x1), .int (iI x2)] (gW G (tx cx) (XA a) (wx cx a) σ)) (va_Qi (fun r u => σ = u ∧ iI (of_ (σ 0) T0 G0 x1 x2) = r) (gW G (tx cx) (XA a) (wx cx a)) (XA a)) 0 0 (XA a) := by
  refine Met.ofW (cc := cX0_distance) (maxL := 3) (ret := some .int) (by decide) rfl ?_
  intro p e s m args below meth c s₁ B hml hv
  obtain ⟨rfl, hP, hK, hD⟩ := hv
  have hex := B.exec
  have hbc := B.bytes
  have hrt := B.returns
  have hts := atoms_spec (ws := wsX0_distance) B.pre
  have hown : s.vm.findClass RX0 = some m.cls := findClass_of_methodNamed B.named
  have hlocks := B.notSynchronized
  have hS : va_S (XA a) s.heap s.heap [] := va_S.rf
  have hin0 := iX0_distance_X0
  have hin2 := iX0_distance_X2
  have hl := lv_entry ([.ref (a 8), .int (iI x1), .int (iI x2)]) (n := 3) (Nat.le_of_ble_eq_true rfl)
  rw [lg_entry_eq]
  generalize (lg_sl ([.ref (a 8), .int (iI x1), .int (iI x2)]) ++ List.replicate (3 - (lg_sl ([.ref (a 8), .int (iI x1), .int (iI x2)])).length) Slot.unset).toArray = ls at hl ⊢
  have hl : lv_has ls 3 [(0, .ref (a 8)), (1, .int (iI x1)), (2, .int (iI x2))] := hl
  obtain ⟨hB, hEn, hMk, hAs, hPm⟩ := id hI
  obtain ⟨hM1, hM2, hM3, hM4, hM5⟩ := id hM
  have hpo := po_in (T := T0) (G := G0) (i := x2) (by omega) hTG.2.1.1 h2
  have hfr := hI.fr_in h1.1
  have hm1 := mulb (a := po T0 G0 x2) (b := σ 0 0) (A := 200000) (B := 64) (by omega) (by omega) (by omega) (by omega)
  have hm2 := mulb (a := fr (σ 0) x1) (b := T0) (A := 64) (B := 200000) (by omega) (by omega) (by omega) (by omega)
  refine lv_aload_n hex hbc dX0_distance_0 rfl (lv_at hl 0 rfl) ?_
  refine va_get (v := .ref (a 9)) hex hbc hts hin0 hown hK hP 8 rfl rfl 3 (by decide) (hts _ (List.mem_of_getElem? (i := 1) rfl)) (fun _ h => h) rfl dX0_distance_1 ?_
  refine lv_iload_n hex hbc dX0_distance_4 rfl (lv_at hl 2 rfl) ?_
  refine g_iald (f := (σ 14)) (v := (σ 14 x2)) (i := x2) hex hbc hK hP 9 0 rfl rfl (by decide) (by omega) rfl dX0_distance_5 ?_
  refine zt_nm (a := (σ 14 x2)) (b := (po T0 G0 x2)) (hM3 x2 h2.1 h2.2) ?_
  refine lv_aload_n hex hbc dX0_distance_6 rfl (lv_at hl 0 rfl) ?_
  refine va_get (v := .ref (a 3)) hex hbc hts hin0 hown hK hP 8 rfl rfl 0 (by decide) (hts _ (List.mem_of_getElem? (i := 2) rfl)) (fun _ h => h) rfl dX0_distance_7 ?_
  refine va_get (v := .int (iI (σ 0 0))) hex hbc hts hin2 hown hK hP 3 rfl rfl 0 (by decide) (hts _ (List.mem_of_getElem? (i := 3) rfl)) (fun _ h => h) rfl dX0_distance_10 ?_
  refine zt_imul hex hbc dX0_distance_13 ?_
  refine lv_aload_n hex hbc dX0_distance_14 rfl (lv_at hl 0 rfl) ?_
  refine va_get (v := .ref (a 3)) hex hbc hts hin0 hown hK hP 8 rfl rfl 0 (by decide) (hts _ (List.mem_of_getElem? (i := 2) rfl)) (fun _ h => h) rfl dX0_distance_15 ?_
  refine va_get (v := .ref (a 6)) hex hbc hts hin2 hown hK hP 3 rfl rfl 4 (by decide) (hts _ (List.mem_of_getElem? (i := 4) rfl)) (fun _ h => h) rfl dX0_distance_18 ?_
  refine lv_iload_n hex hbc dX0_distance_21 rfl (lv_at hl 1 rfl) ?_
  refine g_iald (f := (fun k => (σ 0 (75 + k)))) (v := (σ 0 (75 + x1))) (i := x1) hex hbc hK hP 6 0 rfl rfl (by decide) (by omega) rfl dX0_distance_22 ?_
  refine zt_nm (a := (σ 0 (75 + x1))) (b := (fr (σ 0) x1)) (fr_lt h1.2).symm ?_
  refine lv_aload_n hex hbc dX0_distance_23 rfl (lv_at hl 0 rfl) ?_
  refine va_get (v := .int (iI (σ 21 0))) hex hbc hts hin0 hown hK hP 8 rfl rfl 1 (by decide) (hts _ (List.mem_of_getElem? (i := 5) rfl)) (fun _ h => h) rfl dX0_distance_24 ?_
  refine zt_nm (a := (σ 21 0)) (b := T0) hM1 ?_
  refine zt_imul hex hbc dX0_distance_27 ?_
  refine zt_isub hex hbc dX0_distance_28 ?_
  refine va_mabs hex hbc (hml.trans hl.1.symm) hown (hts _ (List.mem_of_getElem? (i := 6) rfl)) (hts _ (List.mem_of_getElem? (i := 7) rfl)) (hts _ (List.mem_of_getElem? (i := 8) rfl)) (hts _ (List.mem_of_getElem? (i := 9) rfl)) (Nat.le_of_ble_eq_true rfl) (Nat.le_of_ble_eq_true rfl) (Nat.zero_le _) (Nat.zero_le _) dX0_distance_29 ?_
  rw [iI_abs (a := (((po T0 G0 x2) * (σ 0 0)) - ((fr (σ 0) x1) * T0))) (by omega)]
  exact g_iret hex hbc hrt hlocks hK hP hD hS ⟨rfl, rfl⟩ dX0_distance_32
theorem iX0_bestNext_X0 : ∀ w ∈ wsX00, w ∈ wsX0_bestNext := fun _ h => List.mem_cons_of_mem _ (List.mem_append_left _ (List.mem_append_right _ h))
set_option maxHeartbeats 4000000 in
set_option maxRecDepth 100000 in
theorem mX0_bestNext (l : Launch) (G : va_G) (cx a : Nat → Nat) (σ : Nat → Int → Int) (T0 : Int) (G0 : Int) (x1 : Int) (x2 : Int) (h1 : 0 ≤ x1 ∧ x1 < σ 0 74) (h2 : x1 ≤ x2 ∧ x2 < G0) (hTG : (1 ≤ T0 ∧ T0 ≤ 200000) ∧ (1 ≤ G0 ∧ G0 ≤ 32) ∧ σ 0 74 ≤ G0) (hM : Ms σ T0 G0) (hSr : ∀ j, (max (x2 + 1) (fst_ (σ 0) G0 (x1 + 1))) ≤ j → j ≤ (lst_ (σ 0) G0 (x1 + 1)) → -1 ≤ σ 17 ((x1 + 1) * 33 + j) ∧ σ 17 ((x1 + 1) * 33 + j) ≤ 204800000) (hI : Inv (σ 0)) : Met l yX0_bestNext wsX0_bestNext ({ frames := 1, cells := 0, slots := 0, locals := 30 }) (va_Pc [.ref (a 8), .int (iI x1), .int (iI x2)] (gW G (tx cx) (XA a) (wx cx a) σ)) (va_Qi (fun r u => σ = u ∧ ∃ b, iI b = r ∧ BN (fun j => σ 17 ((x1 + 1) * 33 + j)) (fun j => fits_ (σ 0) x1 (po T0 G0 j - po T0 G0 x2)) (max (x2 + 1) (fst_ (σ 0) G0 (x1 + 1))) (lst_ (σ 0) G0 (x1 + 1)) b) (gW G (tx cx) (XA a) (wx cx a)) (XA a)) 0 0 (XA a) := by
  refine Met.ofW (cc := cX0_bestNext) (maxL := 9) (ret := some .int) (by decide) rfl ?_
  intro p e s m args below meth c s₁ B hml hv
  obtain ⟨rfl, hP, hK, hD⟩ := hv
  have hex := B.exec
  have hbc := B.bytes
  have hrt := B.returns
  have hts := atoms_spec (ws := wsX0_bestNext) B.pre
  have hown : s.vm.findClass RX0 = some m.cls := findClass_of_methodNamed B.named
  have hlocks := B.notSynchronized
  have hS : va_S (XA a) s.heap s.heap [] := va_S.rf
  have hin0 := iX0_bestNext_X0
  have hl := lv_entry ([.ref (a 8), .int (iI x1), .int (iI x2)]) (n := 9) (Nat.le_of_ble_eq_true rfl)
  rw [lg_entry_eq]
  generalize (lg_sl ([.ref (a 8), .int (iI x1), .int (iI x2)]) ++ List.replicate (9 - (lg_sl ([.ref (a 8), .int (iI x1), .int (iI x2)])).length) Slot.unset).toArray = ls at hl ⊢
  have hl : lv_has ls 9 [(0, .ref (a 8)), (1, .int (iI x1)), (2, .int (iI x2))] := hl
  obtain ⟨hB, hEn, hMk, hAs, hPm⟩ := id hI
  obtain ⟨hM1, hM2, hM3, hM4, hM5⟩ := id hM
  have hln := hI.ln_in h1.1 h1.2
  have hm4 := mulb (a := ln (σ 0) x1) (b := σ 0 4) (A := 64000) (B := 100) (by omega) (by omega) (by omega) (by omega)
  have hm5 := mulb (a := ln (σ 0) x1) (b := σ 0 5) (A := 64000) (B := 1000) (by omega) (by omega) (by omega) (by omega)
  have hp2 := po_in (T := T0) (G := G0) (i := x2) (by omega) hTG.2.1.1 (by omega)
  have hfs : x1 + 1 ≤ fst_ (σ 0) G0 (x1 + 1) ∧ fst_ (σ 0) G0 (x1 + 1) ≤ G0 := by unfold fst_; split <;> omega
  have hls : lst_ (σ 0) G0 (x1 + 1) = G0 - (σ 0 74 - (x1 + 1)) := lst_in (by omega)
  refine lv_iload_n hex hbc dX0_bestNext_0 rfl (lv_at hl 1 rfl) ?_
  refine lv_iconst (v := iI 1) hex hbc dX0_bestNext_1 rfl ?_
  refine zt_iadd hex hbc dX0_bestNext_2 ?_
  refine lv_bipush (v := iI 33) hex hbc dX0_bestNext_3 (by decide) ?_
  refine zt_imul hex hbc dX0_bestNext_5 ?_
  refine lv_istore_n (lv' := [(3, .int (iI ((x1 + 1) * 33))), (0, .ref (a 8)), (1, .int (iI x1)), (2, .int (iI x2))]) hex hbc dX0_bestNext_6 rfl hl (by decide) rfl (fun ls hl => ?_)
  refine lv_iconst (v := iI (-1)) hex hbc dX0_bestNext_7 rfl ?_
  refine lv_istore (lv' := [(4, .int (iI (-1))), (3, .int (iI ((x1 + 1) * 33))), (0, .ref (a 8)), (1, .int (iI x1)), (2, .int (iI x2))]) hex hbc dX0_bestNext_8 hl (by decide) rfl (fun ls hl => ?_)
  refine lv_aload_n hex hbc dX0_bestNext_10 rfl (lv_at hl 2 rfl) ?_
  refine lv_iload_n hex hbc dX0_bestNext_11 rfl (lv_at hl 3 rfl) ?_
  refine lv_iconst (v := iI 1) hex hbc dX0_bestNext_12 rfl ?_
  refine zt_iadd hex hbc dX0_bestNext_13 ?_
  refine g_calli [.int (iI (x1 + 1))] ⟨hex, hbc, hml, hown, hts⟩ (mX0_lastStepOf l G cx a σ (x1 + 1) (by omega) hI) (cwV 1 hts gX0_bestNext_X0_lastStepOf rfl rfl rfl (by decide +kernel) ⟨Nat.le_of_ble_eq_true rfl, Nat.le_of_ble_eq_true rfl⟩) hK hP hD hS (fun _ h => h) 8 0 rfl rfl rfl rfl hl.1 (Nat.le_of_ble_eq_true rfl) dX0_bestNext_14 ⟨Nat.zero_le _, Nat.zero_le _⟩ (fun r_14 u_14 H locs hw_14 hP hD hS hz_14 hk_14 => ?_)
  obtain ⟨rfl, rfl⟩ := hw_14
  refine zt_nm (a := (lst_ (σ 0) (σ 21 1) (x1 + 1))) (b := (lst_ (σ 0) G0 (x1 + 1))) (by rw [hM2]) ?_
  refine lv_istore (lv' := [(5, .int (iI (lst_ (σ 0) G0 (x1 + 1)))), (4, .int (iI (-1))), (3, .int (iI ((x1 + 1) * 33))), (0, .ref (a 8)), (1, .int (iI x1)), (2, .int (iI x2))]) hex hbc dX0_bestNext_17 hl (by decide) rfl (fun ls hl => ?_)
  refine lv_iload_n hex hbc dX0_bestNext_19 rfl (lv_at hl 5 rfl) ?_
  refine lv_iconst (v := iI 1) hex hbc dX0_bestNext_20 rfl ?_
  refine zt_iadd hex hbc dX0_bestNext_21 ?_
  refine lv_aload_n hex hbc dX0_bestNext_22 rfl (lv_at hl 3 rfl) ?_
  refine lv_iload_n hex hbc dX0_bestNext_23 rfl (lv_at hl 4 rfl) ?_
  refine lv_iconst (v := iI 1) hex hbc dX0_bestNext_24 rfl ?_
  refine zt_iadd hex hbc dX0_bestNext_25 ?_
  refine g_calli [.int (iI (x1 + 1))] ⟨hex, hbc, hml, hown, hts⟩ (mX0_firstStepOf l G cx a σ (x1 + 1) (by omega) hI) (cwV 1 hts gX0_bestNext_X0_firstStepOf rfl rfl rfl (by decide +kernel) ⟨Nat.le_of_ble_eq_true rfl, Nat.le_of_ble_eq_true rfl⟩) hK hP hD hS (fun _ h => h) 8 0 rfl rfl rfl rfl hl.1 (Nat.le_of_ble_eq_true rfl) dX0_bestNext_26 ⟨Nat.zero_le _, Nat.zero_le _⟩ (fun r_26 u_26 H locs hw_26 hP hD hS hz_26 hk_26 => ?_)
  obtain ⟨rfl, rfl⟩ := hw_26
  refine zt_nm (a := (fst_ (σ 0) (σ 21 1) (x1 + 1))) (b := (fst_ (σ 0) G0 (x1 + 1))) (by rw [hM2]) ?_
  refine va_mmax hex hbc (hml.trans hl.1.symm) hown (hts _ (List.mem_of_getElem? (i := 1) rfl)) (hts _ (List.mem_of_getElem? (i := 2) rfl)) (hts _ (List.mem_of_getElem? (i := 3) rfl)) (hts _ (List.mem_of_getElem? (i := 4) rfl)) (Nat.le_of_ble_eq_true rfl) (Nat.le_of_ble_eq_true rfl) (Nat.zero_le _) (Nat.zero_le _) dX0_bestNext_29 ?_
  rw [iI_max (a := (x2 + 1)) (b := (fst_ (σ 0) G0 (x1 + 1))) (by omega)]
  refine lv_istore (lv' := [(6, .int (iI (max (x2 + 1) (fst_ (σ 0) G0 (x1 + 1))))), (5, .int (iI (lst_ (σ 0) G0 (x1 + 1)))), (4, .int (iI (-1))), (3, .int (iI ((x1 + 1) * 33))), (0, .ref (a 8)), (1, .int (iI x1)), (2, .int (iI x2))]) hex hbc dX0_bestNext_32 hl (by decide) rfl (fun ls hl => ?_)
  have loop_34 : ∀ (N : Nat) (i1 : Int) (b1 : Int), ((max (x2 + 1) (fst_ (σ 0) G0 (x1 + 1))) ≤ i1 ∧ i1 ≤ G0 + 1 ∧ i1 ≤ max (max (x2 + 1) (fst_ (σ 0) G0 (x1 + 1))) ((lst_ (σ 0) G0 (x1 + 1)) + 1) ∧ BN (fun j => σ 17 ((x1 + 1) * 33 + j)) (fun j => fits_ (σ 0) x1 (po T0 G0 j - po T0 G0 x2)) (max (x2 + 1) (fst_ (σ 0) G0 (x1 + 1))) (i1 - 1) b1) → (G0 + 1 - i1) < (N : Int) → ∀ (H : Heap) (locs : List Loc) (ls : Array Slot), va_P G vwCl (wx cx a σ) H → va_D (XA a) (wx cx a σ) → va_S (XA a) s.heap H locs → lv_has ls 9 [(6, .int (iI i1)), (4, .int (iI b1)), (5, .int (iI (lst_ (σ 0) G0 (x1 + 1)))), (3, .int (iI ((x1 + 1) * 33))), (0, .ref (a 8)), (1, .int (iI x1)), (2, .int (iI x2))] → W p l e (headSpec wsX0_bestNext ({ frames := 1, cells := 0, slots := 0, locals := 30 })).room s m ([.ref (a 8), .int (iI x1), .int (iI x2)] : List Value).toArray below meth c H locs 0 0 (MQ below (va_Qi (fun r u => σ = u ∧ ∃ b, iI b = r ∧ BN (fun j => σ 17 ((x1 + 1) * 33 + j)) (fun j => fits_ (σ 0) x1 (po T0 G0 j - po T0 G0 x2)) (max (x2 + 1) (fst_ (σ 0) G0 (x1 + 1))) (lst_ (σ 0) G0 (x1 + 1)) b) (gW G (tx cx) (XA a) (wx cx a)) (XA a)) ([.ref (a 8), .int (iI x1), .int (iI x2)] : List Value).toArray s 0 0 (XA a)) (F0 m 34 ls []) := by
    intro N
    induction N with
    | zero => intro i1 b1 hinv hlt; exfalso; have hz := hinv.2.1; have hz2 := hinv.1; omega
    | succ N ih_34 =>
      intro i1 b1 ⟨hi0, hi1, hi2, hbn⟩ hlt_34 H locs ls hP hD hS hl
      have hrn := BN_rng hbn
      refine lv_iload hex hbc dX0_bestNext_34 (lv_at hl 0 rfl) ?_
      refine lv_iload hex hbc dX0_bestNext_36 (lv_at hl 2 rfl) ?_
      refine zt_icmp_gt (a := i1) (b := (lst_ (σ 0) G0 (x1 + 1))) (tgt := 144) hex hbc (by omega) dX0_bestNext_38 (by decide) (fun c38 => ?_) (fun c38 => ?_)
      · skip
        refine lv_iload hex hbc dX0_bestNext_144 (lv_at hl 1 rfl) ?_
        exact g_iret hex hbc hrt hlocks hK hP hD hS ⟨rfl, b1, rfl, BN_exit hbn c38 hi2⟩ dX0_bestNext_146
      · skip
        have hpi := po_in (T := T0) (G := G0) (i := i1) (by omega) hTG.2.1.1 (by omega)
        have hSi := hSr i1 hi0 c38
        refine lv_aload_n hex hbc dX0_bestNext_41 rfl (lv_at hl 4 rfl) ?_
        refine va_get (v := .ref (a 9)) hex hbc hts hin0 hown hK hP 8 rfl rfl 3 (by decide) (hts _ (List.mem_of_getElem? (i := 5) rfl)) (fun _ h => h) rfl dX0_bestNext_42 ?_
        refine lv_iload hex hbc dX0_bestNext_45 (lv_at hl 0 rfl) ?_
        refine g_iald (f := (σ 14)) (v := (σ 14 i1)) (i := i1) hex hbc hK hP 9 0 rfl rfl (by decide) (by omega) rfl dX0_bestNext_47 ?_
        refine zt_nm (a := (σ 14 i1)) (b := (po T0 G0 i1)) (hM3 i1 (by omega) (by omega)) ?_
        refine lv_aload_n hex hbc dX0_bestNext_48 rfl (lv_at hl 4 rfl) ?_
        refine va_get (v := .ref (a 9)) hex hbc hts hin0 hown hK hP 8 rfl rfl 3 (by decide) (hts _ (List.mem_of_getElem? (i := 5) rfl)) (fun _ h => h) rfl dX0_bestNext_49 ?_
        refine lv_iload_n hex hbc dX0_bestNext_52 rfl (lv_at hl 6 rfl) ?_
        refine g_iald (f := (σ 14)) (v := (σ 14 x2)) (i := x2) hex hbc hK hP 9 0 rfl rfl (by decide) (by omega) rfl dX0_bestNext_53 ?_
        refine zt_nm (a := (σ 14 x2)) (b := (po T0 G0 x2)) (hM3 x2 (by omega) (by omega)) ?_
        refine zt_isub hex hbc dX0_bestNext_54 ?_
        refine lv_istore (lv' := [(7, .int (iI ((po T0 G0 i1) - (po T0 G0 x2)))), (6, .int (iI i1)), (4, .int (iI b1)), (5, .int (iI (lst_ (σ 0) G0 (x1 + 1)))), (3, .int (iI ((x1 + 1) * 33))), (0, .ref (a 8)), (1, .int (iI x1)), (2, .int (iI x2))]) hex hbc dX0_bestNext_55 hl (by decide) rfl (fun ls hl => ?_)
        refine lv_iload hex hbc dX0_bestNext_57 (lv_at hl 0 rfl) ?_
        refine lv_aload_n hex hbc dX0_bestNext_59 rfl (lv_at hl 5 rfl) ?_
        refine va_get (v := .ref (a 11)) hex hbc hts hin0 hown hK hP 8 rfl rfl 5 (by decide) (hts _ (List.mem_of_getElem? (i := 6) rfl)) (fun _ h => h) rfl dX0_bestNext_60 ?_
        refine lv_iload_n hex hbc dX0_bestNext_63 rfl (lv_at hl 6 rfl) ?_
        refine g_iald (f := (σ 16)) (v := (σ 16 x1)) (i := x1) hex hbc hK hP 11 0 rfl rfl (by decide) (by omega) rfl dX0_bestNext_64 ?_
        refine zt_nm (a := (σ 16 x1)) (b := (ln (σ 0) x1 * σ 0 5 / 100)) (hM5 x1 h1.1 h1.2) ?_
        refine zt_icmp_le (a := ((po T0 G0 i1) - (po T0 G0 x2))) (b := (ln (σ 0) x1 * σ 0 5 / 100)) (tgt := 71) hex hbc (by omega) dX0_bestNext_65 (by decide) (fun c65 => ?_) (fun c65 => ?_)
        · skip
          refine lv_iload hex hbc dX0_bestNext_71 (lv_at hl 0 rfl) ?_
          refine lv_aload_n hex hbc dX0_bestNext_73 rfl (lv_at hl 5 rfl) ?_
          refine va_get (v := .ref (a 10)) hex hbc hts hin0 hown hK hP 8 rfl rfl 4 (by decide) (hts _ (List.mem_of_getElem? (i := 7) rfl)) (fun _ h => h) rfl dX0_bestNext_74 ?_
          refine lv_iload_n hex hbc dX0_bestNext_77 rfl (lv_at hl 6 rfl) ?_
          refine g_iald (f := (σ 15)) (v := (σ 15 x1)) (i := x1) hex hbc hK hP 10 0 rfl rfl (by decide) (by omega) rfl dX0_bestNext_78 ?_
          refine zt_nm (a := (σ 15 x1)) (b := (ln (σ 0) x1 * σ 0 4 / 100)) (hM4 x1 h1.1 h1.2) ?_
          refine zt_icmp_lt (a := ((po T0 G0 i1) - (po T0 G0 x2))) (b := (ln (σ 0) x1 * σ 0 4 / 100)) (tgt := 99) hex hbc (by omega) dX0_bestNext_79 (by decide) (fun c79 => ?_) (fun c79 => ?_)
          · skip
            refine lv_iconst (v := iI 0) hex hbc dX0_bestNext_99 rfl ?_
            refine lv_istore (lv' := [(8, .int (iI 0)), (7, .int (iI ((po T0 G0 i1) - (po T0 G0 x2)))), (6, .int (iI i1)), (4, .int (iI b1)), (5, .int (iI (lst_ (σ 0) G0 (x1 + 1)))), (3, .int (iI ((x1 + 1) * 33))), (0, .ref (a 8)), (1, .int (iI x1)), (2, .int (iI x2))]) hex hbc dX0_bestNext_100 hl (by decide) rfl (fun ls hl => ?_)
            refine lv_iload hex hbc dX0_bestNext_102 (lv_at hl 0 rfl) ?_
            refine zt_if_eq (a := 0) (tgt := 138) hex hbc (by decide) dX0_bestNext_104 (by decide) (fun _ => ?_) (fun h => absurd h (by decide))
            refine lv_iinc (v := iI (i1 + 1)) (lv' := [(6, .int (iI (i1 + 1))), (8, .int (iI 0)), (7, .int (iI ((po T0 G0 i1) - (po T0 G0 x2)))), (4, .int (iI b1)), (5, .int (iI (lst_ (σ 0) G0 (x1 + 1)))), (3, .int (iI ((x1 + 1) * 33))), (0, .ref (a 8)), (1, .int (iI x1)), (2, .int (iI x2))]) hex hbc dX0_bestNext_138 hl (k := 2) rfl (iI_add _ _) (by decide) rfl (fun ls hl => ?_)
            refine lv_goto (tgt := 34) hex hbc dX0_bestNext_141 (by decide) ?_
            exact ih_34 (i1 + 1) b1 ⟨by omega, by omega, by omega, by first | exact BN_skip hbn (fun hF => absurd hF (by unfold fits_; omega)) | exact BN_skip hbn (fun _ => c92) | exact BN_take hbn hi0 (by show fits_ _ _ _; unfold fits_; omega) c92 (Or.inl c110) (by omega) | exact BN_take hbn hi0 (by show fits_ _ _ _; unfold fits_; omega) c92 (Or.inr c131) (by omega) | exact BN_keep hbn c110 c131⟩ (by omega) _ _ _ hP hD hS (lv_sub hl [0, 3, 4, 5, 6, 7, 8] rfl)
          · skip
            refine lv_aload_n hex hbc dX0_bestNext_82 rfl (lv_at hl 5 rfl) ?_
            refine va_get (v := .ref (a 12)) hex hbc hts hin0 hown hK hP 8 rfl rfl 6 (by decide) (hts _ (List.mem_of_getElem? (i := 8) rfl)) (fun _ h => h) rfl dX0_bestNext_83 ?_
            refine lv_iload_n hex hbc dX0_bestNext_86 rfl (lv_at hl 4 rfl) ?_
            refine lv_iload hex hbc dX0_bestNext_87 (lv_at hl 1 rfl) ?_
            refine zt_iadd hex hbc dX0_bestNext_89 ?_
            refine g_iald (f := (σ 17)) (v := (σ 17 (((x1 + 1) * 33) + i1))) (i := (((x1 + 1) * 33) + i1)) hex hbc hK hP 12 0 rfl rfl (by decide) (by omega) rfl dX0_bestNext_90 ?_
            refine lv_iconst (v := iI (-1)) hex hbc dX0_bestNext_91 rfl ?_
            refine zt_icmp_eq (a := (σ 17 (((x1 + 1) * 33) + i1))) (b := (-1)) (tgt := 99) hex hbc (by omega) dX0_bestNext_92 (by decide) (fun c92 => ?_) (fun c92 => ?_)
            · skip
              refine lv_iconst (v := iI 0) hex hbc dX0_bestNext_99 rfl ?_
              refine lv_istore (lv' := [(8, .int (iI 0)), (7, .int (iI ((po T0 G0 i1) - (po T0 G0 x2)))), (6, .int (iI i1)), (4, .int (iI b1)), (5, .int (iI (lst_ (σ 0) G0 (x1 + 1)))), (3, .int (iI ((x1 + 1) * 33))), (0, .ref (a 8)), (1, .int (iI x1)), (2, .int (iI x2))]) hex hbc dX0_bestNext_100 hl (by decide) rfl (fun ls hl => ?_)
              refine lv_iload hex hbc dX0_bestNext_102 (lv_at hl 0 rfl) ?_
              refine zt_if_eq (a := 0) (tgt := 138) hex hbc (by decide) dX0_bestNext_104 (by decide) (fun _ => ?_) (fun h => absurd h (by decide))
              refine lv_iinc (v := iI (i1 + 1)) (lv' := [(6, .int (iI (i1 + 1))), (8, .int (iI 0)), (7, .int (iI ((po T0 G0 i1) - (po T0 G0 x2)))), (4, .int (iI b1)), (5, .int (iI (lst_ (σ 0) G0 (x1 + 1)))), (3, .int (iI ((x1 + 1) * 33))), (0, .ref (a 8)), (1, .int (iI x1)), (2, .int (iI x2))]) hex hbc dX0_bestNext_138 hl (k := 2) rfl (iI_add _ _) (by decide) rfl (fun ls hl => ?_)
              refine lv_goto (tgt := 34) hex hbc dX0_bestNext_141 (by decide) ?_
              exact ih_34 (i1 + 1) b1 ⟨by omega, by omega, by omega, by first | exact BN_skip hbn (fun hF => absurd hF (by unfold fits_; omega)) | exact BN_skip hbn (fun _ => c92) | exact BN_take hbn hi0 (by show fits_ _ _ _; unfold fits_; omega) c92 (Or.inl c110) (by omega) | exact BN_take hbn hi0 (by show fits_ _ _ _; unfold fits_; omega) c92 (Or.inr c131) (by omega) | exact BN_keep hbn c110 c131⟩ (by omega) _ _ _ hP hD hS (lv_sub hl [0, 3, 4, 5, 6, 7, 8] rfl)
            · skip
              refine lv_iconst (v := iI 1) hex hbc dX0_bestNext_95 rfl ?_
              refine lv_goto (tgt := 100) hex hbc dX0_bestNext_96 (by decide) ?_
              refine lv_istore (lv' := [(8, .int (iI 1)), (7, .int (iI ((po T0 G0 i1) - (po T0 G0 x2)))), (6, .int (iI i1)), (4, .int (iI b1)), (5, .int (iI (lst_ (σ 0) G0 (x1 + 1)))), (3, .int (iI ((x1 + 1) * 33))), (0, .ref (a 8)), (1, .int (iI x1)), (2, .int (iI x2))]) hex hbc dX0_bestNext_100 hl (by decide) rfl (fun ls hl => ?_)
              refine lv_iload hex hbc dX0_bestNext_102 (lv_at hl 0 rfl) ?_
              refine zt_if_eq (a := 1) (tgt := 138) hex hbc (by decide) dX0_bestNext_104 (by decide) (fun h => absurd h (by decide)) (fun _ => ?_)
              refine lv_iload hex hbc dX0_bestNext_107 (lv_at hl 3 rfl) ?_
              refine lv_iconst (v := iI (-1)) hex hbc dX0_bestNext_109 rfl ?_
              refine zt_icmp_eq (a := b1) (b := (-1)) (tgt := 134) hex hbc (by omega) dX0_bestNext_110 (by decide) (fun c110 => ?_) (fun c110 => ?_)
              · skip
                refine lv_iload hex hbc dX0_bestNext_134 (lv_at hl 2 rfl) ?_
                refine lv_istore (lv' := [(4, .int (iI i1)), (8, .int (iI 1)), (7, .int (iI ((po T0 G0 i1) - (po T0 G0 x2)))), (6, .int (iI i1)), (5, .int (iI (lst_ (σ 0) G0 (x1 + 1)))), (3, .int (iI ((x1 + 1) * 33))), (0, .ref (a 8)), (1, .int (iI x1)), (2, .int (iI x2))]) hex hbc dX0_bestNext_136 hl (by decide) rfl (fun ls hl => ?_)
                refine lv_iinc (v := iI (i1 + 1)) (lv' := [(6, .int (iI (i1 + 1))), (4, .int (iI i1)), (8, .int (iI 1)), (7, .int (iI ((po T0 G0 i1) - (po T0 G0 x2)))), (5, .int (iI (lst_ (σ 0) G0 (x1 + 1)))), (3, .int (iI ((x1 + 1) * 33))), (0, .ref (a 8)), (1, .int (iI x1)), (2, .int (iI x2))]) hex hbc dX0_bestNext_138 hl (k := 3) rfl (iI_add _ _) (by decide) rfl (fun ls hl => ?_)
                refine lv_goto (tgt := 34) hex hbc dX0_bestNext_141 (by decide) ?_
                exact ih_34 (i1 + 1) i1 ⟨by omega, by omega, by omega, by first | exact BN_skip hbn (fun hF => absurd hF (by unfold fits_; omega)) | exact BN_skip hbn (fun _ => c92) | exact BN_take hbn hi0 (by show fits_ _ _ _; unfold fits_; omega) c92 (Or.inl c110) (by omega) | exact BN_take hbn hi0 (by show fits_ _ _ _; unfold fits_; omega) c92 (Or.inr c131) (by omega) | exact BN_keep hbn c110 c131⟩ (by omega) _ _ _ hP hD hS (lv_sub hl [0, 1, 4, 5, 6, 7, 8] rfl)
              · skip
                have hSb := hSr b1 (by omega) (by omega)
                refine lv_aload_n hex hbc dX0_bestNext_113 rfl (lv_at hl 6 rfl) ?_
                refine va_get (v := .ref (a 12)) hex hbc hts hin0 hown hK hP 8 rfl rfl 6 (by decide) (hts _ (List.mem_of_getElem? (i := 8) rfl)) (fun _ h => h) rfl dX0_bestNext_114 ?_
                refine lv_iload_n hex hbc dX0_bestNext_117 rfl (lv_at hl 5 rfl) ?_
                refine lv_iload hex hbc dX0_bestNext_118 (lv_at hl 2 rfl) ?_
                refine zt_iadd hex hbc dX0_bestNext_120 ?_
                refine g_iald (f := (σ 17)) (v := (σ 17 (((x1 + 1) * 33) + i1))) (i := (((x1 + 1) * 33) + i1)) hex hbc hK hP 12 0 rfl rfl (by decide) (by omega) rfl dX0_bestNext_121 ?_
                refine lv_aload_n hex hbc dX0_bestNext_122 rfl (lv_at hl 6 rfl) ?_
                refine va_get (v := .ref (a 12)) hex hbc hts hin0 hown hK hP 8 rfl rfl 6 (by decide) (hts _ (List.mem_of_getElem? (i := 8) rfl)) (fun _ h => h) rfl dX0_bestNext_123 ?_
                refine lv_iload_n hex hbc dX0_bestNext_126 rfl (lv_at hl 5 rfl) ?_
                refine lv_iload hex hbc dX0_bestNext_127 (lv_at hl 3 rfl) ?_
                refine zt_iadd hex hbc dX0_bestNext_129 ?_
                refine g_iald (f := (σ 17)) (v := (σ 17 (((x1 + 1) * 33) + b1))) (i := (((x1 + 1) * 33) + b1)) hex hbc hK hP 12 0 rfl rfl (by decide) (by omega) rfl dX0_bestNext_130 ?_
                refine zt_icmp_ge (a := (σ 17 (((x1 + 1) * 33) + i1))) (b := (σ 17 (((x1 + 1) * 33) + b1))) (tgt := 138) hex hbc (by omega) dX0_bestNext_131 (by decide) (fun c131 => ?_) (fun c131 => ?_)
                · skip
                  refine lv_iinc (v := iI (i1 + 1)) (lv' := [(6, .int (iI (i1 + 1))), (8, .int (iI 1)), (7, .int (iI ((po T0 G0 i1) - (po T0 G0 x2)))), (4, .int (iI b1)), (5, .int (iI (lst_ (σ 0) G0 (x1 + 1)))), (3, .int (iI ((x1 + 1) * 33))), (0, .ref (a 8)), (1, .int (iI x1)), (2, .int (iI x2))]) hex hbc dX0_bestNext_138 hl (k := 2) rfl (iI_add _ _) (by decide) rfl (fun ls hl => ?_)
                  refine lv_goto (tgt := 34) hex hbc dX0_bestNext_141 (by decide) ?_
                  exact ih_34 (i1 + 1) b1 ⟨by omega, by omega, by omega, by first | exact BN_skip hbn (fun hF => absurd hF (by unfold fits_; omega)) | exact BN_skip hbn (fun _ => c92) | exact BN_take hbn hi0 (by show fits_ _ _ _; unfold fits_; omega) c92 (Or.inl c110) (by omega) | exact BN_take hbn hi0 (by show fits_ _ _ _; unfold fits_; omega) c92 (Or.inr c131) (by omega) | exact BN_keep hbn c110 c131⟩ (by omega) _ _ _ hP hD hS (lv_sub hl [0, 3, 4, 5, 6, 7, 8] rfl)
                · skip
                  refine lv_iload hex hbc dX0_bestNext_134 (lv_at hl 2 rfl) ?_
                  refine lv_istore (lv' := [(4, .int (iI i1)), (8, .int (iI 1)), (7, .int (iI ((po T0 G0 i1) - (po T0 G0 x2)))), (6, .int (iI i1)), (5, .int (iI (lst_ (σ 0) G0 (x1 + 1)))), (3, .int (iI ((x1 + 1) * 33))), (0, .ref (a 8)), (1, .int (iI x1)), (2, .int (iI x2))]) hex hbc dX0_bestNext_136 hl (by decide) rfl (fun ls hl => ?_)
                  refine lv_iinc (v := iI (i1 + 1)) (lv' := [(6, .int (iI (i1 + 1))), (4, .int (iI i1)), (8, .int (iI 1)), (7, .int (iI ((po T0 G0 i1) - (po T0 G0 x2)))), (5, .int (iI (lst_ (σ 0) G0 (x1 + 1)))), (3, .int (iI ((x1 + 1) * 33))), (0, .ref (a 8)), (1, .int (iI x1)), (2, .int (iI x2))]) hex hbc dX0_bestNext_138 hl (k := 3) rfl (iI_add _ _) (by decide) rfl (fun ls hl => ?_)
                  refine lv_goto (tgt := 34) hex hbc dX0_bestNext_141 (by decide) ?_
                  exact ih_34 (i1 + 1) i1 ⟨by omega, by omega, by omega, by first | exact BN_skip hbn (fun hF => absurd hF (by unfold fits_; omega)) | exact BN_skip hbn (fun _ => c92) | exact BN_take hbn hi0 (by show fits_ _ _ _; unfold fits_; omega) c92 (Or.inl c110) (by omega) | exact BN_take hbn hi0 (by show fits_ _ _ _; unfold fits_; omega) c92 (Or.inr c131) (by omega) | exact BN_keep hbn c110 c131⟩ (by omega) _ _ _ hP hD hS (lv_sub hl [0, 1, 4, 5, 6, 7, 8] rfl)
        · skip
          have hcut : ∀ j, i1 ≤ j → ¬ fits_ (σ 0) x1 (po T0 G0 j - po T0 G0 x2) := fun j j0 hF => by have hpm := po_mono (T := T0) (G := G0) (i := i1) (j := j) (by omega) hTG.2.1.1 j0; unfold fits_ at hF; omega
          refine lv_iload hex hbc dX0_bestNext_68 (lv_at hl 2 rfl) ?_
          exact g_iret hex hbc hrt hlocks hK hP hD hS ⟨rfl, b1, rfl, BN_cut hbn c38 hcut⟩ dX0_bestNext_70
  exact loop_34 _ (max (x2 + 1) (fst_ (σ 0) G0 (x1 + 1))) (-1) ⟨Int.le_refl _, by omega, by omega, Or.inl ⟨rfl, fun j j0 j1 => by omega⟩⟩ (mz_lt _) _ _ _ hP hD hS (lv_sub hl [0, 2, 1, 3, 4, 5, 6] rfl)
end
section
/-! the program: the grid is measured, a row of sums is filled (rows laid by wip/gen) -/
theorem iX0_measure_X0 : ∀ w ∈ wsX00, w ∈ wsX0_measure := fun _ h => List.mem_cons_of_mem _ (List.mem_append_left _ (List.mem_append_right _ h))
theorem iX0_measure_X2 : ∀ w ∈ wsX20, w ∈ wsX0_measure := fun _ h => List.mem_cons_of_mem _ (List.mem_append_right _ h)
set_option maxHeartbeats 4000000 in
set_option maxRecDepth 100000 in
theorem mX0_measure (l : Launch) (G : va_G) (cx a : Nat → Nat) (σ : Nat → Int → Int) (T0 : Int) (G0 : Int)  (hTG : (1 ≤ T0 ∧ T0 ≤ 200000) ∧ (1 ≤ G0 ∧ G0 ≤ 32) ∧ σ 0 74 ≤ G0) (hT : σ 21 0 = T0) (hGs : σ 21 1 = G0) (hI : Inv (σ 0)) : Met l yX0_measure wsX0_measure ({ frames := 2, cells := 0, slots := 0, locals := 42 }) (va_Pc [.ref (a 8)] (gW G (tx cx) (XA a) (wx cx a) σ)) (va_Qv (fun u => ∃ f14 f15 f16, (∀ i, 0 ≤ i → i ≤ G0 → f14 i = po T0 G0 i) ∧ (∀ k, 0 ≤ k → k < σ 0 74 → f15 k = ln (σ 0) k * σ 0 4 / 100) ∧ (∀ k, 0 ≤ k → k < σ 0 74 → f16 k = ln (σ 0) k * σ 0 5 / 100) ∧ sc (sc (sc σ 14 f14) 15 f15) 16 f16 = u) (gW G (tx cx) (XA a) (wx cx a)) (XA a)) 0 0 (XA a) := by
  refine Met.ofW (cc := cX0_measure) (maxL := 3) (ret := none) (by decide) rfl ?_
  intro p e s m args below meth c s₁ B hml hv
  obtain ⟨rfl, hP, hK, hD⟩ := hv
  have hex := B.exec
  have hbc := B.bytes
  have hrt := B.returns
  have hts := atoms_spec (ws := wsX0_measure) B.pre
  have hown : s.vm.findClass RX0 = some m.cls := findClass_of_methodNamed B.named
  have hlocks := B.notSynchronized
  have hS : va_S (XA a) s.heap s.heap [] := va_S.rf
  have hin0 := iX0_measure_X0
  have hin2 := iX0_measure_X2
  have hl := lv_entry ([.ref (a 8)]) (n := 3) (Nat.le_of_ble_eq_true rfl)
  rw [lg_entry_eq]
  generalize (lg_sl ([.ref (a 8)]) ++ List.replicate (3 - (lg_sl ([.ref (a 8)])).length) Slot.unset).toArray = ls at hl ⊢
  have hl : lv_has ls 3 [(0, .ref (a 8))] := hl
  obtain ⟨hB, hEn, hMk, hAs, hPm⟩ := id hI
  refine lv_iconst (v := iI 0) hex hbc dX0_measure_0 rfl ?_
  refine lv_istore_n (lv' := [(1, .int (iI 0)), (0, .ref (a 8))]) hex hbc dX0_measure_1 rfl hl (by decide) rfl (fun ls hl => ?_)
  have loop_2 : ∀ (N : Nat) (i1 : Int) (w1 : Int → Int), (0 ≤ i1 ∧ i1 ≤ G0 + 1 ∧ ∀ i, 0 ≤ i → i < i1 → w1 i = po T0 G0 i) → (G0 + 1 - i1) < (N : Int) → ∀ (H : Heap) (locs : List Loc) (ls : Array Slot), va_P G vwCl (wx cx a (sc σ 14 w1)) H → va_D (XA a) (wx cx a (sc σ 14 w1)) → va_S (XA a) s.heap H locs → lv_has ls 3 [(1, .int (iI i1)), (0, .ref (a 8))] → W p l e (headSpec wsX0_measure ({ frames := 2, cells := 0, slots := 0, locals := 42 })).room s m ([.ref (a 8)] : List Value).toArray below meth c H locs 0 0 (MQ below (va_Qv (fun u => ∃ f14 f15 f16, (∀ i, 0 ≤ i → i ≤ G0 → f14 i = po T0 G0 i) ∧ (∀ k, 0 ≤ k → k < σ 0 74 → f15 k = ln (σ 0) k * σ 0 4 / 100) ∧ (∀ k, 0 ≤ k → k < σ 0 74 → f16 k = ln (σ 0) k * σ 0 5 / 100) ∧ sc (sc (sc σ 14 f14) 15 f15) 16 f16 = u) (gW G (tx cx) (XA a) (wx cx a)) (XA a)) ([.ref (a 8)] : List Value).toArray s 0 0 (XA a)) (F0 m 2 ls []) := by
    intro N
    induction N with
    | zero => intro i1 w1 hinv hlt; exfalso; omega
    | succ N ih_2 =>
      intro i1 w1 ⟨hi0, hi1, hw⟩ hlt_2 H locs ls hP hD hS hl
      refine lv_iload_n hex hbc dX0_measure_2 rfl (lv_at hl 0 rfl) ?_
      refine lv_aload_n hex hbc dX0_measure_3 rfl (lv_at hl 1 rfl) ?_
      refine va_get (v := .int (iI (σ 21 1))) hex hbc hts hin0 hown hK hP 8 rfl rfl 2 (by decide) (hts _ (List.mem_of_getElem? (i := 1) rfl)) (fun _ h => h) rfl dX0_measure_4 ?_
      refine zt_icmp_gt (a := i1) (b := (σ 21 1)) (tgt := 33) hex hbc (by omega) dX0_measure_7 (by decide) (fun c7 => ?_) (fun c7 => ?_)
      · skip
        refine lv_iconst (v := iI 0) hex hbc dX0_measure_33 rfl ?_
        refine lv_istore_n (lv' := [(1, .int (iI 0)), (0, .ref (a 8))]) hex hbc dX0_measure_34 rfl hl (by decide) rfl (fun ls hl => ?_)
        have loop_35 : ∀ (N : Nat) (i2 : Int) (w5 : Int → Int) (w6 : Int → Int), (0 ≤ i2 ∧ i2 ≤ σ 0 74 ∧ (∀ k, 0 ≤ k → k < i2 → w5 k = ln (σ 0) k * σ 0 4 / 100) ∧ (∀ k, 0 ≤ k → k < i2 → w6 k = ln (σ 0) k * σ 0 5 / 100)) → (σ 0 74 - i2) < (N : Int) → ∀ (H : Heap) (locs : List Loc) (ls : Array Slot), va_P G vwCl (wx cx a (sc (sc (sc σ 14 w1) 15 w5) 16 w6)) H → va_D (XA a) (wx cx a (sc (sc (sc σ 14 w1) 15 w5) 16 w6)) → va_S (XA a) s.heap H locs → lv_has ls 3 [(1, .int (iI i2)), (0, .ref (a 8))] → W p l e (headSpec wsX0_measure ({ frames := 2, cells := 0, slots := 0, locals := 42 })).room s m ([.ref (a 8)] : List Value).toArray below meth c H locs 0 0 (MQ below (va_Qv (fun u => ∃ f14 f15 f16, (∀ i, 0 ≤ i → i ≤ G0 → f14 i = po T0 G0 i) ∧ (∀ k, 0 ≤ k → k < σ 0 74 → f15 k = ln (σ 0) k * σ 0 4 / 100) ∧ (∀ k, 0 ≤ k → k < σ 0 74 → f16 k = ln (σ 0) k * σ 0 5 / 100) ∧ sc (sc (sc σ 14 f14) 15 f15) 16 f16 = u) (gW G (tx cx) (XA a) (wx cx a)) (XA a)) ([.ref (a 8)] : List Value).toArray s 0 0 (XA a)) (F0 m 35 ls []) := by
          intro N
          induction N with
          | zero => intro i2 w5 w6 hinv hlt; exfalso; omega
          | succ N ih_35 =>
            intro i2 w5 w6 ⟨hk0, hk1, hw5, hw6⟩ hlt_35 H locs ls hP hD hS hl
            refine lv_iload_n hex hbc dX0_measure_35 rfl (lv_at hl 0 rfl) ?_
            refine lv_aload_n hex hbc dX0_measure_36 rfl (lv_at hl 1 rfl) ?_
            refine va_get (v := .ref (a 3)) hex hbc hts hin0 hown hK hP 8 rfl rfl 0 (by decide) (hts _ (List.mem_of_getElem? (i := 4) rfl)) (fun _ h => h) rfl dX0_measure_37 ?_
            refine va_get (v := .int (iI (σ 0 74))) hex hbc hts hin2 hown hK hP 3 rfl rfl 1 (by decide) (hts _ (List.mem_of_getElem? (i := 5) rfl)) (fun _ h => h) rfl dX0_measure_40 ?_
            refine zt_icmp_ge (a := i2) (b := (σ 0 74)) (tgt := 89) hex hbc (by omega) dX0_measure_43 (by decide) (fun c43 => ?_) (fun c43 => ?_)
            · skip
              exact g_vret hex hbc hrt hlocks hK hP hD hS ⟨w1, w5, w6, fun i j0 j1 => hw i j0 (by omega), fun k j0 j1 => hw5 k j0 (by omega), fun k j0 j1 => hw6 k j0 (by omega), rfl⟩ dX0_measure_89
            · skip
              have hln := hI.ln_in hk0 c43
              refine lv_aload_n hex hbc dX0_measure_46 rfl (lv_at hl 1 rfl) ?_
              refine va_get (v := .ref (a 3)) hex hbc hts hin0 hown hK hP 8 rfl rfl 0 (by decide) (hts _ (List.mem_of_getElem? (i := 4) rfl)) (fun _ h => h) rfl dX0_measure_47 ?_
              refine lv_iload_n hex hbc dX0_measure_50 rfl (lv_at hl 0 rfl) ?_
              refine g_calli [.int (iI i2)] ⟨hex, hbc, hml, hown, hts⟩ (mX2_lengthOf l G cx a (sc (sc (sc σ 14 w1) 15 w5) 16 w6) i2 (show 0 ≤ i2 ∧ i2 < σ 0 74 from by omega) hI) (cwV 1 hts gX0_measure_X2_lengthOf rfl rfl rfl (by decide +kernel) ⟨Nat.le_of_ble_eq_true rfl, Nat.le_of_ble_eq_true rfl⟩) hK hP hD hS (fun _ h => h) 3 2 rfl rfl rfl rfl hl.1 (Nat.le_of_ble_eq_true rfl) dX0_measure_51 ⟨Nat.zero_le _, Nat.zero_le _⟩ (fun r_51 u_51 H locs hw_51 hP hD hS hz_51 hk_51 => ?_)
              obtain ⟨rfl, rfl⟩ := hw_51
              refine lv_istore_n (lv' := [(2, .int (iI (ln (σ 0) i2))), (1, .int (iI i2)), (0, .ref (a 8))]) hex hbc dX0_measure_54 rfl hl (by decide) rfl (fun ls hl => ?_)
              refine lv_aload_n hex hbc dX0_measure_55 rfl (lv_at hl 2 rfl) ?_
              refine va_get (v := .ref (a 10)) hex hbc hts hin0 hown hK hP 8 rfl rfl 4 (by decide) (hts _ (List.mem_of_getElem? (i := 6) rfl)) (fun _ h => h) rfl dX0_measure_56 ?_
              refine lv_iload_n hex hbc dX0_measure_59 rfl (lv_at hl 1 rfl) ?_
              refine lv_aload_n hex hbc dX0_measure_60 rfl (lv_at hl 2 rfl) ?_
              refine va_get (v := .ref (a 3)) hex hbc hts hin0 hown hK hP 8 rfl rfl 0 (by decide) (hts _ (List.mem_of_getElem? (i := 4) rfl)) (fun _ h => h) rfl dX0_measure_61 ?_
              refine lv_iload_n hex hbc dX0_measure_64 rfl (lv_at hl 0 rfl) ?_
              refine g_calli [.int (iI (ln (σ 0) i2))] ⟨hex, hbc, hml, hown, hts⟩ (mX2_leastBudget l G cx a (sc (sc (sc σ 14 w1) 15 w5) 16 w6) (ln (σ 0) i2) (show 0 ≤ (ln (σ 0) i2) ∧ (ln (σ 0) i2) ≤ 64000 from by omega) hI) (cwV 1 hts gX0_measure_X2_leastBudget rfl rfl rfl (by decide +kernel) ⟨Nat.le_of_ble_eq_true rfl, Nat.le_of_ble_eq_true rfl⟩) hK hP hD hS (fun _ h => h) 3 2 rfl rfl rfl rfl hl.1 (Nat.le_of_ble_eq_true rfl) dX0_measure_65 ⟨Nat.zero_le _, Nat.zero_le _⟩ (fun r_65 u_65 H locs hw_65 hP hD hS hz_65 hk_65 => ?_)
              obtain ⟨rfl, rfl⟩ := hw_65
              have hi_68 : (0 : Int) ≤ i2 ∧ i2 < (16 : Int) := (by omega)
              refine g_iast (σ := (sc (sc (sc σ 14 w1) 15 w5) 16 w6)) (f := w5) (i := i2) (v := ((ln (σ 0) i2) * σ 0 4 / 100)) (τ := st (sc (sc (sc σ 14 w1) 15 w5) 16 w6) 15 i2 ((ln (σ 0) i2) * σ 0 4 / 100)) hex hbc hK hP hD hS 10 0 rfl rfl (by decide) hi_68 dX0_measure_68 (wx_up_10 hi_68) (fun H locs hP hD hS => ?_)
              obtain ⟨f15_68, ef15_68⟩ : ∃ z : Int → Int, z = ups w5 i2 ((ln (σ 0) i2) * σ 0 4 / 100) := ⟨_, rfl⟩
              have hP : va_P G vwCl (wx cx a (sc (sc (sc σ 14 w1) 15 f15_68) 16 w6)) H := by rw [ef15_68]; exact hP
              have hD : va_D (XA a) (wx cx a (sc (sc (sc σ 14 w1) 15 f15_68) 16 w6)) := by rw [ef15_68]; exact hD
              refine lv_aload_n hex hbc dX0_measure_69 rfl (lv_at hl 2 rfl) ?_
              refine va_get (v := .ref (a 11)) hex hbc hts hin0 hown hK hP 8 rfl rfl 5 (by decide) (hts _ (List.mem_of_getElem? (i := 7) rfl)) (fun _ h => h) rfl dX0_measure_70 ?_
              refine lv_iload_n hex hbc dX0_measure_73 rfl (lv_at hl 1 rfl) ?_
              refine lv_aload_n hex hbc dX0_measure_74 rfl (lv_at hl 2 rfl) ?_
              refine va_get (v := .ref (a 3)) hex hbc hts hin0 hown hK hP 8 rfl rfl 0 (by decide) (hts _ (List.mem_of_getElem? (i := 4) rfl)) (fun _ h => h) rfl dX0_measure_75 ?_
              refine lv_iload_n hex hbc dX0_measure_78 rfl (lv_at hl 0 rfl) ?_
              refine g_calli [.int (iI (ln (σ 0) i2))] ⟨hex, hbc, hml, hown, hts⟩ (mX2_mostBudget l G cx a (sc (sc (sc σ 14 w1) 15 f15_68) 16 w6) (ln (σ 0) i2) (show 0 ≤ (ln (σ 0) i2) ∧ (ln (σ 0) i2) ≤ 64000 from by omega) hI) (cwV 1 hts gX0_measure_X2_mostBudget rfl rfl rfl (by decide +kernel) ⟨Nat.le_of_ble_eq_true rfl, Nat.le_of_ble_eq_true rfl⟩) hK hP hD hS (fun _ h => h) 3 2 rfl rfl rfl rfl hl.1 (Nat.le_of_ble_eq_true rfl) dX0_measure_79 ⟨Nat.zero_le _, Nat.zero_le _⟩ (fun r_79 u_79 H locs hw_79 hP hD hS hz_79 hk_79 => ?_)
              obtain ⟨rfl, rfl⟩ := hw_79
              have hi_82 : (0 : Int) ≤ i2 ∧ i2 < (16 : Int) := (by omega)
              refine g_iast (σ := (sc (sc (sc σ 14 w1) 15 f15_68) 16 w6)) (f := w6) (i := i2) (v := ((ln (σ 0) i2) * σ 0 5 / 100)) (τ := st (sc (sc (sc σ 14 w1) 15 f15_68) 16 w6) 16 i2 ((ln (σ 0) i2) * σ 0 5 / 100)) hex hbc hK hP hD hS 11 0 rfl rfl (by decide) hi_82 dX0_measure_82 (wx_up_11 hi_82) (fun H locs hP hD hS => ?_)
              obtain ⟨f16_82, ef16_82⟩ : ∃ z : Int → Int, z = ups w6 i2 ((ln (σ 0) i2) * σ 0 5 / 100) := ⟨_, rfl⟩
              have hP : va_P G vwCl (wx cx a (sc (sc (sc σ 14 w1) 15 f15_68) 16 f16_82)) H := by rw [ef16_82]; exact hP
              have hD : va_D (XA a) (wx cx a (sc (sc (sc σ 14 w1) 15 f15_68) 16 f16_82)) := by rw [ef16_82]; exact hD
              refine lv_iinc (v := iI (i2 + 1)) (lv' := [(1, .int (iI (i2 + 1))), (2, .int (iI (ln (σ 0) i2))), (0, .ref (a 8))]) hex hbc dX0_measure_83 hl (k := 1) rfl (iI_add _ _) (by decide) rfl (fun ls hl => ?_)
              refine lv_goto (tgt := 35) hex hbc dX0_measure_86 (by decide) ?_
              exact ih_35 (i2 + 1) f15_68 f16_82 ⟨by omega, by omega, fun k j0 j1 => if hq : k = i2 then (by rw [ef15_68, hq, ups_s]) else (by rw [ef15_68, ups_n _ _ hq]; exact hw5 k j0 (by omega)), fun k j0 j1 => if hq : k = i2 then (by rw [ef16_82, hq, ups_s]) else (by rw [ef16_82, ups_n _ _ hq]; exact hw6 k j0 (by omega))⟩ (by omega) _ _ _ hP hD hS (lv_sub hl [0, 2] rfl)
        exact loop_35 _ 0 (σ 15) (σ 16) ⟨by omega, by omega, fun i j0 j1 => by omega, fun i j0 j1 => by omega⟩ (mz_lt _) _ _ _ hP hD hS (lv_sub hl [0, 1] rfl)
      · skip
        refine lv_aload_n hex hbc dX0_measure_10 rfl (lv_at hl 1 rfl) ?_
        refine va_get (v := .ref (a 9)) hex hbc hts hin0 hown hK hP 8 rfl rfl 3 (by decide) (hts _ (List.mem_of_getElem? (i := 2) rfl)) (fun _ h => h) rfl dX0_measure_11 ?_
        refine lv_iload_n hex hbc dX0_measure_14 rfl (lv_at hl 0 rfl) ?_
        refine lv_iload_n hex hbc dX0_measure_15 rfl (lv_at hl 0 rfl) ?_
        refine lv_aload_n hex hbc dX0_measure_16 rfl (lv_at hl 1 rfl) ?_
        refine va_get (v := .int (iI (σ 21 0))) hex hbc hts hin0 hown hK hP 8 rfl rfl 1 (by decide) (hts _ (List.mem_of_getElem? (i := 3) rfl)) (fun _ h => h) rfl dX0_measure_17 ?_
        have hmm := mulb (a := i1) (b := T0) (A := 32) (B := 200000) (by omega) (by omega) (by omega) (by omega)
        rw [← hT] at hmm
        refine zt_imul hex hbc dX0_measure_20 ?_
        refine lv_aload_n hex hbc dX0_measure_21 rfl (lv_at hl 1 rfl) ?_
        refine va_get (v := .int (iI (σ 21 1))) hex hbc hts hin0 hown hK hP 8 rfl rfl 2 (by decide) (hts _ (List.mem_of_getElem? (i := 1) rfl)) (fun _ h => h) rfl dX0_measure_22 ?_
        refine zt_idiv hex hbc (by omega) dX0_measure_25 ?_
        have hi_26 : (0 : Int) ≤ i1 ∧ i1 < (33 : Int) := (by omega)
        refine g_iast (σ := (sc σ 14 w1)) (f := w1) (i := i1) (v := ((i1 * (σ 21 0)) / (σ 21 1))) (τ := st (sc σ 14 w1) 14 i1 ((i1 * (σ 21 0)) / (σ 21 1))) hex hbc hK hP hD hS 9 0 rfl rfl (by decide) hi_26 dX0_measure_26 (wx_up_9 hi_26) (fun H locs hP hD hS => ?_)
        obtain ⟨f14_26, ef14_26⟩ : ∃ z : Int → Int, z = ups w1 i1 ((i1 * (σ 21 0)) / (σ 21 1)) := ⟨_, rfl⟩
        have hP : va_P G vwCl (wx cx a (sc σ 14 f14_26)) H := by rw [ef14_26]; exact hP
        have hD : va_D (XA a) (wx cx a (sc σ 14 f14_26)) := by rw [ef14_26]; exact hD
        refine lv_iinc (v := iI (i1 + 1)) (lv' := [(1, .int (iI (i1 + 1))), (0, .ref (a 8))]) hex hbc dX0_measure_27 hl (k := 0) rfl (iI_add _ _) (by decide) rfl (fun ls hl => ?_)
        refine lv_goto (tgt := 2) hex hbc dX0_measure_30 (by decide) ?_
        exact ih_2 (i1 + 1) f14_26 ⟨by omega, by omega, fun i j0 j1 => if hq : i = i1 then (by rw [ef14_26, hq, ups_s, hT, hGs]; rfl) else (by rw [ef14_26, ups_n _ _ hq]; exact hw i j0 (by omega))⟩ (by omega) _ _ _ hP hD hS (lv_sub hl [0, 1] rfl)
  exact loop_2 _ 0 (σ 14) ⟨by omega, by omega, fun i j0 j1 => by omega⟩ (mz_lt _) _ _ _ hP hD hS (lv_sub hl [0, 1] rfl)
theorem iX0_fillSums_X0 : ∀ w ∈ wsX00, w ∈ wsX0_fillSums := fun _ h => List.mem_cons_of_mem _ (List.mem_append_left _ (List.mem_append_right _ h))
set_option maxHeartbeats 4000000 in
set_option maxRecDepth 100000 in
theorem mX0_fillSums (l : Launch) (G : va_G) (cx a : Nat → Nat) (σ : Nat → Int → Int) (T0 : Int) (G0 : Int) (x : Int) (hx : 0 ≤ x ∧ x < σ 0 74) (hTG : (1 ≤ T0 ∧ T0 ≤ 200000) ∧ (1 ≤ G0 ∧ G0 ≤ 32) ∧ σ 0 74 ≤ G0) (hM : Ms σ T0 G0) (hR : Rw (σ 0) T0 G0 (σ 17) (x + 1)) (hI : Inv (σ 0)) : Met l yX0_fillSums wsX0_fillSums ({ frames := 2, cells := 0, slots := 0, locals := 58 }) (va_Pc [.ref (a 8), .int (iI x)] (gW G (tx cx) (XA a) (wx cx a) σ)) (va_Qi (fun r u => (∃ v, iI v = r ∧ (((∃ j, x ≤ j ∧ j ≤ lst_ (σ 0) G0 x ∧ bst (σ 0) T0 G0 (σ 0 74 - 1 - x).toNat j ≠ FAR) ∧ v = 1) ∨ (¬ (∃ j, x ≤ j ∧ j ≤ lst_ (σ 0) G0 x ∧ bst (σ 0) T0 G0 (σ 0 74 - 1 - x).toNat j ≠ FAR) ∧ v = 0))) ∧ ∃ f17, (∀ i, i < x * 33 ∨ x * 33 + 33 ≤ i → f17 i = σ 17 i) ∧ Rw (σ 0) T0 G0 f17 x ∧ sc σ 17 f17 = u) (gW G (tx cx) (XA a) (wx cx a)) (XA a)) 0 0 (XA a) := by
  refine Met.ofW (cc := cX0_fillSums) (maxL := 7) (ret := some .boolean) (by decide) rfl ?_
  intro p e s m args below meth c s₁ B hml hv
  obtain ⟨rfl, hP, hK, hD⟩ := hv
  have hex := B.exec
  have hbc := B.bytes
  have hrt := B.returns
  have hts := atoms_spec (ws := wsX0_fillSums) B.pre
  have hown : s.vm.findClass RX0 = some m.cls := findClass_of_methodNamed B.named
  have hlocks := B.notSynchronized
  have hS : va_S (XA a) s.heap s.heap [] := va_S.rf
  have hin0 := iX0_fillSums_X0
  have hl := lv_entry ([.ref (a 8), .int (iI x)]) (n := 7) (Nat.le_of_ble_eq_true rfl)
  rw [lg_entry_eq]
  generalize (lg_sl ([.ref (a 8), .int (iI x)]) ++ List.replicate (7 - (lg_sl ([.ref (a 8), .int (iI x)])).length) Slot.unset).toArray = ls at hl ⊢
  have hl : lv_has ls 7 [(0, .ref (a 8)), (1, .int (iI x))] := hl
  obtain ⟨hB, hEn, hMk, hAs, hPm⟩ := id hI
  obtain ⟨hM1, hM2, hM3, hM4, hM5⟩ := id hM
  have hfs : fst_ (σ 0) (σ 21 1) x = x := if_pos hx.2
  have hlg := lst_ge (G := G0) hx hTG.2.2
  have hFAR : FAR = 1152921504606846976 := rfl
  refine lv_iconst (v := iI 0) hex hbc dX0_fillSums_0 rfl ?_
  refine lv_istore_n (lv' := [(2, .int (iI 0)), (0, .ref (a 8)), (1, .int (iI x))]) hex hbc dX0_fillSums_1 rfl hl (by decide) rfl (fun ls hl => ?_)
  refine lv_aload_n hex hbc dX0_fillSums_2 rfl (lv_at hl 1 rfl) ?_
  refine lv_iload_n hex hbc dX0_fillSums_3 rfl (lv_at hl 2 rfl) ?_
  refine g_calli [.int (iI x)] ⟨hex, hbc, hml, hown, hts⟩ (mX0_lastStepOf l G cx a σ x (by omega) hI) (cwV 1 hts gX0_fillSums_X0_lastStepOf rfl rfl rfl (by decide +kernel) ⟨Nat.le_of_ble_eq_true rfl, Nat.le_of_ble_eq_true rfl⟩) hK hP hD hS (fun _ h => h) 8 0 rfl rfl rfl rfl hl.1 (Nat.le_of_ble_eq_true rfl) dX0_fillSums_4 ⟨Nat.zero_le _, Nat.zero_le _⟩ (fun r_4 u_4 H locs hw_4 hP hD hS hz_4 hk_4 => ?_)
  obtain ⟨rfl, rfl⟩ := hw_4
  refine zt_nm (a := (lst_ (σ 0) (σ 21 1) x)) (b := (lst_ (σ 0) G0 x)) (by rw [hM2]) ?_
  refine lv_istore_n (lv' := [(3, .int (iI (lst_ (σ 0) G0 x))), (2, .int (iI 0)), (0, .ref (a 8)), (1, .int (iI x))]) hex hbc dX0_fillSums_7 rfl hl (by decide) rfl (fun ls hl => ?_)
  refine lv_aload_n hex hbc dX0_fillSums_8 rfl (lv_at hl 2 rfl) ?_
  refine lv_iload_n hex hbc dX0_fillSums_9 rfl (lv_at hl 3 rfl) ?_
  refine g_calli [.int (iI x)] ⟨hex, hbc, hml, hown, hts⟩ (mX0_firstStepOf l G cx a σ x (by omega) hI) (cwV 1 hts gX0_fillSums_X0_firstStepOf rfl rfl rfl (by decide +kernel) ⟨Nat.le_of_ble_eq_true rfl, Nat.le_of_ble_eq_true rfl⟩) hK hP hD hS (fun _ h => h) 8 0 rfl rfl rfl rfl hl.1 (Nat.le_of_ble_eq_true rfl) dX0_fillSums_10 ⟨Nat.zero_le _, Nat.zero_le _⟩ (fun r_10 u_10 H locs hw_10 hP hD hS hz_10 hk_10 => ?_)
  obtain ⟨rfl, rfl⟩ := hw_10
  refine zt_nm (a := (fst_ (σ 0) (σ 21 1) x)) (b := x) hfs ?_
  refine lv_istore (lv' := [(4, .int (iI x)), (3, .int (iI (lst_ (σ 0) G0 x))), (2, .int (iI 0)), (0, .ref (a 8)), (1, .int (iI x))]) hex hbc dX0_fillSums_13 hl (by decide) rfl (fun ls hl => ?_)
  have loop_15 : ∀ (N : Nat) (i1 : Int) (p1 : Int) (w1 : Int → Int), (x ≤ i1 ∧ i1 ≤ lst_ (σ 0) G0 x + 1 ∧ (∀ i, i < x * 33 ∨ x * 33 + 33 ≤ i → w1 i = σ 17 i) ∧ (∀ j, x ≤ j → j < i1 → w1 (x * 33 + j) = cv_ (bst (σ 0) T0 G0 (σ 0 74 - 1 - x).toNat j)) ∧ ((p1 = 1 ∧ ∃ j, x ≤ j ∧ j < i1 ∧ bst (σ 0) T0 G0 (σ 0 74 - 1 - x).toNat j ≠ FAR) ∨ (p1 = 0 ∧ ∀ j, x ≤ j → j < i1 → bst (σ 0) T0 G0 (σ 0 74 - 1 - x).toNat j = FAR))) → (G0 - i1 + 1) < (N : Int) → ∀ (H : Heap) (locs : List Loc) (ls : Array Slot), va_P G vwCl (wx cx a (sc σ 17 w1)) H → va_D (XA a) (wx cx a (sc σ 17 w1)) → va_S (XA a) s.heap H locs → lv_has ls 7 [(4, .int (iI i1)), (2, .int (iI p1)), (3, .int (iI (lst_ (σ 0) G0 x))), (0, .ref (a 8)), (1, .int (iI x))] → W p l e (headSpec wsX0_fillSums ({ frames := 2, cells := 0, slots := 0, locals := 58 })).room s m ([.ref (a 8), .int (iI x)] : List Value).toArray below meth c H locs 0 0 (MQ below (va_Qi (fun r u => (∃ v, iI v = r ∧ (((∃ j, x ≤ j ∧ j ≤ lst_ (σ 0) G0 x ∧ bst (σ 0) T0 G0 (σ 0 74 - 1 - x).toNat j ≠ FAR) ∧ v = 1) ∨ (¬ (∃ j, x ≤ j ∧ j ≤ lst_ (σ 0) G0 x ∧ bst (σ 0) T0 G0 (σ 0 74 - 1 - x).toNat j ≠ FAR) ∧ v = 0))) ∧ ∃ f17, (∀ i, i < x * 33 ∨ x * 33 + 33 ≤ i → f17 i = σ 17 i) ∧ Rw (σ 0) T0 G0 f17 x ∧ sc σ 17 f17 = u) (gW G (tx cx) (XA a) (wx cx a)) (XA a)) ([.ref (a 8), .int (iI x)] : List Value).toArray s 0 0 (XA a)) (F0 m 15 ls []) := by
    intro N
    induction N with
    | zero => intro i1 p1 w1 hinv hlt; exfalso; have hz := hinv.2.1; omega
    | succ N ih_15 =>
      intro i1 p1 w1 ⟨hi0, hi1, hwo, hww, hp1⟩ hlt_15 H locs ls hP hD hS hl
      have hRw : Rw (σ 0) T0 G0 w1 (x + 1) := Rw_congr hTG.2.1 (by omega) (fun i j0 j1 => (hwo i (Or.inr (by omega))).symm) hR
      refine lv_iload hex hbc dX0_fillSums_15 (lv_at hl 0 rfl) ?_
      refine lv_iload_n hex hbc dX0_fillSums_17 rfl (lv_at hl 2 rfl) ?_
      refine zt_icmp_gt (a := i1) (b := (lst_ (σ 0) G0 x)) (tgt := 85) hex hbc (by omega) dX0_fillSums_18 (by decide) (fun c18 => ?_) (fun c18 => ?_)
      · skip
        refine lv_iload_n hex hbc dX0_fillSums_85 rfl (lv_at hl 1 rfl) ?_
        exact g_zret hex hbc hrt hlocks (by rcases hp1 with h | h <;> rw [h.1] <;> rfl) hK hP hD hS ⟨⟨p1, rfl, hp1.elim (fun h => Or.inl ⟨h.2.elim (fun j hj => ⟨j, hj.1, by omega, hj.2.2⟩), h.1⟩) (fun h => Or.inr ⟨fun hx2 => hx2.elim (fun j hj => hj.2.2 (h.2 j hj.1 (by omega))), h.1⟩)⟩, w1, hwo, (by unfold Rw; rw [if_neg (by omega)]; exact fun j j0 j1 => hww j j0 (by omega)), rfl⟩ dX0_fillSums_86
      · skip
        have hSr : ∀ j, max (i1 + 1) (fst_ (σ 0) G0 (x + 1)) ≤ j → j ≤ lst_ (σ 0) G0 (x + 1) → -1 ≤ w1 ((x + 1) * 33 + j) ∧ w1 ((x + 1) * 33 + j) ≤ 204800000 := fun j j0 j1 => Rw_rng hI (by omega) hTG.2.1 hx hRw (lo := i1 + 1) j0 j1
        refine lv_aload_n hex hbc dX0_fillSums_21 rfl (lv_at hl 3 rfl) ?_
        refine lv_iload_n hex hbc dX0_fillSums_22 rfl (lv_at hl 4 rfl) ?_
        refine lv_iload hex hbc dX0_fillSums_23 (lv_at hl 0 rfl) ?_
        refine g_calli [.int (iI x), .int (iI i1)] ⟨hex, hbc, hml, hown, hts⟩ (mX0_bestNext l G cx a (sc σ 17 w1) T0 G0 x i1 (show 0 ≤ x ∧ x < σ 0 74 from by omega) (show x ≤ i1 ∧ i1 < G0 from by omega) hTG hM (by assumption) hI) (cwV 2 hts gX0_fillSums_X0_bestNext rfl rfl rfl (by decide +kernel) ⟨Nat.le_of_ble_eq_true rfl, Nat.le_of_ble_eq_true rfl⟩) hK hP hD hS (fun _ h => h) 8 0 rfl rfl rfl rfl hl.1 (Nat.le_of_ble_eq_true rfl) dX0_fillSums_25 ⟨Nat.zero_le _, Nat.zero_le _⟩ (fun r_25 u_25 H locs hw_25 hP hD hS hz_25 hk_25 => ?_)
        obtain ⟨rfl, b25, rfl, hbn25⟩ := hw_25
        have hfv := fill_val hI (T := T0) (G := G0) (m := x) (s := i1) (by omega) hTG.2.1 hx (by omega) hRw hbn25
        refine lv_istore (lv' := [(5, .int (iI b25)), (4, .int (iI i1)), (2, .int (iI p1)), (3, .int (iI (lst_ (σ 0) G0 x))), (0, .ref (a 8)), (1, .int (iI x))]) hex hbc dX0_fillSums_28 hl (by decide) rfl (fun ls hl => ?_)
        refine lv_iconst (v := iI (-1)) hex hbc dX0_fillSums_30 rfl ?_
        refine lv_istore (lv' := [(6, .int (iI (-1))), (5, .int (iI b25)), (4, .int (iI i1)), (2, .int (iI p1)), (3, .int (iI (lst_ (σ 0) G0 x))), (0, .ref (a 8)), (1, .int (iI x))]) hex hbc dX0_fillSums_31 hl (by decide) rfl (fun ls hl => ?_)
        refine lv_iload hex hbc dX0_fillSums_33 (lv_at hl 1 rfl) ?_
        refine lv_iconst (v := iI (-1)) hex hbc dX0_fillSums_35 rfl ?_
        refine zt_icmp_eq (a := b25) (b := (-1)) (tgt := 65) hex hbc (by omega) dX0_fillSums_36 (by decide) (fun c36 => ?_) (fun c36 => ?_)
        · skip
          have hfar : bst (σ 0) T0 G0 (σ 0 74 - 1 - x).toNat i1 = FAR := by {rcases hfv with q | q; exact q.2; omega}
          have hval : -1 = cv_ (bst (σ 0) T0 G0 (σ 0 74 - 1 - x).toNat i1) := by rw [hfar]; rfl
          refine lv_aload_n hex hbc dX0_fillSums_65 rfl (lv_at hl 5 rfl) ?_
          refine va_get (v := .ref (a 12)) hex hbc hts hin0 hown hK hP 8 rfl rfl 6 (by decide) (hts _ (List.mem_of_getElem? (i := 1) rfl)) (fun _ h => h) rfl dX0_fillSums_66 ?_
          refine lv_iload_n hex hbc dX0_fillSums_69 rfl (lv_at hl 6 rfl) ?_
          refine lv_bipush (v := iI 33) hex hbc dX0_fillSums_70 (by decide) ?_
          refine zt_imul hex hbc dX0_fillSums_72 ?_
          refine lv_iload hex hbc dX0_fillSums_73 (lv_at hl 2 rfl) ?_
          refine zt_iadd hex hbc dX0_fillSums_75 ?_
          refine lv_iload hex hbc dX0_fillSums_76 (lv_at hl 0 rfl) ?_
          have hi_78 : (0 : Int) ≤ ((x * 33) + i1) ∧ ((x * 33) + i1) < (561 : Int) := (by omega)
          refine g_iast (σ := (sc σ 17 w1)) (f := w1) (i := ((x * 33) + i1)) (v := (-1)) (τ := st (sc σ 17 w1) 17 ((x * 33) + i1) (-1)) hex hbc hK hP hD hS 12 0 rfl rfl (by decide) hi_78 dX0_fillSums_78 (wx_up_12 hi_78) (fun H locs hP hD hS => ?_)
          obtain ⟨f17_78, ef17_78⟩ : ∃ z : Int → Int, z = ups w1 ((x * 33) + i1) (-1) := ⟨_, rfl⟩
          have hP : va_P G vwCl (wx cx a (sc σ 17 f17_78)) H := by rw [ef17_78]; exact hP
          have hD : va_D (XA a) (wx cx a (sc σ 17 f17_78)) := by rw [ef17_78]; exact hD
          refine lv_iinc (v := iI (i1 + 1)) (lv' := [(4, .int (iI (i1 + 1))), (6, .int (iI (-1))), (5, .int (iI b25)), (2, .int (iI p1)), (3, .int (iI (lst_ (σ 0) G0 x))), (0, .ref (a 8)), (1, .int (iI x))]) hex hbc dX0_fillSums_79 hl (k := 2) rfl (iI_add _ _) (by decide) rfl (fun ls hl => ?_)
          refine lv_goto (tgt := 15) hex hbc dX0_fillSums_82 (by decide) ?_
          exact ih_15 (i1 + 1) p1 f17_78 ⟨by omega, by omega, fun i hio => by rw [ef17_78, ups_n _ _ (by omega)]; exact hwo i hio, fun j j0 j1 => if hq : j = i1 then (by rw [ef17_78, hq, ups_s]; exact hval) else (by rw [ef17_78, ups_n _ _ (by omega)]; exact hww j j0 (by omega)), hp1.elim (fun h => Or.inl ⟨h.1, h.2.elim (fun j hj => ⟨j, hj.1, by omega, hj.2.2⟩)⟩) (fun h => Or.inr ⟨h.1, fun j j0 j1 => if hq : j = i1 then by rw [hq]; exact hfar else h.2 j j0 (by omega)⟩)⟩ (by omega) _ _ _ hP hD hS (lv_sub hl [0, 3, 4, 5, 6] rfl)
        · skip
          have hfq : i1 < b25 ∧ b25 ≤ G0 ∧ bst (σ 0) T0 G0 (σ 0 74 - 1 - x).toNat i1 = w1 ((x + 1) * 33 + b25) + of_ (σ 0) T0 G0 x i1 ∧ bst (σ 0) T0 G0 (σ 0 74 - 1 - x).toNat i1 ≠ FAR ∧ 0 ≤ w1 ((x + 1) * 33 + b25) ∧ w1 ((x + 1) * 33 + b25) ≤ 204800000 := hfv.elim (fun q => absurd q.1 c36) (fun q => q)
          obtain ⟨hq1, hq2, hq3, hfin, hq5, hq6⟩ := hfq
          have hval : w1 ((x + 1) * 33 + b25) + of_ (σ 0) T0 G0 x i1 = cv_ (bst (σ 0) T0 G0 (σ 0 74 - 1 - x).toNat i1) := by rw [← hq3]; exact (if_neg hfin).symm
          refine lv_aload_n hex hbc dX0_fillSums_39 rfl (lv_at hl 5 rfl) ?_
          refine va_get (v := .ref (a 12)) hex hbc hts hin0 hown hK hP 8 rfl rfl 6 (by decide) (hts _ (List.mem_of_getElem? (i := 1) rfl)) (fun _ h => h) rfl dX0_fillSums_40 ?_
          refine lv_iload_n hex hbc dX0_fillSums_43 rfl (lv_at hl 6 rfl) ?_
          refine lv_iconst (v := iI 1) hex hbc dX0_fillSums_44 rfl ?_
          refine zt_iadd hex hbc dX0_fillSums_45 ?_
          refine lv_bipush (v := iI 33) hex hbc dX0_fillSums_46 (by decide) ?_
          refine zt_imul hex hbc dX0_fillSums_48 ?_
          refine lv_iload hex hbc dX0_fillSums_49 (lv_at hl 1 rfl) ?_
          refine zt_iadd hex hbc dX0_fillSums_51 ?_
          refine g_iald (f := w1) (v := (w1 (((x + 1) * 33) + b25))) (i := (((x + 1) * 33) + b25)) hex hbc hK hP 12 0 rfl rfl (by decide) (by omega) rfl dX0_fillSums_52 ?_
          refine lv_aload_n hex hbc dX0_fillSums_53 rfl (lv_at hl 5 rfl) ?_
          refine lv_iload_n hex hbc dX0_fillSums_54 rfl (lv_at hl 6 rfl) ?_
          refine lv_iload hex hbc dX0_fillSums_55 (lv_at hl 2 rfl) ?_
          refine g_calli [.int (iI x), .int (iI i1)] ⟨hex, hbc, hml, hown, hts⟩ (mX0_distance l G cx a (sc σ 17 w1) T0 G0 x i1 (show 0 ≤ x ∧ x < σ 0 74 from by omega) (show 0 ≤ i1 ∧ i1 ≤ G0 from by omega) hTG hM hI) (cwV 2 hts gX0_fillSums_X0_distance rfl rfl rfl (by decide +kernel) ⟨Nat.le_of_ble_eq_true rfl, Nat.le_of_ble_eq_true rfl⟩) hK hP hD hS (fun _ h => h) 8 0 rfl rfl rfl rfl hl.1 (Nat.le_of_ble_eq_true rfl) dX0_fillSums_57 ⟨Nat.zero_le _, Nat.zero_le _⟩ (fun r_57 u_57 H locs hw_57 hP hD hS hz_57 hk_57 => ?_)
          obtain ⟨rfl, rfl⟩ := hw_57
          refine zt_iadd hex hbc dX0_fillSums_60 ?_
          refine lv_istore (lv' := [(6, .int (iI ((w1 (((x + 1) * 33) + b25)) + (of_ (σ 0) T0 G0 x i1)))), (5, .int (iI b25)), (4, .int (iI i1)), (2, .int (iI p1)), (3, .int (iI (lst_ (σ 0) G0 x))), (0, .ref (a 8)), (1, .int (iI x))]) hex hbc dX0_fillSums_61 hl (by decide) rfl (fun ls hl => ?_)
          refine lv_iconst (v := iI 1) hex hbc dX0_fillSums_63 rfl ?_
          refine lv_istore_n (lv' := [(2, .int (iI 1)), (6, .int (iI ((w1 (((x + 1) * 33) + b25)) + (of_ (σ 0) T0 G0 x i1)))), (5, .int (iI b25)), (4, .int (iI i1)), (3, .int (iI (lst_ (σ 0) G0 x))), (0, .ref (a 8)), (1, .int (iI x))]) hex hbc dX0_fillSums_64 rfl hl (by decide) rfl (fun ls hl => ?_)
          refine lv_aload_n hex hbc dX0_fillSums_65 rfl (lv_at hl 5 rfl) ?_
          refine va_get (v := .ref (a 12)) hex hbc hts hin0 hown hK hP 8 rfl rfl 6 (by decide) (hts _ (List.mem_of_getElem? (i := 1) rfl)) (fun _ h => h) rfl dX0_fillSums_66 ?_
          refine lv_iload_n hex hbc dX0_fillSums_69 rfl (lv_at hl 6 rfl) ?_
          refine lv_bipush (v := iI 33) hex hbc dX0_fillSums_70 (by decide) ?_
          refine zt_imul hex hbc dX0_fillSums_72 ?_
          refine lv_iload hex hbc dX0_fillSums_73 (lv_at hl 3 rfl) ?_
          refine zt_iadd hex hbc dX0_fillSums_75 ?_
          refine lv_iload hex hbc dX0_fillSums_76 (lv_at hl 1 rfl) ?_
          have hi_78 : (0 : Int) ≤ ((x * 33) + i1) ∧ ((x * 33) + i1) < (561 : Int) := (by omega)
          refine g_iast (σ := (sc σ 17 w1)) (f := w1) (i := ((x * 33) + i1)) (v := ((w1 (((x + 1) * 33) + b25)) + (of_ (σ 0) T0 G0 x i1))) (τ := st (sc σ 17 w1) 17 ((x * 33) + i1) ((w1 (((x + 1) * 33) + b25)) + (of_ (σ 0) T0 G0 x i1))) hex hbc hK hP hD hS 12 0 rfl rfl (by decide) hi_78 dX0_fillSums_78 (wx_up_12 hi_78) (fun H locs hP hD hS => ?_)
          obtain ⟨f17_78, ef17_78⟩ : ∃ z : Int → Int, z = ups w1 ((x * 33) + i1) ((w1 (((x + 1) * 33) + b25)) + (of_ (σ 0) T0 G0 x i1)) := ⟨_, rfl⟩
          have hP : va_P G vwCl (wx cx a (sc σ 17 f17_78)) H := by rw [ef17_78]; exact hP
          have hD : va_D (XA a) (wx cx a (sc σ 17 f17_78)) := by rw [ef17_78]; exact hD
          refine lv_iinc (v := iI (i1 + 1)) (lv' := [(4, .int (iI (i1 + 1))), (2, .int (iI 1)), (6, .int (iI ((w1 (((x + 1) * 33) + b25)) + (of_ (σ 0) T0 G0 x i1)))), (5, .int (iI b25)), (3, .int (iI (lst_ (σ 0) G0 x))), (0, .ref (a 8)), (1, .int (iI x))]) hex hbc dX0_fillSums_79 hl (k := 3) rfl (iI_add _ _) (by decide) rfl (fun ls hl => ?_)
          refine lv_goto (tgt := 15) hex hbc dX0_fillSums_82 (by decide) ?_
          exact ih_15 (i1 + 1) 1 f17_78 ⟨by omega, by omega, fun i hio => by rw [ef17_78, ups_n _ _ (by omega)]; exact hwo i hio, fun j j0 j1 => if hq : j = i1 then (by rw [ef17_78, hq, ups_s]; exact hval) else (by rw [ef17_78, ups_n _ _ (by omega)]; exact hww j j0 (by omega)), Or.inl ⟨rfl, i1, by omega, by omega, hfin⟩⟩ (by omega) _ _ _ hP hD hS (lv_sub hl [0, 1, 4, 5, 6] rfl)
  exact loop_15 _ x 0 (σ 17) ⟨Int.le_refl _, by omega, fun i _ => rfl, fun j j0 j1 => by omega, Or.inr ⟨rfl, fun j j0 j1 => by omega⟩⟩ (mz_lt _) _ _ _ hP hD hS (lv_sub hl [0, 2, 1, 3, 4] rfl)
end
