section
-- ===== PART A: goes FIRST, ahead of the names: the tables' words, and 'selects' of the private methods out of them =====
/-- a private method of a class that the tables say can be made, by its rows of tables_1 -/
def lw_okq (q : MethodName × Nat) : Prop := (q.1.cls ≠ "java/lang/invoke/MethodHandle" ∧ q.1.cls ≠ "java/lang/invoke/VarHandle") ∧ Cond.instantiable q.1.cls q.2 ∈ tables_1 ∧ Cond.privateMethod q.1 ∈ tables_1 ∧ Cond.instanceMethod q.1 ∈ tables_1
theorem lw_p0 : lw_okq (⟨"LoopSlicer", "isMovable", "(I)Z"⟩, 7) := ⟨⟨by decide +kernel, by decide +kernel⟩, List.mem_of_getElem? (i := 10) (by decide +kernel), List.mem_of_getElem? (i := 235) (by decide +kernel), List.mem_of_getElem? (i := 236) (by decide +kernel)⟩
theorem lw_p1 : lw_okq (⟨"LoopSlicer$Result", "shareFreely", "()V"⟩, 4) := ⟨⟨by decide +kernel, by decide +kernel⟩, List.mem_of_getElem? (i := 100) (by decide +kernel), List.mem_of_getElem? (i := 283) (by decide +kernel), List.mem_of_getElem? (i := 284) (by decide +kernel)⟩
theorem lw_p2 : lw_okq (⟨"LoopSlicer$Result", "giveOne", "()V"⟩, 4) := ⟨⟨by decide +kernel, by decide +kernel⟩, List.mem_of_getElem? (i := 100) (by decide +kernel), List.mem_of_getElem? (i := 292) (by decide +kernel), List.mem_of_getElem? (i := 293) (by decide +kernel)⟩
theorem lw_p3 : lw_okq (⟨"LoopSlicer$Grid", "measure", "()V"⟩, 8) := ⟨⟨by decide +kernel, by decide +kernel⟩, List.mem_of_getElem? (i := 68) (by decide +kernel), List.mem_of_getElem? (i := 305) (by decide +kernel), List.mem_of_getElem? (i := 306) (by decide +kernel)⟩
theorem lw_p4 : lw_okq (⟨"LoopSlicer$Grid", "fillSums", "(I)Z"⟩, 8) := ⟨⟨by decide +kernel, by decide +kernel⟩, List.mem_of_getElem? (i := 68) (by decide +kernel), List.mem_of_getElem? (i := 318) (by decide +kernel), List.mem_of_getElem? (i := 319) (by decide +kernel)⟩
theorem lw_p5 : lw_okq (⟨"LoopSlicer$Grid", "lastStepOf", "(I)I"⟩, 8) := ⟨⟨by decide +kernel, by decide +kernel⟩, List.mem_of_getElem? (i := 68) (by decide +kernel), List.mem_of_getElem? (i := 322) (by decide +kernel), List.mem_of_getElem? (i := 323) (by decide +kernel)⟩
theorem lw_p6 : lw_okq (⟨"LoopSlicer$Grid", "firstStepOf", "(I)I"⟩, 8) := ⟨⟨by decide +kernel, by decide +kernel⟩, List.mem_of_getElem? (i := 68) (by decide +kernel), List.mem_of_getElem? (i := 326) (by decide +kernel), List.mem_of_getElem? (i := 327) (by decide +kernel)⟩
theorem lw_p7 : lw_okq (⟨"LoopSlicer$Grid", "bestNext", "(II)I"⟩, 8) := ⟨⟨by decide +kernel, by decide +kernel⟩, List.mem_of_getElem? (i := 68) (by decide +kernel), List.mem_of_getElem? (i := 330) (by decide +kernel), List.mem_of_getElem? (i := 331) (by decide +kernel)⟩
theorem lw_p8 : lw_okq (⟨"LoopSlicer$Grid", "distance", "(II)I"⟩, 8) := ⟨⟨by decide +kernel, by decide +kernel⟩, List.mem_of_getElem? (i := 68) (by decide +kernel), List.mem_of_getElem? (i := 337) (by decide +kernel), List.mem_of_getElem? (i := 338) (by decide +kernel)⟩
theorem lw_p9 : lw_okq (⟨"LoopSlicer$Result", "loopSample", "(II)I"⟩, 4) := ⟨⟨by decide +kernel, by decide +kernel⟩, List.mem_of_getElem? (i := 100) (by decide +kernel), List.mem_of_getElem? (i := 405) (by decide +kernel), List.mem_of_getElem? (i := 406) (by decide +kernel)⟩
theorem lw_p10 : lw_okq (⟨"LoopSlicerModel", "layLoop", "(I)V"⟩, 11) := ⟨⟨by decide +kernel, by decide +kernel⟩, List.mem_of_getElem? (i := 453) (by decide +kernel), List.mem_of_getElem? (i := 459) (by decide +kernel), List.mem_of_getElem? (i := 460) (by decide +kernel)⟩
theorem lw_p11 : lw_okq (⟨"LoopSlicerModel", "layOrder", "()V"⟩, 11) := ⟨⟨by decide +kernel, by decide +kernel⟩, List.mem_of_getElem? (i := 453) (by decide +kernel), List.mem_of_getElem? (i := 463) (by decide +kernel), List.mem_of_getElem? (i := 464) (by decide +kernel)⟩
theorem lw_p12 : lw_okq (⟨"LoopSlicerModel", "remember", "()V"⟩, 11) := ⟨⟨by decide +kernel, by decide +kernel⟩, List.mem_of_getElem? (i := 453) (by decide +kernel), List.mem_of_getElem? (i := 508) (by decide +kernel), List.mem_of_getElem? (i := 509) (by decide +kernel)⟩
theorem lw_p13 : lw_okq (⟨"LoopSlicerModel", "isFrame", "(I)Z"⟩, 11) := ⟨⟨by decide +kernel, by decide +kernel⟩, List.mem_of_getElem? (i := 453) (by decide +kernel), List.mem_of_getElem? (i := 516) (by decide +kernel), List.mem_of_getElem? (i := 517) (by decide +kernel)⟩
theorem lw_p14 : lw_okq (⟨"LoopSlicerModel", "findBy", "(I)I"⟩, 11) := ⟨⟨by decide +kernel, by decide +kernel⟩, List.mem_of_getElem? (i := 453) (by decide +kernel), List.mem_of_getElem? (i := 532) (by decide +kernel), List.mem_of_getElem? (i := 533) (by decide +kernel)⟩
theorem lw_p15 : lw_okq (⟨"LoopSlicerModel", "isFurther", "(I)Z"⟩, 11) := ⟨⟨by decide +kernel, by decide +kernel⟩, List.mem_of_getElem? (i := 453) (by decide +kernel), List.mem_of_getElem? (i := 544) (by decide +kernel), List.mem_of_getElem? (i := 545) (by decide +kernel)⟩
def lw_privs_1 : List (MethodName × Nat) := [(⟨"LoopSlicer", "isMovable", "(I)Z"⟩, 7), (⟨"LoopSlicer$Result", "shareFreely", "()V"⟩, 4), (⟨"LoopSlicer$Result", "giveOne", "()V"⟩, 4), (⟨"LoopSlicer$Grid", "measure", "()V"⟩, 8), (⟨"LoopSlicer$Grid", "fillSums", "(I)Z"⟩, 8), (⟨"LoopSlicer$Grid", "lastStepOf", "(I)I"⟩, 8), (⟨"LoopSlicer$Grid", "firstStepOf", "(I)I"⟩, 8), (⟨"LoopSlicer$Grid", "bestNext", "(II)I"⟩, 8), (⟨"LoopSlicer$Grid", "distance", "(II)I"⟩, 8), (⟨"LoopSlicer$Result", "loopSample", "(II)I"⟩, 4), (⟨"LoopSlicerModel", "layLoop", "(I)V"⟩, 11), (⟨"LoopSlicerModel", "layOrder", "()V"⟩, 11), (⟨"LoopSlicerModel", "remember", "()V"⟩, 11), (⟨"LoopSlicerModel", "isFrame", "(I)Z"⟩, 11), (⟨"LoopSlicerModel", "findBy", "(I)I"⟩, 11), (⟨"LoopSlicerModel", "isFurther", "(I)Z"⟩, 11)]
theorem lw_r1 : ∀ q ∈ lw_privs_1, lw_okq q := List.forall_mem_cons.mpr ⟨lw_p0, List.forall_mem_cons.mpr ⟨lw_p1, List.forall_mem_cons.mpr ⟨lw_p2, List.forall_mem_cons.mpr ⟨lw_p3, List.forall_mem_cons.mpr ⟨lw_p4, List.forall_mem_cons.mpr ⟨lw_p5, List.forall_mem_cons.mpr ⟨lw_p6, List.forall_mem_cons.mpr ⟨lw_p7, List.forall_mem_cons.mpr ⟨lw_p8, List.forall_mem_cons.mpr ⟨lw_p9, List.forall_mem_cons.mpr ⟨lw_p10, List.forall_mem_cons.mpr ⟨lw_p11, List.forall_mem_cons.mpr ⟨lw_p12, List.forall_mem_cons.mpr ⟨lw_p13, List.forall_mem_cons.mpr ⟨lw_p14, List.forall_mem_cons.mpr ⟨lw_p15, fun _ h => absurd h List.not_mem_nil⟩⟩⟩⟩⟩⟩⟩⟩⟩⟩⟩⟩⟩⟩⟩⟩
theorem lw_p16 : lw_okq (⟨"LoopSlicerModel", "frameOf", "(I)I"⟩, 11) := ⟨⟨by decide +kernel, by decide +kernel⟩, List.mem_of_getElem? (i := 453) (by decide +kernel), List.mem_of_getElem? (i := 552) (by decide +kernel), List.mem_of_getElem? (i := 553) (by decide +kernel)⟩
theorem lw_p17 : lw_okq (⟨"LoopSlicerModel", "isSlice", "(I)Z"⟩, 11) := ⟨⟨by decide +kernel, by decide +kernel⟩, List.mem_of_getElem? (i := 453) (by decide +kernel), List.mem_of_getElem? (i := 560) (by decide +kernel), List.mem_of_getElem? (i := 561) (by decide +kernel)⟩
theorem lw_p18 : lw_okq (⟨"LoopSlicerModel", "whole", "()I"⟩, 11) := ⟨⟨by decide +kernel, by decide +kernel⟩, List.mem_of_getElem? (i := 453) (by decide +kernel), List.mem_of_getElem? (i := 576) (by decide +kernel), List.mem_of_getElem? (i := 577) (by decide +kernel)⟩
theorem lw_p19 : lw_okq (⟨"LoopSlicerModel", "isLaid", "()Z"⟩, 11) := ⟨⟨by decide +kernel, by decide +kernel⟩, List.mem_of_getElem? (i := 453) (by decide +kernel), List.mem_of_getElem? (i := 580) (by decide +kernel), List.mem_of_getElem? (i := 581) (by decide +kernel)⟩
theorem lw_p20 : lw_okq (⟨"LoopSlicerModel", "layGrid", "(II)Z"⟩, 11) := ⟨⟨by decide +kernel, by decide +kernel⟩, List.mem_of_getElem? (i := 453) (by decide +kernel), List.mem_of_getElem? (i := 584) (by decide +kernel), List.mem_of_getElem? (i := 585) (by decide +kernel)⟩
theorem lw_p21 : lw_okq (⟨"LoopSlicerModel", "bestFrom", "(IIII)J"⟩, 11) := ⟨⟨by decide +kernel, by decide +kernel⟩, List.mem_of_getElem? (i := 453) (by decide +kernel), List.mem_of_getElem? (i := 589) (by decide +kernel), List.mem_of_getElem? (i := 590) (by decide +kernel)⟩
theorem lw_p22 : lw_okq (⟨"LoopSlicerModel", "fits", "(II)Z"⟩, 11) := ⟨⟨by decide +kernel, by decide +kernel⟩, List.mem_of_getElem? (i := 453) (by decide +kernel), List.mem_of_getElem? (i := 596) (by decide +kernel), List.mem_of_getElem? (i := 597) (by decide +kernel)⟩
theorem lw_p23 : lw_okq (⟨"LoopSlicerModel", "lengthOf", "(I)I"⟩, 11) := ⟨⟨by decide +kernel, by decide +kernel⟩, List.mem_of_getElem? (i := 453) (by decide +kernel), List.mem_of_getElem? (i := 600) (by decide +kernel), List.mem_of_getElem? (i := 601) (by decide +kernel)⟩
theorem lw_p24 : lw_okq (⟨"LoopSlicerModel", "off", "(IIII)J"⟩, 11) := ⟨⟨by decide +kernel, by decide +kernel⟩, List.mem_of_getElem? (i := 453) (by decide +kernel), List.mem_of_getElem? (i := 605) (by decide +kernel), List.mem_of_getElem? (i := 606) (by decide +kernel)⟩
theorem lw_p25 : lw_okq (⟨"LoopSlicerModel", "layFree", "()V"⟩, 11) := ⟨⟨by decide +kernel, by decide +kernel⟩, List.mem_of_getElem? (i := 453) (by decide +kernel), List.mem_of_getElem? (i := 609) (by decide +kernel), List.mem_of_getElem? (i := 610) (by decide +kernel)⟩
theorem lw_p26 : lw_okq (⟨"LoopSlicerModel", "remainder", "(I)J"⟩, 11) := ⟨⟨by decide +kernel, by decide +kernel⟩, List.mem_of_getElem? (i := 453) (by decide +kernel), List.mem_of_getElem? (i := 613) (by decide +kernel), List.mem_of_getElem? (i := 614) (by decide +kernel)⟩
theorem lw_p27 : lw_okq (⟨"LoopSlicerModel", "beyond", "()I"⟩, 11) := ⟨⟨by decide +kernel, by decide +kernel⟩, List.mem_of_getElem? (i := 453) (by decide +kernel), List.mem_of_getElem? (i := 617) (by decide +kernel), List.mem_of_getElem? (i := 618) (by decide +kernel)⟩
theorem lw_p28 : lw_okq (⟨"LoopSlicerModel", "fades", "()I"⟩, 11) := ⟨⟨by decide +kernel, by decide +kernel⟩, List.mem_of_getElem? (i := 453) (by decide +kernel), List.mem_of_getElem? (i := 621) (by decide +kernel), List.mem_of_getElem? (i := 622) (by decide +kernel)⟩
theorem lw_p29 : lw_okq (⟨"LoopSlicerModel", "fadeOf", "(I)I"⟩, 11) := ⟨⟨by decide +kernel, by decide +kernel⟩, List.mem_of_getElem? (i := 453) (by decide +kernel), List.mem_of_getElem? (i := 625) (by decide +kernel), List.mem_of_getElem? (i := 626) (by decide +kernel)⟩
theorem lw_p30 : lw_okq (⟨"LoopSlicerModel", "placeOf", "(I)I"⟩, 11) := ⟨⟨by decide +kernel, by decide +kernel⟩, List.mem_of_getElem? (i := 453) (by decide +kernel), List.mem_of_getElem? (i := 629) (by decide +kernel), List.mem_of_getElem? (i := 630) (by decide +kernel)⟩
theorem lw_p31 : lw_okq (⟨"LoopSlicerModel", "loudest", "(I)I"⟩, 11) := ⟨⟨by decide +kernel, by decide +kernel⟩, List.mem_of_getElem? (i := 453) (by decide +kernel), List.mem_of_getElem? (i := 645) (by decide +kernel), List.mem_of_getElem? (i := 646) (by decide +kernel)⟩
def lw_privs_2 : List (MethodName × Nat) := [(⟨"LoopSlicerModel", "frameOf", "(I)I"⟩, 11), (⟨"LoopSlicerModel", "isSlice", "(I)Z"⟩, 11), (⟨"LoopSlicerModel", "whole", "()I"⟩, 11), (⟨"LoopSlicerModel", "isLaid", "()Z"⟩, 11), (⟨"LoopSlicerModel", "layGrid", "(II)Z"⟩, 11), (⟨"LoopSlicerModel", "bestFrom", "(IIII)J"⟩, 11), (⟨"LoopSlicerModel", "fits", "(II)Z"⟩, 11), (⟨"LoopSlicerModel", "lengthOf", "(I)I"⟩, 11), (⟨"LoopSlicerModel", "off", "(IIII)J"⟩, 11), (⟨"LoopSlicerModel", "layFree", "()V"⟩, 11), (⟨"LoopSlicerModel", "remainder", "(I)J"⟩, 11), (⟨"LoopSlicerModel", "beyond", "()I"⟩, 11), (⟨"LoopSlicerModel", "fades", "()I"⟩, 11), (⟨"LoopSlicerModel", "fadeOf", "(I)I"⟩, 11), (⟨"LoopSlicerModel", "placeOf", "(I)I"⟩, 11), (⟨"LoopSlicerModel", "loudest", "(I)I"⟩, 11)]
theorem lw_r2 : ∀ q ∈ lw_privs_2, lw_okq q := List.forall_mem_cons.mpr ⟨lw_p16, List.forall_mem_cons.mpr ⟨lw_p17, List.forall_mem_cons.mpr ⟨lw_p18, List.forall_mem_cons.mpr ⟨lw_p19, List.forall_mem_cons.mpr ⟨lw_p20, List.forall_mem_cons.mpr ⟨lw_p21, List.forall_mem_cons.mpr ⟨lw_p22, List.forall_mem_cons.mpr ⟨lw_p23, List.forall_mem_cons.mpr ⟨lw_p24, List.forall_mem_cons.mpr ⟨lw_p25, List.forall_mem_cons.mpr ⟨lw_p26, List.forall_mem_cons.mpr ⟨lw_p27, List.forall_mem_cons.mpr ⟨lw_p28, List.forall_mem_cons.mpr ⟨lw_p29, List.forall_mem_cons.mpr ⟨lw_p30, List.forall_mem_cons.mpr ⟨lw_p31, fun _ h => absurd h List.not_mem_nil⟩⟩⟩⟩⟩⟩⟩⟩⟩⟩⟩⟩⟩⟩⟩⟩
theorem lw_p32 : lw_okq (⟨"LoopSlicerModel", "beginOf", "(I)I"⟩, 11) := ⟨⟨by decide +kernel, by decide +kernel⟩, List.mem_of_getElem? (i := 453) (by decide +kernel), List.mem_of_getElem? (i := 649) (by decide +kernel), List.mem_of_getElem? (i := 650) (by decide +kernel)⟩
theorem lw_p33 : lw_okq (⟨"LoopSlicerModel", "canBe", "(I)Z"⟩, 11) := ⟨⟨by decide +kernel, by decide +kernel⟩, List.mem_of_getElem? (i := 453) (by decide +kernel), List.mem_of_getElem? (i := 679) (by decide +kernel), List.mem_of_getElem? (i := 680) (by decide +kernel)⟩
def lw_privs_3 : List (MethodName × Nat) := [(⟨"LoopSlicerModel", "beginOf", "(I)I"⟩, 11), (⟨"LoopSlicerModel", "canBe", "(I)Z"⟩, 11)]
theorem lw_r3 : ∀ q ∈ lw_privs_3, lw_okq q := List.forall_mem_cons.mpr ⟨lw_p32, List.forall_mem_cons.mpr ⟨lw_p33, fun _ h => absurd h List.not_mem_nil⟩⟩
def lw_privs : List (MethodName × Nat) := lw_privs_1 ++ (lw_privs_2 ++ (lw_privs_3))
def lw_tbl : List Cond := k2_sels lw_privs ++ tables_1
theorem lw_privs_ok : ∀ q ∈ lw_privs, lw_okq q := by
  show ∀ q ∈ lw_privs_1 ++ (lw_privs_2 ++ (lw_privs_3)), lw_okq q
  exact List.forall_mem_append.mpr ⟨lw_r1, List.forall_mem_append.mpr ⟨lw_r2, lw_r3⟩⟩
/-- the streams that the claim lets the run draw from -/
abbrev lw_cs : List Choice := [Jvm.Choice.named "NaN.bits"]
theorem lw_bits : nanBits ∈ lw_cs := by first | decide | exact List.mem_cons_self | simp [lw_cs, nanBits]
-- ===== end of PART A; then your names; then what follows =====
end
section
/-! ===== BEGIN words of one list among another's, by their places ===== -/
theorem goodIn_r {big : List Cond} (ws : List Cond) (ps : List Nat) (hp : ws = ps.filterMap (fun i => big[i]?)) (h : ws.all goodWord = true) : GoodIn big ws := by
  intro w hw
  have h1 := List.all_eq_true.mp h w hw
  rw [hp] at hw
  obtain ⟨i, -, hi⟩ := List.mem_filterMap.mp hw
  have hm : w ∈ big := by first | exact List.mem_of_getElem? hi | exact List.getElem?_mem hi
  exact ⟨hm, good_of_word h1⟩
theorem goodIn_app {big a b : List Cond} (ha : GoodIn big a) (hb : GoodIn big b) : GoodIn big (a ++ b) := fun w h => (List.mem_append.mp h).elim (ha w) (hb w)
theorem goodIn_ca {big a b : List Cond} {c : Cond} (ha : GoodIn big (c :: a)) (hb : GoodIn big b) : GoodIn big (c :: (a ++ b)) := fun w h => (List.mem_cons.mp h).elim (fun e => ha w (List.mem_cons.mpr (Or.inl e))) (fun h => (List.mem_append.mp h).elim (fun h => ha w (List.mem_cons.mpr (Or.inr h))) (hb w))
theorem goodIn_sub {big ws : List Cond} (hm : ∀ w ∈ ws, w ∈ big) (h : ws.all goodWord = true) : GoodIn big ws := fun w hw => ⟨hm w hw, good_of_word (List.all_eq_true.mp h w hw)⟩
/-! ===== END ===== -/

/-! ===== BEGIN printed: names, fields, word lists, decode rows ===== -/
def RX0 : String := "LoopSlicer$Grid"
def TX0 : u_T := fun k => match k with
  | 0 => ("LoopSlicer$Grid", "loop", "LLoopSlicer$Loop;", true)
  | 1 => ("LoopSlicer$Grid", "target", "I", false)
  | 2 => ("LoopSlicer$Grid", "lastStep", "I", false)
  | 3 => ("LoopSlicer$Grid", "positions", "[I", true)
  | 4 => ("LoopSlicer$Grid", "least", "[I", true)
  | 5 => ("LoopSlicer$Grid", "most", "[I", true)
  | 6 => ("LoopSlicer$Grid", "sums", "[I", true)
  | _ => ("LoopSlicer$Grid", "steps", "[I", true)
def tyX0 : Nat → FieldType := fun k => match k with
  | 0 => .object "LoopSlicer$Loop"
  | 1 => .int
  | 2 => .int
  | 3 => .array .int
  | 4 => .array .int
  | 5 => .array .int
  | 6 => .array .int
  | _ => .array .int
abbrev wsX00 : List Cond := u_ws RX0 TX0 8
theorem nmX0 : ∀ a, a < 8 → ∀ b, b < 8 → a ≠ b → (TX0 a).2.1 ≠ (TX0 b).2.1 := by decide +kernel
theorem tyX0_ok : ∀ k, k < 8 → parseFieldDescriptor (TX0 k).2.2.1 = some (tyX0 k) := by decide +kernel
abbrev cX0_init : ByteArray := prog_2_method_1_code
def yX0_init : MethodName := ⟨RX0, "<init>", "(LLoopSlicer$Loop;)V"⟩
abbrev cX0_canLay : ByteArray := prog_2_method_2_code
def yX0_canLay : MethodName := ⟨RX0, "canLay", "(II)Z"⟩
abbrev cX0_leastSum : ByteArray := prog_2_method_3_code
def yX0_leastSum : MethodName := ⟨RX0, "leastSum", "(II)I"⟩
abbrev cX0_draw : ByteArray := prog_2_method_4_code
def yX0_draw : MethodName := ⟨RX0, "draw", "()Z"⟩
abbrev cX0_budgetOf : ByteArray := prog_2_method_5_code
def yX0_budgetOf : MethodName := ⟨RX0, "budgetOf", "(I)I"⟩
abbrev cX0_measure : ByteArray := prog_2_method_6_code
def yX0_measure : MethodName := ⟨RX0, "measure", "()V"⟩
abbrev cX0_fillSums : ByteArray := prog_2_method_7_code
def yX0_fillSums : MethodName := ⟨RX0, "fillSums", "(I)Z"⟩
abbrev cX0_bestNext : ByteArray := prog_2_method_8_code
def yX0_bestNext : MethodName := ⟨RX0, "bestNext", "(II)I"⟩
abbrev cX0_firstStepOf : ByteArray := prog_2_method_9_code
def yX0_firstStepOf : MethodName := ⟨RX0, "firstStepOf", "(I)I"⟩
abbrev cX0_lastStepOf : ByteArray := prog_2_method_10_code
def yX0_lastStepOf : MethodName := ⟨RX0, "lastStepOf", "(I)I"⟩
abbrev cX0_distance : ByteArray := prog_2_method_11_code
def yX0_distance : MethodName := ⟨RX0, "distance", "(II)I"⟩
def RX1 : String := "LoopSlicer$History"
def TX1 : u_T := fun k => match k with
  | 0 => ("LoopSlicer$History", "states", "[LLoopSlicer$Loop;", true)
  | 1 => ("LoopSlicer$History", "newest", "I", false)
  | _ => ("LoopSlicer$History", "size", "I", false)
def tyX1 : Nat → FieldType := fun k => match k with
  | 0 => .array (.object "LoopSlicer$Loop")
  | 1 => .int
  | _ => .int
abbrev wsX10 : List Cond := u_ws RX1 TX1 3
theorem nmX1 : ∀ a, a < 3 → ∀ b, b < 3 → a ≠ b → (TX1 a).2.1 ≠ (TX1 b).2.1 := by decide +kernel
theorem tyX1_ok : ∀ k, k < 3 → parseFieldDescriptor (TX1 k).2.2.1 = some (tyX1 k) := by decide +kernel
abbrev cX1_init : ByteArray := prog_3_method_1_code
def yX1_init : MethodName := ⟨RX1, "<init>", "()V"⟩
abbrev cX1_push : ByteArray := prog_3_method_2_code
def yX1_push : MethodName := ⟨RX1, "push", "(LLoopSlicer$Loop;)V"⟩
abbrev cX1_pop : ByteArray := prog_3_method_3_code
def yX1_pop : MethodName := ⟨RX1, "pop", "(LLoopSlicer$Loop;)V"⟩
def RX2 : String := "LoopSlicer$Loop"
def TX2 : u_T := fun k => match k with
  | 0 => ("LoopSlicer$Loop", "frames", "I", false)
  | 1 => ("LoopSlicer$Loop", "markCount", "I", false)
  | 2 => ("LoopSlicer$Loop", "energies", "[I", true)
  | 3 => ("LoopSlicer$Loop", "settings", "[I", true)
  | 4 => ("LoopSlicer$Loop", "marks", "[I", true)
  | _ => ("LoopSlicer$Loop", "sequence", "[I", true)
def tyX2 : Nat → FieldType := fun k => match k with
  | 0 => .int
  | 1 => .int
  | 2 => .array .int
  | 3 => .array .int
  | 4 => .array .int
  | _ => .array .int
abbrev wsX20 : List Cond := u_ws RX2 TX2 6
theorem nmX2 : ∀ a, a < 6 → ∀ b, b < 6 → a ≠ b → (TX2 a).2.1 ≠ (TX2 b).2.1 := by decide +kernel
theorem tyX2_ok : ∀ k, k < 6 → parseFieldDescriptor (TX2 k).2.2.1 = some (tyX2 k) := by decide +kernel
abbrev cX2_init : ByteArray := prog_4_method_1_code
def yX2_init : MethodName := ⟨RX2, "<init>", "()V"⟩
abbrev cX2_copy : ByteArray := prog_4_method_2_code
def yX2_copy : MethodName := ⟨RX2, "copy", "(LLoopSlicer$Loop;)V"⟩
abbrev cX2_clear : ByteArray := prog_4_method_3_code
def yX2_clear : MethodName := ⟨RX2, "clear", "(I)V"⟩
abbrev cX2_resetSequence : ByteArray := prog_4_method_4_code
def yX2_resetSequence : MethodName := ⟨RX2, "resetSequence", "()V"⟩
abbrev cX2_isFrame : ByteArray := prog_4_method_5_code
def yX2_isFrame : MethodName := ⟨RX2, "isFrame", "(I)Z"⟩
abbrev cX2_isSlice : ByteArray := prog_4_method_6_code
def yX2_isSlice : MethodName := ⟨RX2, "isSlice", "(I)Z"⟩
abbrev cX2_isFree : ByteArray := prog_4_method_7_code
def yX2_isFree : MethodName := ⟨RX2, "isFree", "()Z"⟩
abbrev cX2_endFrame : ByteArray := prog_4_method_8_code
def yX2_endFrame : MethodName := ⟨RX2, "endFrame", "(I)I"⟩
abbrev cX2_lengthOf : ByteArray := prog_4_method_9_code
def yX2_lengthOf : MethodName := ⟨RX2, "lengthOf", "(I)I"⟩
abbrev cX2_leastBudget : ByteArray := prog_4_method_10_code
def yX2_leastBudget : MethodName := ⟨RX2, "leastBudget", "(I)I"⟩
abbrev cX2_mostBudget : ByteArray := prog_4_method_11_code
def yX2_mostBudget : MethodName := ⟨RX2, "mostBudget", "(I)I"⟩
abbrev cX2_loudestFrame : ByteArray := prog_4_method_12_code
def yX2_loudestFrame : MethodName := ⟨RX2, "loudestFrame", "(I)I"⟩
abbrev cX2_placeOf : ByteArray := prog_4_method_13_code
def yX2_placeOf : MethodName := ⟨RX2, "placeOf", "(I)I"⟩
abbrev cX2_exchange : ByteArray := prog_4_method_14_code
def yX2_exchange : MethodName := ⟨RX2, "exchange", "(II)V"⟩
abbrev cX2_marksBefore : ByteArray := prog_4_method_15_code
def yX2_marksBefore : MethodName := ⟨RX2, "marksBefore", "(I)I"⟩
abbrev cX2_insertMark : ByteArray := prog_4_method_16_code
def yX2_insertMark : MethodName := ⟨RX2, "insertMark", "(II)V"⟩
abbrev cX2_removeMark : ByteArray := prog_4_method_17_code
def yX2_removeMark : MethodName := ⟨RX2, "removeMark", "(I)V"⟩
abbrev cX2_findRises : ByteArray := prog_4_method_18_code
def yX2_findRises : MethodName := ⟨RX2, "findRises", "(I[I)I"⟩
def RX3 : String := "LoopSlicer$Result"
def TX3 : u_T := fun k => match k with
  | 0 => ("LoopSlicer$Result", "loop", "LLoopSlicer$Loop;", true)
  | 1 => ("LoopSlicer$Result", "grid", "LLoopSlicer$Grid;", true)
  | 2 => ("LoopSlicer$Result", "budgets", "[I", true)
  | _ => ("LoopSlicer$Result", "remainders", "[J", true)
def tyX3 : Nat → FieldType := fun k => match k with
  | 0 => .object "LoopSlicer$Loop"
  | 1 => .object "LoopSlicer$Grid"
  | 2 => .array .int
  | _ => .array .long
abbrev wsX30 : List Cond := u_ws RX3 TX3 4
theorem nmX3 : ∀ a, a < 4 → ∀ b, b < 4 → a ≠ b → (TX3 a).2.1 ≠ (TX3 b).2.1 := by decide +kernel
theorem tyX3_ok : ∀ k, k < 4 → parseFieldDescriptor (TX3 k).2.2.1 = some (tyX3 k) := by decide +kernel
abbrev cX3_init : ByteArray := prog_5_method_1_code
def yX3_init : MethodName := ⟨RX3, "<init>", "(LLoopSlicer$Loop;LLoopSlicer$Grid;)V"⟩
abbrev cX3_lay : ByteArray := prog_5_method_2_code
def yX3_lay : MethodName := ⟨RX3, "lay", "()Z"⟩
abbrev cX3_shareFreely : ByteArray := prog_5_method_3_code
def yX3_shareFreely : MethodName := ⟨RX3, "shareFreely", "()V"⟩
abbrev cX3_giveOne : ByteArray := prog_5_method_4_code
def yX3_giveOne : MethodName := ⟨RX3, "giveOne", "()V"⟩
abbrev cX3_countBeyondLimits : ByteArray := prog_5_method_5_code
def yX3_countBeyondLimits : MethodName := ⟨RX3, "countBeyondLimits", "()I"⟩
abbrev cX3_sumFades : ByteArray := prog_5_method_6_code
def yX3_sumFades : MethodName := ⟨RX3, "sumFades", "()I"⟩
abbrev cX3_fadeAt : ByteArray := prog_5_method_7_code
def yX3_fadeAt : MethodName := ⟨RX3, "fadeAt", "(I)I"⟩
abbrev cX3_beginOf : ByteArray := prog_5_method_8_code
def yX3_beginOf : MethodName := ⟨RX3, "beginOf", "(I)I"⟩
abbrev cX3_originOf : ByteArray := prog_5_method_9_code
def yX3_originOf : MethodName := ⟨RX3, "originOf", "(III)I"⟩
abbrev cX3_loopSample : ByteArray := prog_5_method_10_code
def yX3_loopSample : MethodName := ⟨RX3, "loopSample", "(II)I"⟩
def RX4 : String := "LoopSlicer"
def TX4 : u_T := fun k => match k with
  | 0 => ("LoopSlicer", "loop", "LLoopSlicer$Loop;", true)
  | 1 => ("LoopSlicer", "grid", "LLoopSlicer$Grid;", true)
  | 2 => ("LoopSlicer", "result", "LLoopSlicer$Result;", true)
  | 3 => ("LoopSlicer", "history", "LLoopSlicer$History;", true)
  | 4 => ("LoopSlicer", "images", "[LLoopSlicer$Loop;", true)
  | 5 => ("LoopSlicer", "kept", "[Z", true)
  | _ => ("LoopSlicer", "wouldBeMarks", "[I", true)
def tyX4 : Nat → FieldType := fun k => match k with
  | 0 => .object "LoopSlicer$Loop"
  | 1 => .object "LoopSlicer$Grid"
  | 2 => .object "LoopSlicer$Result"
  | 3 => .object "LoopSlicer$History"
  | 4 => .array (.object "LoopSlicer$Loop")
  | 5 => .array .boolean
  | _ => .array .int
abbrev wsX40 : List Cond := u_ws RX4 TX4 7
theorem nmX4 : ∀ a, a < 7 → ∀ b, b < 7 → a ≠ b → (TX4 a).2.1 ≠ (TX4 b).2.1 := by decide +kernel
theorem tyX4_ok : ∀ k, k < 7 → parseFieldDescriptor (TX4 k).2.2.1 = some (tyX4 k) := by decide +kernel
abbrev cX4_init : ByteArray := prog_1_method_1_code
def yX4_init : MethodName := ⟨RX4, "<init>", "()V"⟩
abbrev cX4_begin : ByteArray := prog_1_method_2_code
def yX4_begin : MethodName := ⟨RX4, "begin", "(I)I"⟩
abbrev cX4_sound : ByteArray := prog_1_method_3_code
def yX4_sound : MethodName := ⟨RX4, "sound", "(III)I"⟩
abbrev cX4_set : ByteArray := prog_1_method_4_code
def yX4_set : MethodName := ⟨RX4, "set", "(II)I"⟩
abbrev cX4_find : ByteArray := prog_1_method_5_code
def yX4_find : MethodName := ⟨RX4, "find", "()I"⟩
abbrev cX4_mark : ByteArray := prog_1_method_6_code
def yX4_mark : MethodName := ⟨RX4, "mark", "(I)I"⟩
abbrev cX4_unmark : ByteArray := prog_1_method_7_code
def yX4_unmark : MethodName := ⟨RX4, "unmark", "(I)I"⟩
abbrev cX4_moveMark : ByteArray := prog_1_method_8_code
def yX4_moveMark : MethodName := ⟨RX4, "moveMark", "(II)I"⟩
abbrev cX4_swap : ByteArray := prog_1_method_9_code
def yX4_swap : MethodName := ⟨RX4, "swap", "(II)I"⟩
abbrev cX4_reverse : ByteArray := prog_1_method_10_code
def yX4_reverse : MethodName := ⟨RX4, "reverse", "()I"⟩
abbrev cX4_undo : ByteArray := prog_1_method_11_code
def yX4_undo : MethodName := ⟨RX4, "undo", "()I"⟩
abbrev cX4_told : ByteArray := prog_1_method_12_code
def yX4_told : MethodName := ⟨RX4, "told", "(I)I"⟩
abbrev cX4_setting : ByteArray := prog_1_method_13_code
def yX4_setting : MethodName := ⟨RX4, "setting", "(I)I"⟩
abbrev cX4_energy : ByteArray := prog_1_method_14_code
def yX4_energy : MethodName := ⟨RX4, "energy", "(I)I"⟩
abbrev cX4_slice : ByteArray := prog_1_method_15_code
def yX4_slice : MethodName := ⟨RX4, "slice", "(II)I"⟩
abbrev cX4_order : ByteArray := prog_1_method_16_code
def yX4_order : MethodName := ⟨RX4, "order", "(I)I"⟩
abbrev cX4_source : ByteArray := prog_1_method_17_code
def yX4_source : MethodName := ⟨RX4, "source", "(II)I"⟩
abbrev cX4_warp : ByteArray := prog_1_method_18_code
def yX4_warp : MethodName := ⟨RX4, "warp", "(I)F"⟩
abbrev cX4_shift : ByteArray := prog_1_method_19_code
def yX4_shift : MethodName := ⟨RX4, "shift", "()I"⟩
abbrev cX4_leastGrid : ByteArray := prog_1_method_20_code
def yX4_leastGrid : MethodName := ⟨RX4, "leastGrid", "()I"⟩
abbrev cX4_nearTarget : ByteArray := prog_1_method_21_code
def yX4_nearTarget : MethodName := ⟨RX4, "nearTarget", "(I)I"⟩
abbrev cX4_marksWith : ByteArray := prog_1_method_22_code
def yX4_marksWith : MethodName := ⟨RX4, "marksWith", "(I)I"⟩
abbrev cX4_thresholdFor : ByteArray := prog_1_method_23_code
def yX4_thresholdFor : MethodName := ⟨RX4, "thresholdFor", "(I)I"⟩
abbrev cX4_keep : ByteArray := prog_1_method_24_code
def yX4_keep : MethodName := ⟨RX4, "keep", "(I)I"⟩
abbrev cX4_back : ByteArray := prog_1_method_25_code
def yX4_back : MethodName := ⟨RX4, "back", "(I)I"⟩
abbrev cX4_isSetting : ByteArray := prog_1_method_26_code
def yX4_isSetting : MethodName := ⟨RX4, "isSetting", "(I)Z"⟩
abbrev cX4_isImage : ByteArray := prog_1_method_27_code
def yX4_isImage : MethodName := ⟨RX4, "isImage", "(I)Z"⟩
abbrev cX4_isMovable : ByteArray := prog_1_method_28_code
def yX4_isMovable : MethodName := ⟨RX4, "isMovable", "(I)Z"⟩
def RX5 : String := "LoopSlicerModel"
def TX5 : u_T := fun k => match k with
  | 0 => ("LoopSlicerModel", "w", "[I", true)
  | 1 => ("LoopSlicerModel", "past", "[I", true)
  | 2 => ("LoopSlicerModel", "pastMany", "I", false)
  | 3 => ("LoopSlicerModel", "images", "[I", true)
  | 4 => ("LoopSlicerModel", "filled", "I", false)
  | 5 => ("LoopSlicerModel", "found", "[I", true)
  | 6 => ("LoopSlicerModel", "budget", "[I", true)
  | 7 => ("LoopSlicerModel", "steps", "[I", true)
  | 8 => ("LoopSlicerModel", "best", "[J", true)
  | 9 => ("LoopSlicerModel", "least", "J", false)
  | _ => ("LoopSlicerModel", "isServed", "[Z", true)
def tyX5 : Nat → FieldType := fun k => match k with
  | 0 => .array .int
  | 1 => .array .int
  | 2 => .int
  | 3 => .array .int
  | 4 => .int
  | 5 => .array .int
  | 6 => .array .int
  | 7 => .array .int
  | 8 => .array .long
  | 9 => .long
  | _ => .array .boolean
abbrev wsX50 : List Cond := u_ws RX5 TX5 11
theorem nmX5 : ∀ a, a < 11 → ∀ b, b < 11 → a ≠ b → (TX5 a).2.1 ≠ (TX5 b).2.1 := by decide +kernel
theorem tyX5_ok : ∀ k, k < 11 → parseFieldDescriptor (TX5 k).2.2.1 = some (tyX5 k) := by decide +kernel
abbrev cX5_init : ByteArray := prog_7_method_1_code
def yX5_init : MethodName := ⟨RX5, "<init>", "()V"⟩
abbrev cX5_isIn : ByteArray := prog_7_method_3_code
def yX5_isIn : MethodName := ⟨RX5, "isIn", "(III)Z"⟩
abbrev cX5_layLoop : ByteArray := prog_7_method_4_code
def yX5_layLoop : MethodName := ⟨RX5, "layLoop", "(I)V"⟩
abbrev cX5_layOrder : ByteArray := prog_7_method_5_code
def yX5_layOrder : MethodName := ⟨RX5, "layOrder", "()V"⟩
abbrev cX5_remember : ByteArray := prog_7_method_6_code
def yX5_remember : MethodName := ⟨RX5, "remember", "()V"⟩
abbrev cX5_isFrame : ByteArray := prog_7_method_7_code
def yX5_isFrame : MethodName := ⟨RX5, "isFrame", "(I)Z"⟩
abbrev cX5_isSlice : ByteArray := prog_7_method_8_code
def yX5_isSlice : MethodName := ⟨RX5, "isSlice", "(I)Z"⟩
abbrev cX5_frameOf : ByteArray := prog_7_method_9_code
def yX5_frameOf : MethodName := ⟨RX5, "frameOf", "(I)I"⟩
abbrev cX5_lengthOf : ByteArray := prog_7_method_10_code
def yX5_lengthOf : MethodName := ⟨RX5, "lengthOf", "(I)I"⟩
abbrev cX5_whole : ByteArray := prog_7_method_11_code
def yX5_whole : MethodName := ⟨RX5, "whole", "()I"⟩
abbrev cX5_findBy : ByteArray := prog_7_method_12_code
def yX5_findBy : MethodName := ⟨RX5, "findBy", "(I)I"⟩
abbrev cX5_layFree : ByteArray := prog_7_method_13_code
def yX5_layFree : MethodName := ⟨RX5, "layFree", "()V"⟩
abbrev cX5_remainder : ByteArray := prog_7_method_14_code
def yX5_remainder : MethodName := ⟨RX5, "remainder", "(I)J"⟩
abbrev cX5_sampleAt : ByteArray := prog_7_method_15_code
def yX5_sampleAt : MethodName := ⟨RX5, "sampleAt", "(III)I"⟩
abbrev cX5_fits : ByteArray := prog_7_method_16_code
def yX5_fits : MethodName := ⟨RX5, "fits", "(II)Z"⟩
abbrev cX5_off : ByteArray := prog_7_method_17_code
def yX5_off : MethodName := ⟨RX5, "off", "(IIII)J"⟩
abbrev cX5_bestFrom : ByteArray := prog_7_method_18_code
def yX5_bestFrom : MethodName := ⟨RX5, "bestFrom", "(IIII)J"⟩
abbrev cX5_layGrid : ByteArray := prog_7_method_19_code
def yX5_layGrid : MethodName := ⟨RX5, "layGrid", "(II)Z"⟩
abbrev cX5_isLaid : ByteArray := prog_7_method_20_code
def yX5_isLaid : MethodName := ⟨RX5, "isLaid", "()Z"⟩
abbrev cX5_placeOf : ByteArray := prog_7_method_21_code
def yX5_placeOf : MethodName := ⟨RX5, "placeOf", "(I)I"⟩
abbrev cX5_fadeOf : ByteArray := prog_7_method_22_code
def yX5_fadeOf : MethodName := ⟨RX5, "fadeOf", "(I)I"⟩
abbrev cX5_begin : ByteArray := prog_7_method_23_code
def yX5_begin : MethodName := ⟨RX5, "begin", "(I)I"⟩
abbrev cX5_sound : ByteArray := prog_7_method_24_code
def yX5_sound : MethodName := ⟨RX5, "sound", "(III)I"⟩
abbrev cX5_isOf : ByteArray := prog_7_method_25_code
def yX5_isOf : MethodName := ⟨RX5, "isOf", "(II)Z"⟩
abbrev cX5_set : ByteArray := prog_7_method_26_code
def yX5_set : MethodName := ⟨RX5, "set", "(II)I"⟩
abbrev cX5_find : ByteArray := prog_7_method_27_code
def yX5_find : MethodName := ⟨RX5, "find", "()I"⟩
abbrev cX5_mark : ByteArray := prog_7_method_28_code
def yX5_mark : MethodName := ⟨RX5, "mark", "(I)I"⟩
abbrev cX5_isFurther : ByteArray := prog_7_method_29_code
def yX5_isFurther : MethodName := ⟨RX5, "isFurther", "(I)Z"⟩
abbrev cX5_unmark : ByteArray := prog_7_method_30_code
def yX5_unmark : MethodName := ⟨RX5, "unmark", "(I)I"⟩
abbrev cX5_moveMark : ByteArray := prog_7_method_31_code
def yX5_moveMark : MethodName := ⟨RX5, "moveMark", "(II)I"⟩
abbrev cX5_swap : ByteArray := prog_7_method_32_code
def yX5_swap : MethodName := ⟨RX5, "swap", "(II)I"⟩
abbrev cX5_reverse : ByteArray := prog_7_method_33_code
def yX5_reverse : MethodName := ⟨RX5, "reverse", "()I"⟩
abbrev cX5_undo : ByteArray := prog_7_method_34_code
def yX5_undo : MethodName := ⟨RX5, "undo", "()I"⟩
abbrev cX5_beyond : ByteArray := prog_7_method_35_code
def yX5_beyond : MethodName := ⟨RX5, "beyond", "()I"⟩
abbrev cX5_fades : ByteArray := prog_7_method_36_code
def yX5_fades : MethodName := ⟨RX5, "fades", "()I"⟩
abbrev cX5_told : ByteArray := prog_7_method_37_code
def yX5_told : MethodName := ⟨RX5, "told", "(I)I"⟩
abbrev cX5_setting : ByteArray := prog_7_method_38_code
def yX5_setting : MethodName := ⟨RX5, "setting", "(I)I"⟩
abbrev cX5_energy : ByteArray := prog_7_method_39_code
def yX5_energy : MethodName := ⟨RX5, "energy", "(I)I"⟩
abbrev cX5_loudest : ByteArray := prog_7_method_40_code
def yX5_loudest : MethodName := ⟨RX5, "loudest", "(I)I"⟩
abbrev cX5_beginOf : ByteArray := prog_7_method_41_code
def yX5_beginOf : MethodName := ⟨RX5, "beginOf", "(I)I"⟩
abbrev cX5_slice : ByteArray := prog_7_method_42_code
def yX5_slice : MethodName := ⟨RX5, "slice", "(II)I"⟩
abbrev cX5_order : ByteArray := prog_7_method_43_code
def yX5_order : MethodName := ⟨RX5, "order", "(I)I"⟩
abbrev cX5_source : ByteArray := prog_7_method_44_code
def yX5_source : MethodName := ⟨RX5, "source", "(II)I"⟩
abbrev cX5_warp : ByteArray := prog_7_method_45_code
def yX5_warp : MethodName := ⟨RX5, "warp", "(I)F"⟩
abbrev cX5_shift : ByteArray := prog_7_method_46_code
def yX5_shift : MethodName := ⟨RX5, "shift", "()I"⟩
abbrev cX5_leastGrid : ByteArray := prog_7_method_47_code
def yX5_leastGrid : MethodName := ⟨RX5, "leastGrid", "()I"⟩
abbrev cX5_canBe : ByteArray := prog_7_method_48_code
def yX5_canBe : MethodName := ⟨RX5, "canBe", "(I)Z"⟩
abbrev cX5_nearTarget : ByteArray := prog_7_method_49_code
def yX5_nearTarget : MethodName := ⟨RX5, "nearTarget", "(I)I"⟩
abbrev cX5_marksWith : ByteArray := prog_7_method_50_code
def yX5_marksWith : MethodName := ⟨RX5, "marksWith", "(I)I"⟩
abbrev cX5_thresholdFor : ByteArray := prog_7_method_51_code
def yX5_thresholdFor : MethodName := ⟨RX5, "thresholdFor", "(I)I"⟩
abbrev cX5_isImage : ByteArray := prog_7_method_52_code
def yX5_isImage : MethodName := ⟨RX5, "isImage", "(I)Z"⟩
abbrev cX5_keep : ByteArray := prog_7_method_53_code
def yX5_keep : MethodName := ⟨RX5, "keep", "(I)I"⟩
abbrev cX5_back : ByteArray := prog_7_method_54_code
def yX5_back : MethodName := ⟨RX5, "back", "(I)I"⟩
def RJx8e188 : String := "java/lang/Cloneable"
def TJx8e188 : u_T := fun k => match k with
  | _ => ("", "", "", false)
def tyJx8e188 : Nat → FieldType := fun k => match k with
  | _ => .int
abbrev wsJx8e1880 : List Cond := u_ws RJx8e188 TJx8e188 0
theorem nmJx8e188 : ∀ a, a < 0 → ∀ b, b < 0 → a ≠ b → (TJx8e188 a).2.1 ≠ (TJx8e188 b).2.1 := by decide +kernel
theorem tyJx8e188_ok : ∀ k, k < 0 → parseFieldDescriptor (TJx8e188 k).2.2.1 = some (tyJx8e188 k) := by decide +kernel
def RJ9 : String := "java/lang/Math"
def TJ9 : u_T := fun k => match k with
  | _ => ("", "", "", false)
def tyJ9 : Nat → FieldType := fun k => match k with
  | _ => .int
abbrev wsJ90 : List Cond := u_ws RJ9 TJ9 0
theorem nmJ9 : ∀ a, a < 0 → ∀ b, b < 0 → a ≠ b → (TJ9 a).2.1 ≠ (TJ9 b).2.1 := by decide +kernel
theorem tyJ9_ok : ∀ k, k < 0 → parseFieldDescriptor (TJ9 k).2.2.1 = some (tyJ9 k) := by decide +kernel
abbrev cJ9_abs_0f7a4 : ByteArray := prog_9_method_59_code
def yJ9_abs_0f7a4 : MethodName := ⟨RJ9, "abs", "(I)I"⟩
abbrev cJ9_max_7cf53 : ByteArray := prog_9_method_65_code
def yJ9_max_7cf53 : MethodName := ⟨RJ9, "max", "(II)I"⟩
abbrev cJ9_min_7cf53 : ByteArray := prog_9_method_69_code
def yJ9_min_7cf53 : MethodName := ⟨RJ9, "min", "(II)I"⟩
def RJ10 : String := "java/lang/System"
def TJ10 : u_T := fun k => match k with
  | _ => ("", "", "", false)
def tyJ10 : Nat → FieldType := fun k => match k with
  | _ => .int
abbrev wsJ100 : List Cond := u_ws RJ10 TJ10 0
theorem nmJ10 : ∀ a, a < 0 → ∀ b, b < 0 → a ≠ b → (TJ10 a).2.1 ≠ (TJ10 b).2.1 := by decide +kernel
theorem tyJ10_ok : ∀ k, k < 0 → parseFieldDescriptor (TJ10 k).2.2.1 = some (tyJ10 k) := by decide +kernel
def RL : String := "LoopSlicerLaw"
abbrev cL_law : ByteArray := code
def yL_law : MethodName := ⟨RL, "law", "([I)Z"⟩
def wsX0_init : List Cond := .code yX0_init cX0_init 2 none :: ([.methodLink RX0 3 objectInit, .instanceMethod objectInit, .code objectInit ⟨#[0xb1]⟩ 1 none, .arrayClass .int, .fieldLink RX0 11 "LoopSlicer$Grid" "positions" "[I", .fieldLink RX0 15 "LoopSlicer$Grid" "least" "[I", .fieldLink RX0 18 "LoopSlicer$Grid" "most" "[I", .fieldLink RX0 21 "LoopSlicer$Grid" "sums" "[I", .fieldLink RX0 24 "LoopSlicer$Grid" "steps" "[I", .fieldLink RX0 27 "LoopSlicer$Grid" "loop" "LLoopSlicer$Loop;"] ++ wsX00)
def wsX2_endFrame : List Cond := .code yX2_endFrame cX2_endFrame 2 (some .int) :: ([.fieldLink RX2 15 "LoopSlicer$Loop" "markCount" "I", .fieldLink RX2 33 "LoopSlicer$Loop" "marks" "[I", .fieldLink RX2 9 "LoopSlicer$Loop" "frames" "I"] ++ wsX20)
def wsX2_lengthOf : List Cond := .code yX2_lengthOf cX2_lengthOf 2 (some .int) :: ([.fieldLink RX2 33 "LoopSlicer$Loop" "marks" "[I", .fieldLink RX2 30 "LoopSlicer$Loop" "settings" "[I", .methodLink RX2 48 yX2_endFrame, .instanceMethod yX2_endFrame, .selects RX2 yX2_endFrame yX2_endFrame, .initialized RX2, .code yX2_endFrame cX2_endFrame 2 (some .int), .fieldLink RX2 15 "LoopSlicer$Loop" "markCount" "I", .fieldLink RX2 9 "LoopSlicer$Loop" "frames" "I"] ++ wsX20)
def wsX2_leastBudget : List Cond := .code yX2_leastBudget cX2_leastBudget 2 (some .int) :: ([.fieldLink RX2 30 "LoopSlicer$Loop" "settings" "[I"] ++ wsX20)
def wsX2_mostBudget : List Cond := .code yX2_mostBudget cX2_mostBudget 2 (some .int) :: ([.fieldLink RX2 30 "LoopSlicer$Loop" "settings" "[I"] ++ wsX20)
def wsX0_measure_r1 : List Cond := [Cond.fieldLink RX0 44 "LoopSlicer$Grid" "lastStep" "I", Cond.fieldLink RX0 11 "LoopSlicer$Grid" "positions" "[I", Cond.fieldLink RX0 41 "LoopSlicer$Grid" "target" "I", Cond.fieldLink RX0 27 "LoopSlicer$Grid" "loop" "LLoopSlicer$Loop;", Cond.fieldLink RX0 35 "LoopSlicer$Loop" "markCount" "I", Cond.fieldLink RX0 15 "LoopSlicer$Grid" "least" "[I", Cond.fieldLink RX0 18 "LoopSlicer$Grid" "most" "[I", Cond.methodLink RX0 60 yX2_lengthOf, Cond.instanceMethod yX2_lengthOf, Cond.selects RX2 yX2_lengthOf yX2_lengthOf, Cond.initialized RX2, Cond.code yX2_lengthOf cX2_lengthOf 2 (some .int), Cond.fieldLink RX2 33 "LoopSlicer$Loop" "marks" "[I", Cond.fieldLink RX2 30 "LoopSlicer$Loop" "settings" "[I", Cond.methodLink RX2 48 yX2_endFrame, Cond.instanceMethod yX2_endFrame, Cond.selects RX2 yX2_endFrame yX2_endFrame, Cond.code yX2_endFrame cX2_endFrame 2 (some .int), Cond.fieldLink RX2 15 "LoopSlicer$Loop" "markCount" "I", Cond.fieldLink RX2 9 "LoopSlicer$Loop" "frames" "I", Cond.methodLink RX0 64 yX2_leastBudget, Cond.instanceMethod yX2_leastBudget, Cond.selects RX2 yX2_leastBudget yX2_leastBudget, Cond.code yX2_leastBudget cX2_leastBudget 2 (some .int)]
def wsX0_measure_r2 : List Cond := [Cond.methodLink RX0 67 yX2_mostBudget, Cond.instanceMethod yX2_mostBudget, Cond.selects RX2 yX2_mostBudget yX2_mostBudget, Cond.code yX2_mostBudget cX2_mostBudget 2 (some .int)]
def wsX0_measure : List Cond := .code yX0_measure cX0_measure 3 none :: ((wsX0_measure_r1 ++ wsX0_measure_r2) ++ wsX00 ++ wsX20)
def wsX0_lastStepOf : List Cond := .code yX0_lastStepOf cX0_lastStepOf 2 (some .int) :: ([.fieldLink RX0 44 "LoopSlicer$Grid" "lastStep" "I", .fieldLink RX0 27 "LoopSlicer$Grid" "loop" "LLoopSlicer$Loop;", .fieldLink RX0 35 "LoopSlicer$Loop" "markCount" "I"] ++ wsX00 ++ wsX20)
def wsX0_firstStepOf : List Cond := .code yX0_firstStepOf cX0_firstStepOf 2 (some .int) :: ([.fieldLink RX0 27 "LoopSlicer$Grid" "loop" "LLoopSlicer$Loop;", .fieldLink RX0 35 "LoopSlicer$Loop" "markCount" "I", .fieldLink RX0 44 "LoopSlicer$Grid" "lastStep" "I"] ++ wsX00 ++ wsX20)
def wsX0_bestNext : List Cond := .code yX0_bestNext cX0_bestNext 9 (some .int) :: ([.methodLink RX0 79 Lib.Math.max.name, .static Lib.Math.max.name, .initialized "java/lang/Math", .code Lib.Math.max.name Lib.Math.max.code 2 (some .int), .fieldLink RX0 11 "LoopSlicer$Grid" "positions" "[I", .fieldLink RX0 18 "LoopSlicer$Grid" "most" "[I", .fieldLink RX0 15 "LoopSlicer$Grid" "least" "[I", .fieldLink RX0 21 "LoopSlicer$Grid" "sums" "[I", .methodLink RX0 70 yX0_lastStepOf, .instanceMethod yX0_lastStepOf, .selects RX0 yX0_lastStepOf yX0_lastStepOf, .initialized RX0, .code yX0_lastStepOf cX0_lastStepOf 2 (some .int), .fieldLink RX0 44 "LoopSlicer$Grid" "lastStep" "I", .fieldLink RX0 27 "LoopSlicer$Grid" "loop" "LLoopSlicer$Loop;", .fieldLink RX0 35 "LoopSlicer$Loop" "markCount" "I", .methodLink RX0 73 yX0_firstStepOf, .instanceMethod yX0_firstStepOf, .selects RX0 yX0_firstStepOf yX0_firstStepOf, .code yX0_firstStepOf cX0_firstStepOf 2 (some .int)] ++ wsX00 ++ wsX20)
def wsX0_distance : List Cond := .code yX0_distance cX0_distance 3 (some .int) :: ([.fieldLink RX0 11 "LoopSlicer$Grid" "positions" "[I", .fieldLink RX0 27 "LoopSlicer$Grid" "loop" "LLoopSlicer$Loop;", .fieldLink RX0 84 "LoopSlicer$Loop" "frames" "I", .fieldLink RX0 87 "LoopSlicer$Loop" "marks" "[I", .fieldLink RX0 41 "LoopSlicer$Grid" "target" "I", .methodLink RX0 90 Lib.Math.abs.name, .static Lib.Math.abs.name, .initialized "java/lang/Math", .code Lib.Math.abs.name Lib.Math.abs.code 1 (some .int)] ++ wsX00 ++ wsX20)
def wsX0_fillSums_r1 : List Cond := [Cond.fieldLink RX0 21 "LoopSlicer$Grid" "sums" "[I", Cond.methodLink RX0 70 yX0_lastStepOf, Cond.instanceMethod yX0_lastStepOf, Cond.selects RX0 yX0_lastStepOf yX0_lastStepOf, Cond.initialized RX0, Cond.code yX0_lastStepOf cX0_lastStepOf 2 (some .int), Cond.fieldLink RX0 44 "LoopSlicer$Grid" "lastStep" "I", Cond.fieldLink RX0 27 "LoopSlicer$Grid" "loop" "LLoopSlicer$Loop;", Cond.fieldLink RX0 35 "LoopSlicer$Loop" "markCount" "I", Cond.methodLink RX0 73 yX0_firstStepOf, Cond.instanceMethod yX0_firstStepOf, Cond.selects RX0 yX0_firstStepOf yX0_firstStepOf, Cond.code yX0_firstStepOf cX0_firstStepOf 2 (some .int), Cond.methodLink RX0 57 yX0_bestNext, Cond.instanceMethod yX0_bestNext, Cond.selects RX0 yX0_bestNext yX0_bestNext, Cond.code yX0_bestNext cX0_bestNext 9 (some .int), Cond.methodLink RX0 79 Lib.Math.max.name, Cond.static Lib.Math.max.name, Cond.initialized "java/lang/Math", Cond.code Lib.Math.max.name Lib.Math.max.code 2 (some .int), Cond.fieldLink RX0 11 "LoopSlicer$Grid" "positions" "[I", Cond.fieldLink RX0 18 "LoopSlicer$Grid" "most" "[I", Cond.fieldLink RX0 15 "LoopSlicer$Grid" "least" "[I"]
def wsX0_fillSums_r2 : List Cond := [Cond.methodLink RX0 76 yX0_distance, Cond.instanceMethod yX0_distance, Cond.selects RX0 yX0_distance yX0_distance, Cond.code yX0_distance cX0_distance 3 (some .int), Cond.fieldLink RX0 84 "LoopSlicer$Loop" "frames" "I", Cond.fieldLink RX0 87 "LoopSlicer$Loop" "marks" "[I", Cond.fieldLink RX0 41 "LoopSlicer$Grid" "target" "I", Cond.methodLink RX0 90 Lib.Math.abs.name, Cond.static Lib.Math.abs.name, Cond.code Lib.Math.abs.name Lib.Math.abs.code 1 (some .int)]
def wsX0_fillSums : List Cond := .code yX0_fillSums cX0_fillSums 7 (some .boolean) :: ((wsX0_fillSums_r1 ++ wsX0_fillSums_r2) ++ wsX00 ++ wsX20)
def wsX0_leastSum_r1 : List Cond := [Cond.fieldLink RX0 27 "LoopSlicer$Grid" "loop" "LLoopSlicer$Loop;", Cond.fieldLink RX0 35 "LoopSlicer$Loop" "markCount" "I", Cond.fieldLink RX0 41 "LoopSlicer$Grid" "target" "I", Cond.fieldLink RX0 44 "LoopSlicer$Grid" "lastStep" "I", Cond.fieldLink RX0 21 "LoopSlicer$Grid" "sums" "[I", Cond.methodLink RX0 47 yX0_measure, Cond.instanceMethod yX0_measure, Cond.selects RX0 yX0_measure yX0_measure, Cond.initialized RX0, Cond.code yX0_measure cX0_measure 3 none, Cond.fieldLink RX0 11 "LoopSlicer$Grid" "positions" "[I", Cond.fieldLink RX0 15 "LoopSlicer$Grid" "least" "[I", Cond.fieldLink RX0 18 "LoopSlicer$Grid" "most" "[I", Cond.methodLink RX0 60 yX2_lengthOf, Cond.instanceMethod yX2_lengthOf, Cond.selects RX2 yX2_lengthOf yX2_lengthOf, Cond.initialized RX2, Cond.code yX2_lengthOf cX2_lengthOf 2 (some .int), Cond.fieldLink RX2 33 "LoopSlicer$Loop" "marks" "[I", Cond.fieldLink RX2 30 "LoopSlicer$Loop" "settings" "[I", Cond.methodLink RX2 48 yX2_endFrame, Cond.instanceMethod yX2_endFrame, Cond.selects RX2 yX2_endFrame yX2_endFrame, Cond.code yX2_endFrame cX2_endFrame 2 (some .int)]
def wsX0_leastSum_r2 : List Cond := [Cond.fieldLink RX2 15 "LoopSlicer$Loop" "markCount" "I", Cond.fieldLink RX2 9 "LoopSlicer$Loop" "frames" "I", Cond.methodLink RX0 64 yX2_leastBudget, Cond.instanceMethod yX2_leastBudget, Cond.selects RX2 yX2_leastBudget yX2_leastBudget, Cond.code yX2_leastBudget cX2_leastBudget 2 (some .int), Cond.methodLink RX0 67 yX2_mostBudget, Cond.instanceMethod yX2_mostBudget, Cond.selects RX2 yX2_mostBudget yX2_mostBudget, Cond.code yX2_mostBudget cX2_mostBudget 2 (some .int), Cond.methodLink RX0 50 yX0_fillSums, Cond.instanceMethod yX0_fillSums, Cond.selects RX0 yX0_fillSums yX0_fillSums, Cond.code yX0_fillSums cX0_fillSums 7 (some .boolean), Cond.methodLink RX0 70 yX0_lastStepOf, Cond.instanceMethod yX0_lastStepOf, Cond.selects RX0 yX0_lastStepOf yX0_lastStepOf, Cond.code yX0_lastStepOf cX0_lastStepOf 2 (some .int), Cond.methodLink RX0 73 yX0_firstStepOf, Cond.instanceMethod yX0_firstStepOf, Cond.selects RX0 yX0_firstStepOf yX0_firstStepOf, Cond.code yX0_firstStepOf cX0_firstStepOf 2 (some .int), Cond.methodLink RX0 57 yX0_bestNext, Cond.instanceMethod yX0_bestNext]
def wsX0_leastSum_r3 : List Cond := [Cond.selects RX0 yX0_bestNext yX0_bestNext, Cond.code yX0_bestNext cX0_bestNext 9 (some .int), Cond.methodLink RX0 79 Lib.Math.max.name, Cond.static Lib.Math.max.name, Cond.initialized "java/lang/Math", Cond.code Lib.Math.max.name Lib.Math.max.code 2 (some .int), Cond.methodLink RX0 76 yX0_distance, Cond.instanceMethod yX0_distance, Cond.selects RX0 yX0_distance yX0_distance, Cond.code yX0_distance cX0_distance 3 (some .int), Cond.fieldLink RX0 84 "LoopSlicer$Loop" "frames" "I", Cond.fieldLink RX0 87 "LoopSlicer$Loop" "marks" "[I", Cond.methodLink RX0 90 Lib.Math.abs.name, Cond.static Lib.Math.abs.name, Cond.code Lib.Math.abs.name Lib.Math.abs.code 1 (some .int)]
def wsX0_leastSum : List Cond := .code yX0_leastSum cX0_leastSum 4 (some .int) :: ((wsX0_leastSum_r1 ++ (wsX0_leastSum_r2 ++ wsX0_leastSum_r3)) ++ wsX00 ++ wsX20)
def wsX0_canLay_r1 : List Cond := [Cond.methodLink RX0 31 yX0_leastSum, Cond.instanceMethod yX0_leastSum, Cond.selects RX0 yX0_leastSum yX0_leastSum, Cond.initialized RX0, Cond.code yX0_leastSum cX0_leastSum 4 (some .int), Cond.fieldLink RX0 27 "LoopSlicer$Grid" "loop" "LLoopSlicer$Loop;", Cond.fieldLink RX0 35 "LoopSlicer$Loop" "markCount" "I", Cond.fieldLink RX0 41 "LoopSlicer$Grid" "target" "I", Cond.fieldLink RX0 44 "LoopSlicer$Grid" "lastStep" "I", Cond.fieldLink RX0 21 "LoopSlicer$Grid" "sums" "[I", Cond.methodLink RX0 47 yX0_measure, Cond.instanceMethod yX0_measure, Cond.selects RX0 yX0_measure yX0_measure, Cond.code yX0_measure cX0_measure 3 none, Cond.fieldLink RX0 11 "LoopSlicer$Grid" "positions" "[I", Cond.fieldLink RX0 15 "LoopSlicer$Grid" "least" "[I", Cond.fieldLink RX0 18 "LoopSlicer$Grid" "most" "[I", Cond.methodLink RX0 60 yX2_lengthOf, Cond.instanceMethod yX2_lengthOf, Cond.selects RX2 yX2_lengthOf yX2_lengthOf, Cond.initialized RX2, Cond.code yX2_lengthOf cX2_lengthOf 2 (some .int), Cond.fieldLink RX2 33 "LoopSlicer$Loop" "marks" "[I", Cond.fieldLink RX2 30 "LoopSlicer$Loop" "settings" "[I"]
def wsX0_canLay_r2 : List Cond := [Cond.methodLink RX2 48 yX2_endFrame, Cond.instanceMethod yX2_endFrame, Cond.selects RX2 yX2_endFrame yX2_endFrame, Cond.code yX2_endFrame cX2_endFrame 2 (some .int), Cond.fieldLink RX2 15 "LoopSlicer$Loop" "markCount" "I", Cond.fieldLink RX2 9 "LoopSlicer$Loop" "frames" "I", Cond.methodLink RX0 64 yX2_leastBudget, Cond.instanceMethod yX2_leastBudget, Cond.selects RX2 yX2_leastBudget yX2_leastBudget, Cond.code yX2_leastBudget cX2_leastBudget 2 (some .int), Cond.methodLink RX0 67 yX2_mostBudget, Cond.instanceMethod yX2_mostBudget, Cond.selects RX2 yX2_mostBudget yX2_mostBudget, Cond.code yX2_mostBudget cX2_mostBudget 2 (some .int), Cond.methodLink RX0 50 yX0_fillSums, Cond.instanceMethod yX0_fillSums, Cond.selects RX0 yX0_fillSums yX0_fillSums, Cond.code yX0_fillSums cX0_fillSums 7 (some .boolean), Cond.methodLink RX0 70 yX0_lastStepOf, Cond.instanceMethod yX0_lastStepOf, Cond.selects RX0 yX0_lastStepOf yX0_lastStepOf, Cond.code yX0_lastStepOf cX0_lastStepOf 2 (some .int), Cond.methodLink RX0 73 yX0_firstStepOf, Cond.instanceMethod yX0_firstStepOf]
def wsX0_canLay_r3 : List Cond := [Cond.selects RX0 yX0_firstStepOf yX0_firstStepOf, Cond.code yX0_firstStepOf cX0_firstStepOf 2 (some .int), Cond.methodLink RX0 57 yX0_bestNext, Cond.instanceMethod yX0_bestNext, Cond.selects RX0 yX0_bestNext yX0_bestNext, Cond.code yX0_bestNext cX0_bestNext 9 (some .int), Cond.methodLink RX0 79 Lib.Math.max.name, Cond.static Lib.Math.max.name, Cond.initialized "java/lang/Math", Cond.code Lib.Math.max.name Lib.Math.max.code 2 (some .int), Cond.methodLink RX0 76 yX0_distance, Cond.instanceMethod yX0_distance, Cond.selects RX0 yX0_distance yX0_distance, Cond.code yX0_distance cX0_distance 3 (some .int), Cond.fieldLink RX0 84 "LoopSlicer$Loop" "frames" "I", Cond.fieldLink RX0 87 "LoopSlicer$Loop" "marks" "[I", Cond.methodLink RX0 90 Lib.Math.abs.name, Cond.static Lib.Math.abs.name, Cond.code Lib.Math.abs.name Lib.Math.abs.code 1 (some .int)]
def wsX0_canLay : List Cond := .code yX0_canLay cX0_canLay 3 (some .boolean) :: ((wsX0_canLay_r1 ++ (wsX0_canLay_r2 ++ wsX0_canLay_r3)) ++ wsX00 ++ wsX20)
def wsX0_draw_r1 : List Cond := [Cond.fieldLink RX0 27 "LoopSlicer$Grid" "loop" "LLoopSlicer$Loop;", Cond.fieldLink RX0 54 "LoopSlicer$Loop" "settings" "[I", Cond.fieldLink RX0 24 "LoopSlicer$Grid" "steps" "[I", Cond.fieldLink RX0 35 "LoopSlicer$Loop" "markCount" "I", Cond.methodLink RX0 31 yX0_leastSum, Cond.instanceMethod yX0_leastSum, Cond.selects RX0 yX0_leastSum yX0_leastSum, Cond.initialized RX0, Cond.code yX0_leastSum cX0_leastSum 4 (some .int), Cond.fieldLink RX0 41 "LoopSlicer$Grid" "target" "I", Cond.fieldLink RX0 44 "LoopSlicer$Grid" "lastStep" "I", Cond.fieldLink RX0 21 "LoopSlicer$Grid" "sums" "[I", Cond.methodLink RX0 47 yX0_measure, Cond.instanceMethod yX0_measure, Cond.selects RX0 yX0_measure yX0_measure, Cond.code yX0_measure cX0_measure 3 none, Cond.fieldLink RX0 11 "LoopSlicer$Grid" "positions" "[I", Cond.fieldLink RX0 15 "LoopSlicer$Grid" "least" "[I", Cond.fieldLink RX0 18 "LoopSlicer$Grid" "most" "[I", Cond.methodLink RX0 60 yX2_lengthOf, Cond.instanceMethod yX2_lengthOf, Cond.selects RX2 yX2_lengthOf yX2_lengthOf, Cond.initialized RX2, Cond.code yX2_lengthOf cX2_lengthOf 2 (some .int)]
def wsX0_draw_r2 : List Cond := [Cond.fieldLink RX2 33 "LoopSlicer$Loop" "marks" "[I", Cond.fieldLink RX2 30 "LoopSlicer$Loop" "settings" "[I", Cond.methodLink RX2 48 yX2_endFrame, Cond.instanceMethod yX2_endFrame, Cond.selects RX2 yX2_endFrame yX2_endFrame, Cond.code yX2_endFrame cX2_endFrame 2 (some .int), Cond.fieldLink RX2 15 "LoopSlicer$Loop" "markCount" "I", Cond.fieldLink RX2 9 "LoopSlicer$Loop" "frames" "I", Cond.methodLink RX0 64 yX2_leastBudget, Cond.instanceMethod yX2_leastBudget, Cond.selects RX2 yX2_leastBudget yX2_leastBudget, Cond.code yX2_leastBudget cX2_leastBudget 2 (some .int), Cond.methodLink RX0 67 yX2_mostBudget, Cond.instanceMethod yX2_mostBudget, Cond.selects RX2 yX2_mostBudget yX2_mostBudget, Cond.code yX2_mostBudget cX2_mostBudget 2 (some .int), Cond.methodLink RX0 50 yX0_fillSums, Cond.instanceMethod yX0_fillSums, Cond.selects RX0 yX0_fillSums yX0_fillSums, Cond.code yX0_fillSums cX0_fillSums 7 (some .boolean), Cond.methodLink RX0 70 yX0_lastStepOf, Cond.instanceMethod yX0_lastStepOf, Cond.selects RX0 yX0_lastStepOf yX0_lastStepOf, Cond.code yX0_lastStepOf cX0_lastStepOf 2 (some .int)]
def wsX0_draw_r3 : List Cond := [Cond.methodLink RX0 73 yX0_firstStepOf, Cond.instanceMethod yX0_firstStepOf, Cond.selects RX0 yX0_firstStepOf yX0_firstStepOf, Cond.code yX0_firstStepOf cX0_firstStepOf 2 (some .int), Cond.methodLink RX0 57 yX0_bestNext, Cond.instanceMethod yX0_bestNext, Cond.selects RX0 yX0_bestNext yX0_bestNext, Cond.code yX0_bestNext cX0_bestNext 9 (some .int), Cond.methodLink RX0 79 Lib.Math.max.name, Cond.static Lib.Math.max.name, Cond.initialized "java/lang/Math", Cond.code Lib.Math.max.name Lib.Math.max.code 2 (some .int), Cond.methodLink RX0 76 yX0_distance, Cond.instanceMethod yX0_distance, Cond.selects RX0 yX0_distance yX0_distance, Cond.code yX0_distance cX0_distance 3 (some .int), Cond.fieldLink RX0 84 "LoopSlicer$Loop" "frames" "I", Cond.fieldLink RX0 87 "LoopSlicer$Loop" "marks" "[I", Cond.methodLink RX0 90 Lib.Math.abs.name, Cond.static Lib.Math.abs.name, Cond.code Lib.Math.abs.name Lib.Math.abs.code 1 (some .int)]
def wsX0_draw : List Cond := .code yX0_draw cX0_draw 3 (some .boolean) :: ((wsX0_draw_r1 ++ (wsX0_draw_r2 ++ wsX0_draw_r3)) ++ wsX00 ++ wsX20)
def wsX0_budgetOf : List Cond := .code yX0_budgetOf cX0_budgetOf 2 (some .int) :: ([.fieldLink RX0 11 "LoopSlicer$Grid" "positions" "[I", .fieldLink RX0 24 "LoopSlicer$Grid" "steps" "[I"] ++ wsX00)
def wsX2_init : List Cond := .code yX2_init cX2_init 1 none :: ([.methodLink RX2 3 objectInit, .instanceMethod objectInit, .code objectInit ⟨#[0xb1]⟩ 1 none, .fieldLink RX2 9 "LoopSlicer$Loop" "frames" "I", .fieldLink RX2 15 "LoopSlicer$Loop" "markCount" "I", .arrayClass .int, .fieldLink RX2 18 "LoopSlicer$Loop" "energies" "[I", .methodLink RX2 25 ⟨"[I", "clone", "()Ljava/lang/Object;"⟩, .sameMethod "[I" "java/lang/Object" "clone" "()Ljava/lang/Object;", .native ⟨"java/lang/Object", "clone", "()Ljava/lang/Object;"⟩, .instanceMethod ⟨"java/lang/Object", "clone", "()Ljava/lang/Object;"⟩, .selects "[I" ⟨"[I", "clone", "()Ljava/lang/Object;"⟩ ⟨"java/lang/Object", "clone", "()Ljava/lang/Object;"⟩, .classLink RX2 26 "[I", .fieldLink RX2 30 "LoopSlicer$Loop" "settings" "[I", .fieldLink RX2 33 "LoopSlicer$Loop" "marks" "[I", .fieldLink RX2 36 "LoopSlicer$Loop" "sequence" "[I"] ++ wsX20)
def wsX1_init : List Cond := .code yX1_init cX1_init 2 none :: ([.methodLink RX1 3 objectInit, .instanceMethod objectInit, .code objectInit ⟨#[0xb1]⟩ 1 none, .classLink RX1 9 RX2, .fieldLink RX1 11 "LoopSlicer$History" "states" "[LLoopSlicer$Loop;", .instantiable RX2 6, .initialized RX2, .instanceMethod yX2_init, .code yX2_init cX2_init 1 none, .methodLink RX2 3 objectInit, .fieldLink RX2 9 "LoopSlicer$Loop" "frames" "I", .fieldLink RX2 15 "LoopSlicer$Loop" "markCount" "I", .arrayClass .int, .fieldLink RX2 18 "LoopSlicer$Loop" "energies" "[I", .methodLink RX2 25 ⟨"[I", "clone", "()Ljava/lang/Object;"⟩, .sameMethod "[I" "java/lang/Object" "clone" "()Ljava/lang/Object;", .native ⟨"java/lang/Object", "clone", "()Ljava/lang/Object;"⟩, .instanceMethod ⟨"java/lang/Object", "clone", "()Ljava/lang/Object;"⟩, .selects "[I" ⟨"[I", "clone", "()Ljava/lang/Object;"⟩ ⟨"java/lang/Object", "clone", "()Ljava/lang/Object;"⟩, .classLink RX2 26 "[I", .fieldLink RX2 30 "LoopSlicer$Loop" "settings" "[I", .fieldLink RX2 33 "LoopSlicer$Loop" "marks" "[I", .fieldLink RX2 36 "LoopSlicer$Loop" "sequence" "[I"] ++ wsX10 ++ wsX20)
def wsX2_copy : List Cond := .code yX2_copy cX2_copy 2 none :: ([.fieldLink RX2 9 "LoopSlicer$Loop" "frames" "I", .fieldLink RX2 15 "LoopSlicer$Loop" "markCount" "I", .fieldLink RX2 18 "LoopSlicer$Loop" "energies" "[I", .methodLink RX2 39 arraycopyName, .native arraycopyName, .static arraycopyName, .initialized "java/lang/System", .fieldLink RX2 30 "LoopSlicer$Loop" "settings" "[I", .fieldLink RX2 33 "LoopSlicer$Loop" "marks" "[I", .fieldLink RX2 36 "LoopSlicer$Loop" "sequence" "[I"] ++ wsX20)
def wsX1_push : List Cond := .code yX1_push cX1_push 2 none :: ([.fieldLink RX1 18 "LoopSlicer$History" "newest" "I", .fieldLink RX1 11 "LoopSlicer$History" "states" "[LLoopSlicer$Loop;", .fieldLink RX1 26 "LoopSlicer$History" "size" "I", .methodLink RX1 22 yX2_copy, .instanceMethod yX2_copy, .selects RX2 yX2_copy yX2_copy, .initialized RX2, .code yX2_copy cX2_copy 2 none, .fieldLink RX2 9 "LoopSlicer$Loop" "frames" "I", .fieldLink RX2 15 "LoopSlicer$Loop" "markCount" "I", .fieldLink RX2 18 "LoopSlicer$Loop" "energies" "[I", .methodLink RX2 39 arraycopyName, .native arraycopyName, .static arraycopyName, .initialized "java/lang/System", .fieldLink RX2 30 "LoopSlicer$Loop" "settings" "[I", .fieldLink RX2 33 "LoopSlicer$Loop" "marks" "[I", .fieldLink RX2 36 "LoopSlicer$Loop" "sequence" "[I"] ++ wsX10 ++ wsX20)
def wsX1_pop : List Cond := .code yX1_pop cX1_pop 2 none :: ([.fieldLink RX1 11 "LoopSlicer$History" "states" "[LLoopSlicer$Loop;", .fieldLink RX1 18 "LoopSlicer$History" "newest" "I", .fieldLink RX1 26 "LoopSlicer$History" "size" "I", .methodLink RX1 22 yX2_copy, .instanceMethod yX2_copy, .selects RX2 yX2_copy yX2_copy, .initialized RX2, .code yX2_copy cX2_copy 2 none, .fieldLink RX2 9 "LoopSlicer$Loop" "frames" "I", .fieldLink RX2 15 "LoopSlicer$Loop" "markCount" "I", .fieldLink RX2 18 "LoopSlicer$Loop" "energies" "[I", .methodLink RX2 39 arraycopyName, .native arraycopyName, .static arraycopyName, .initialized "java/lang/System", .fieldLink RX2 30 "LoopSlicer$Loop" "settings" "[I", .fieldLink RX2 33 "LoopSlicer$Loop" "marks" "[I", .fieldLink RX2 36 "LoopSlicer$Loop" "sequence" "[I"] ++ wsX10 ++ wsX20)
def wsX2_resetSequence : List Cond := .code yX2_resetSequence cX2_resetSequence 2 none :: ([.fieldLink RX2 36 "LoopSlicer$Loop" "sequence" "[I"] ++ wsX20)
def wsX2_clear : List Cond := .code yX2_clear cX2_clear 3 none :: ([.fieldLink RX2 9 "LoopSlicer$Loop" "frames" "I", .fieldLink RX2 18 "LoopSlicer$Loop" "energies" "[I", .fieldLink RX2 15 "LoopSlicer$Loop" "markCount" "I", .methodLink RX2 45 yX2_resetSequence, .instanceMethod yX2_resetSequence, .selects RX2 yX2_resetSequence yX2_resetSequence, .initialized RX2, .code yX2_resetSequence cX2_resetSequence 2 none, .fieldLink RX2 36 "LoopSlicer$Loop" "sequence" "[I"] ++ wsX20)
def wsX2_isFrame : List Cond := .code yX2_isFrame cX2_isFrame 2 (some .boolean) :: ([.fieldLink RX2 9 "LoopSlicer$Loop" "frames" "I"] ++ wsX20)
def wsX2_isSlice : List Cond := .code yX2_isSlice cX2_isSlice 2 (some .boolean) :: ([.fieldLink RX2 15 "LoopSlicer$Loop" "markCount" "I"] ++ wsX20)
def wsX2_isFree : List Cond := .code yX2_isFree cX2_isFree 1 (some .boolean) :: ([.fieldLink RX2 30 "LoopSlicer$Loop" "settings" "[I"] ++ wsX20)
def wsX2_loudestFrame : List Cond := .code yX2_loudestFrame cX2_loudestFrame 5 (some .int) :: ([.fieldLink RX2 33 "LoopSlicer$Loop" "marks" "[I", .fieldLink RX2 18 "LoopSlicer$Loop" "energies" "[I", .methodLink RX2 48 yX2_endFrame, .instanceMethod yX2_endFrame, .selects RX2 yX2_endFrame yX2_endFrame, .initialized RX2, .code yX2_endFrame cX2_endFrame 2 (some .int), .fieldLink RX2 15 "LoopSlicer$Loop" "markCount" "I", .fieldLink RX2 9 "LoopSlicer$Loop" "frames" "I"] ++ wsX20)
def wsX2_placeOf : List Cond := .code yX2_placeOf cX2_placeOf 3 (some .int) :: ([.fieldLink RX2 15 "LoopSlicer$Loop" "markCount" "I", .fieldLink RX2 36 "LoopSlicer$Loop" "sequence" "[I"] ++ wsX20)
def wsX2_exchange : List Cond := .code yX2_exchange cX2_exchange 4 none :: ([.fieldLink RX2 36 "LoopSlicer$Loop" "sequence" "[I"] ++ wsX20)
def wsX2_marksBefore : List Cond := .code yX2_marksBefore cX2_marksBefore 3 (some .int) :: ([.fieldLink RX2 15 "LoopSlicer$Loop" "markCount" "I", .fieldLink RX2 33 "LoopSlicer$Loop" "marks" "[I"] ++ wsX20)
def wsX2_insertMark : List Cond := .code yX2_insertMark cX2_insertMark 4 none :: ([.fieldLink RX2 15 "LoopSlicer$Loop" "markCount" "I", .fieldLink RX2 33 "LoopSlicer$Loop" "marks" "[I", .methodLink RX2 45 yX2_resetSequence, .instanceMethod yX2_resetSequence, .selects RX2 yX2_resetSequence yX2_resetSequence, .initialized RX2, .code yX2_resetSequence cX2_resetSequence 2 none, .fieldLink RX2 36 "LoopSlicer$Loop" "sequence" "[I"] ++ wsX20)
def wsX2_removeMark : List Cond := .code yX2_removeMark cX2_removeMark 3 none :: ([.fieldLink RX2 15 "LoopSlicer$Loop" "markCount" "I", .fieldLink RX2 33 "LoopSlicer$Loop" "marks" "[I", .methodLink RX2 45 yX2_resetSequence, .instanceMethod yX2_resetSequence, .selects RX2 yX2_resetSequence yX2_resetSequence, .initialized RX2, .code yX2_resetSequence cX2_resetSequence 2 none, .fieldLink RX2 36 "LoopSlicer$Loop" "sequence" "[I"] ++ wsX20)
def wsX2_findRises : List Cond := .code yX2_findRises cX2_findRises 6 (some .int) :: ([.fieldLink RX2 9 "LoopSlicer$Loop" "frames" "I", .fieldLink RX2 18 "LoopSlicer$Loop" "energies" "[I", .fieldLink RX2 30 "LoopSlicer$Loop" "settings" "[I"] ++ wsX20)
def wsX3_init : List Cond := .code yX3_init cX3_init 3 none :: ([.methodLink RX3 3 objectInit, .instanceMethod objectInit, .code objectInit ⟨#[0xb1]⟩ 1 none, .arrayClass .int, .fieldLink RX3 9 "LoopSlicer$Result" "budgets" "[I", .arrayClass .long, .fieldLink RX3 15 "LoopSlicer$Result" "remainders" "[J", .fieldLink RX3 19 "LoopSlicer$Result" "loop" "LLoopSlicer$Loop;", .fieldLink RX3 23 "LoopSlicer$Result" "grid" "LLoopSlicer$Grid;"] ++ wsX30)
def wsX3_giveOne : List Cond := .code yX3_giveOne cX3_giveOne 3 none :: ([.fieldLink RX3 19 "LoopSlicer$Result" "loop" "LLoopSlicer$Loop;", .fieldLink RX3 41 "LoopSlicer$Loop" "markCount" "I", .fieldLink RX3 15 "LoopSlicer$Result" "remainders" "[J", .fieldLink RX3 9 "LoopSlicer$Result" "budgets" "[I", .constantLong RX3 61 (-1)] ++ wsX30 ++ wsX20)
def wsX3_shareFreely_r1 : List Cond := [Cond.fieldLink RX3 19 "LoopSlicer$Result" "loop" "LLoopSlicer$Loop;", Cond.fieldLink RX3 49 "LoopSlicer$Loop" "settings" "[I", Cond.fieldLink RX3 52 "LoopSlicer$Loop" "frames" "I", Cond.fieldLink RX3 41 "LoopSlicer$Loop" "markCount" "I", Cond.fieldLink RX3 9 "LoopSlicer$Result" "budgets" "[I", Cond.fieldLink RX3 15 "LoopSlicer$Result" "remainders" "[J", Cond.methodLink RX3 55 yX2_lengthOf, Cond.instanceMethod yX2_lengthOf, Cond.selects RX2 yX2_lengthOf yX2_lengthOf, Cond.initialized RX2, Cond.code yX2_lengthOf cX2_lengthOf 2 (some .int), Cond.fieldLink RX2 33 "LoopSlicer$Loop" "marks" "[I", Cond.fieldLink RX2 30 "LoopSlicer$Loop" "settings" "[I", Cond.methodLink RX2 48 yX2_endFrame, Cond.instanceMethod yX2_endFrame, Cond.selects RX2 yX2_endFrame yX2_endFrame, Cond.code yX2_endFrame cX2_endFrame 2 (some .int), Cond.fieldLink RX2 15 "LoopSlicer$Loop" "markCount" "I", Cond.fieldLink RX2 9 "LoopSlicer$Loop" "frames" "I", Cond.methodLink RX3 58 yX3_giveOne, Cond.instanceMethod yX3_giveOne, Cond.selects RX3 yX3_giveOne yX3_giveOne, Cond.initialized RX3, Cond.code yX3_giveOne cX3_giveOne 3 none]
def wsX3_shareFreely_r2 : List Cond := [Cond.constantLong RX3 61 (-1)]
def wsX3_shareFreely : List Cond := .code yX3_shareFreely cX3_shareFreely 9 none :: ((wsX3_shareFreely_r1 ++ wsX3_shareFreely_r2) ++ wsX30 ++ wsX20)
def wsX3_lay_r1 : List Cond := [Cond.fieldLink RX3 19 "LoopSlicer$Result" "loop" "LLoopSlicer$Loop;", Cond.fieldLink RX3 23 "LoopSlicer$Result" "grid" "LLoopSlicer$Grid;", Cond.fieldLink RX3 41 "LoopSlicer$Loop" "markCount" "I", Cond.fieldLink RX3 9 "LoopSlicer$Result" "budgets" "[I", Cond.methodLink RX3 27 yX2_isFree, Cond.instanceMethod yX2_isFree, Cond.selects RX2 yX2_isFree yX2_isFree, Cond.initialized RX2, Cond.code yX2_isFree cX2_isFree 1 (some .boolean), Cond.fieldLink RX2 30 "LoopSlicer$Loop" "settings" "[I", Cond.methodLink RX3 33 yX3_shareFreely, Cond.instanceMethod yX3_shareFreely, Cond.selects RX3 yX3_shareFreely yX3_shareFreely, Cond.initialized RX3, Cond.code yX3_shareFreely cX3_shareFreely 9 none, Cond.fieldLink RX3 49 "LoopSlicer$Loop" "settings" "[I", Cond.fieldLink RX3 52 "LoopSlicer$Loop" "frames" "I", Cond.fieldLink RX3 15 "LoopSlicer$Result" "remainders" "[J", Cond.methodLink RX3 55 yX2_lengthOf, Cond.instanceMethod yX2_lengthOf, Cond.selects RX2 yX2_lengthOf yX2_lengthOf, Cond.code yX2_lengthOf cX2_lengthOf 2 (some .int), Cond.fieldLink RX2 33 "LoopSlicer$Loop" "marks" "[I", Cond.methodLink RX2 48 yX2_endFrame]
def wsX3_lay_r2 : List Cond := [Cond.instanceMethod yX2_endFrame, Cond.selects RX2 yX2_endFrame yX2_endFrame, Cond.code yX2_endFrame cX2_endFrame 2 (some .int), Cond.fieldLink RX2 15 "LoopSlicer$Loop" "markCount" "I", Cond.fieldLink RX2 9 "LoopSlicer$Loop" "frames" "I", Cond.methodLink RX3 58 yX3_giveOne, Cond.instanceMethod yX3_giveOne, Cond.selects RX3 yX3_giveOne yX3_giveOne, Cond.code yX3_giveOne cX3_giveOne 3 none, Cond.constantLong RX3 61 (-1), Cond.methodLink RX3 36 yX0_draw, Cond.instanceMethod yX0_draw, Cond.selects RX0 yX0_draw yX0_draw, Cond.initialized RX0, Cond.code yX0_draw cX0_draw 3 (some .boolean), Cond.fieldLink RX0 27 "LoopSlicer$Grid" "loop" "LLoopSlicer$Loop;", Cond.fieldLink RX0 54 "LoopSlicer$Loop" "settings" "[I", Cond.fieldLink RX0 24 "LoopSlicer$Grid" "steps" "[I", Cond.fieldLink RX0 35 "LoopSlicer$Loop" "markCount" "I", Cond.methodLink RX0 31 yX0_leastSum, Cond.instanceMethod yX0_leastSum, Cond.selects RX0 yX0_leastSum yX0_leastSum, Cond.code yX0_leastSum cX0_leastSum 4 (some .int), Cond.fieldLink RX0 41 "LoopSlicer$Grid" "target" "I"]
def wsX3_lay_r3 : List Cond := [Cond.fieldLink RX0 44 "LoopSlicer$Grid" "lastStep" "I", Cond.fieldLink RX0 21 "LoopSlicer$Grid" "sums" "[I", Cond.methodLink RX0 47 yX0_measure, Cond.instanceMethod yX0_measure, Cond.selects RX0 yX0_measure yX0_measure, Cond.code yX0_measure cX0_measure 3 none, Cond.fieldLink RX0 11 "LoopSlicer$Grid" "positions" "[I", Cond.fieldLink RX0 15 "LoopSlicer$Grid" "least" "[I", Cond.fieldLink RX0 18 "LoopSlicer$Grid" "most" "[I", Cond.methodLink RX0 60 yX2_lengthOf, Cond.methodLink RX0 64 yX2_leastBudget, Cond.instanceMethod yX2_leastBudget, Cond.selects RX2 yX2_leastBudget yX2_leastBudget, Cond.code yX2_leastBudget cX2_leastBudget 2 (some .int), Cond.methodLink RX0 67 yX2_mostBudget, Cond.instanceMethod yX2_mostBudget, Cond.selects RX2 yX2_mostBudget yX2_mostBudget, Cond.code yX2_mostBudget cX2_mostBudget 2 (some .int), Cond.methodLink RX0 50 yX0_fillSums, Cond.instanceMethod yX0_fillSums, Cond.selects RX0 yX0_fillSums yX0_fillSums, Cond.code yX0_fillSums cX0_fillSums 7 (some .boolean), Cond.methodLink RX0 70 yX0_lastStepOf, Cond.instanceMethod yX0_lastStepOf]
def wsX3_lay_r4 : List Cond := [Cond.selects RX0 yX0_lastStepOf yX0_lastStepOf, Cond.code yX0_lastStepOf cX0_lastStepOf 2 (some .int), Cond.methodLink RX0 73 yX0_firstStepOf, Cond.instanceMethod yX0_firstStepOf, Cond.selects RX0 yX0_firstStepOf yX0_firstStepOf, Cond.code yX0_firstStepOf cX0_firstStepOf 2 (some .int), Cond.methodLink RX0 57 yX0_bestNext, Cond.instanceMethod yX0_bestNext, Cond.selects RX0 yX0_bestNext yX0_bestNext, Cond.code yX0_bestNext cX0_bestNext 9 (some .int), Cond.methodLink RX0 79 Lib.Math.max.name, Cond.static Lib.Math.max.name, Cond.initialized "java/lang/Math", Cond.code Lib.Math.max.name Lib.Math.max.code 2 (some .int), Cond.methodLink RX0 76 yX0_distance, Cond.instanceMethod yX0_distance, Cond.selects RX0 yX0_distance yX0_distance, Cond.code yX0_distance cX0_distance 3 (some .int), Cond.fieldLink RX0 84 "LoopSlicer$Loop" "frames" "I", Cond.fieldLink RX0 87 "LoopSlicer$Loop" "marks" "[I", Cond.methodLink RX0 90 Lib.Math.abs.name, Cond.static Lib.Math.abs.name, Cond.code Lib.Math.abs.name Lib.Math.abs.code 1 (some .int), Cond.methodLink RX3 45 yX0_budgetOf]
def wsX3_lay_r5 : List Cond := [Cond.instanceMethod yX0_budgetOf, Cond.selects RX0 yX0_budgetOf yX0_budgetOf, Cond.code yX0_budgetOf cX0_budgetOf 2 (some .int)]
def wsX3_lay : List Cond := .code yX3_lay cX3_lay 2 (some .boolean) :: ((wsX3_lay_r1 ++ (wsX3_lay_r2 ++ (wsX3_lay_r3 ++ (wsX3_lay_r4 ++ wsX3_lay_r5)))) ++ wsX30 ++ wsX20 ++ wsX00)
def wsX3_countBeyondLimits : List Cond := .code yX3_countBeyondLimits cX3_countBeyondLimits 5 (some .int) :: ([.fieldLink RX3 19 "LoopSlicer$Result" "loop" "LLoopSlicer$Loop;", .fieldLink RX3 41 "LoopSlicer$Loop" "markCount" "I", .fieldLink RX3 9 "LoopSlicer$Result" "budgets" "[I", .methodLink RX3 55 yX2_lengthOf, .instanceMethod yX2_lengthOf, .selects RX2 yX2_lengthOf yX2_lengthOf, .initialized RX2, .code yX2_lengthOf cX2_lengthOf 2 (some .int), .fieldLink RX2 33 "LoopSlicer$Loop" "marks" "[I", .fieldLink RX2 30 "LoopSlicer$Loop" "settings" "[I", .methodLink RX2 48 yX2_endFrame, .instanceMethod yX2_endFrame, .selects RX2 yX2_endFrame yX2_endFrame, .code yX2_endFrame cX2_endFrame 2 (some .int), .fieldLink RX2 15 "LoopSlicer$Loop" "markCount" "I", .fieldLink RX2 9 "LoopSlicer$Loop" "frames" "I", .methodLink RX3 63 yX2_leastBudget, .instanceMethod yX2_leastBudget, .selects RX2 yX2_leastBudget yX2_leastBudget, .code yX2_leastBudget cX2_leastBudget 2 (some .int), .methodLink RX3 66 yX2_mostBudget, .instanceMethod yX2_mostBudget, .selects RX2 yX2_mostBudget yX2_mostBudget, .code yX2_mostBudget cX2_mostBudget 2 (some .int)] ++ wsX30 ++ wsX20)
def wsX3_fadeAt : List Cond := .code yX3_fadeAt cX3_fadeAt 5 (some .int) :: ([.fieldLink RX3 19 "LoopSlicer$Result" "loop" "LLoopSlicer$Loop;", .fieldLink RX3 41 "LoopSlicer$Loop" "markCount" "I", .fieldLink RX3 9 "LoopSlicer$Result" "budgets" "[I", .fieldLink RX3 72 "LoopSlicer$Loop" "sequence" "[I", .fieldLink RX3 49 "LoopSlicer$Loop" "settings" "[I", .methodLink RX3 75 Lib.Math.min.name, .static Lib.Math.min.name, .initialized "java/lang/Math", .code Lib.Math.min.name Lib.Math.min.code 2 (some .int)] ++ wsX30 ++ wsX20)
def wsX3_sumFades : List Cond := .code yX3_sumFades cX3_sumFades 3 (some .int) :: ([.fieldLink RX3 19 "LoopSlicer$Result" "loop" "LLoopSlicer$Loop;", .fieldLink RX3 41 "LoopSlicer$Loop" "markCount" "I", .methodLink RX3 69 yX3_fadeAt, .instanceMethod yX3_fadeAt, .selects RX3 yX3_fadeAt yX3_fadeAt, .initialized RX3, .code yX3_fadeAt cX3_fadeAt 5 (some .int), .fieldLink RX3 9 "LoopSlicer$Result" "budgets" "[I", .fieldLink RX3 72 "LoopSlicer$Loop" "sequence" "[I", .fieldLink RX3 49 "LoopSlicer$Loop" "settings" "[I", .methodLink RX3 75 Lib.Math.min.name, .static Lib.Math.min.name, .initialized "java/lang/Math", .code Lib.Math.min.name Lib.Math.min.code 2 (some .int)] ++ wsX30 ++ wsX20)
def wsX3_beginOf : List Cond := .code yX3_beginOf cX3_beginOf 5 (some .int) :: ([.fieldLink RX3 19 "LoopSlicer$Result" "loop" "LLoopSlicer$Loop;", .fieldLink RX3 9 "LoopSlicer$Result" "budgets" "[I", .fieldLink RX3 72 "LoopSlicer$Loop" "sequence" "[I", .methodLink RX3 81 yX2_placeOf, .instanceMethod yX2_placeOf, .selects RX2 yX2_placeOf yX2_placeOf, .initialized RX2, .code yX2_placeOf cX2_placeOf 3 (some .int), .fieldLink RX2 15 "LoopSlicer$Loop" "markCount" "I", .fieldLink RX2 36 "LoopSlicer$Loop" "sequence" "[I"] ++ wsX30 ++ wsX20)
def wsX3_loopSample : List Cond := .code yX3_loopSample cX3_loopSample 5 (some .int) :: ([.fieldLink RX3 19 "LoopSlicer$Result" "loop" "LLoopSlicer$Loop;", .fieldLink RX3 9 "LoopSlicer$Result" "budgets" "[I", .methodLink RX3 55 yX2_lengthOf, .instanceMethod yX2_lengthOf, .selects RX2 yX2_lengthOf yX2_lengthOf, .initialized RX2, .code yX2_lengthOf cX2_lengthOf 2 (some .int), .fieldLink RX2 33 "LoopSlicer$Loop" "marks" "[I", .fieldLink RX2 30 "LoopSlicer$Loop" "settings" "[I", .methodLink RX2 48 yX2_endFrame, .instanceMethod yX2_endFrame, .selects RX2 yX2_endFrame yX2_endFrame, .code yX2_endFrame cX2_endFrame 2 (some .int), .fieldLink RX2 15 "LoopSlicer$Loop" "markCount" "I", .fieldLink RX2 9 "LoopSlicer$Loop" "frames" "I"] ++ wsX30 ++ wsX20)
def wsX3_originOf_r1 : List Cond := [Cond.fieldLink RX3 19 "LoopSlicer$Result" "loop" "LLoopSlicer$Loop;", Cond.fieldLink RX3 72 "LoopSlicer$Loop" "sequence" "[I", Cond.fieldLink RX3 84 "LoopSlicer$Loop" "marks" "[I", Cond.fieldLink RX3 49 "LoopSlicer$Loop" "settings" "[I", Cond.fieldLink RX3 9 "LoopSlicer$Result" "budgets" "[I", Cond.methodLink RX3 87 yX3_loopSample, Cond.instanceMethod yX3_loopSample, Cond.selects RX3 yX3_loopSample yX3_loopSample, Cond.initialized RX3, Cond.code yX3_loopSample cX3_loopSample 5 (some .int), Cond.methodLink RX3 55 yX2_lengthOf, Cond.instanceMethod yX2_lengthOf, Cond.selects RX2 yX2_lengthOf yX2_lengthOf, Cond.initialized RX2, Cond.code yX2_lengthOf cX2_lengthOf 2 (some .int), Cond.fieldLink RX2 33 "LoopSlicer$Loop" "marks" "[I", Cond.fieldLink RX2 30 "LoopSlicer$Loop" "settings" "[I", Cond.methodLink RX2 48 yX2_endFrame, Cond.instanceMethod yX2_endFrame, Cond.selects RX2 yX2_endFrame yX2_endFrame, Cond.code yX2_endFrame cX2_endFrame 2 (some .int), Cond.fieldLink RX2 15 "LoopSlicer$Loop" "markCount" "I", Cond.fieldLink RX2 9 "LoopSlicer$Loop" "frames" "I", Cond.methodLink RX3 69 yX3_fadeAt]
def wsX3_originOf_r2 : List Cond := [Cond.instanceMethod yX3_fadeAt, Cond.selects RX3 yX3_fadeAt yX3_fadeAt, Cond.code yX3_fadeAt cX3_fadeAt 5 (some .int), Cond.fieldLink RX3 41 "LoopSlicer$Loop" "markCount" "I", Cond.methodLink RX3 75 Lib.Math.min.name, Cond.static Lib.Math.min.name, Cond.initialized "java/lang/Math", Cond.code Lib.Math.min.name Lib.Math.min.code 2 (some .int)]
def wsX3_originOf : List Cond := .code yX3_originOf cX3_originOf 5 (some .int) :: ((wsX3_originOf_r1 ++ wsX3_originOf_r2) ++ wsX30 ++ wsX20)
def wsX4_init_r1 : List Cond := [Cond.methodLink RX4 1 objectInit, Cond.instanceMethod objectInit, Cond.code objectInit ⟨#[0xb1]⟩ 1 none, Cond.classLink RX4 7 RX2, Cond.instantiable RX2 6, Cond.initialized RX2, Cond.fieldLink RX4 10 "LoopSlicer" "loop" "LLoopSlicer$Loop;", Cond.classLink RX4 16 RX0, Cond.instantiable RX0 8, Cond.initialized RX0, Cond.fieldLink RX4 21 "LoopSlicer" "grid" "LLoopSlicer$Grid;", Cond.classLink RX4 25 RX3, Cond.instantiable RX3 4, Cond.initialized RX3, Cond.fieldLink RX4 30 "LoopSlicer" "result" "LLoopSlicer$Result;", Cond.classLink RX4 34 RX1, Cond.instantiable RX1 3, Cond.initialized RX1, Cond.fieldLink RX4 37 "LoopSlicer" "history" "LLoopSlicer$History;", Cond.fieldLink RX4 41 "LoopSlicer" "images" "[LLoopSlicer$Loop;", Cond.arrayClass .boolean, Cond.fieldLink RX4 45 "LoopSlicer" "kept" "[Z", Cond.arrayClass .int, Cond.fieldLink RX4 49 "LoopSlicer" "wouldBeMarks" "[I"]
def wsX4_init_r2 : List Cond := [Cond.instanceMethod yX2_init, Cond.code yX2_init cX2_init 1 none, Cond.methodLink RX2 3 objectInit, Cond.fieldLink RX2 9 "LoopSlicer$Loop" "frames" "I", Cond.fieldLink RX2 15 "LoopSlicer$Loop" "markCount" "I", Cond.fieldLink RX2 18 "LoopSlicer$Loop" "energies" "[I", Cond.methodLink RX2 25 ⟨"[I", "clone", "()Ljava/lang/Object;"⟩, Cond.sameMethod "[I" "java/lang/Object" "clone" "()Ljava/lang/Object;", Cond.native ⟨"java/lang/Object", "clone", "()Ljava/lang/Object;"⟩, Cond.instanceMethod ⟨"java/lang/Object", "clone", "()Ljava/lang/Object;"⟩, Cond.selects "[I" ⟨"[I", "clone", "()Ljava/lang/Object;"⟩ ⟨"java/lang/Object", "clone", "()Ljava/lang/Object;"⟩, Cond.classLink RX2 26 "[I", Cond.fieldLink RX2 30 "LoopSlicer$Loop" "settings" "[I", Cond.fieldLink RX2 33 "LoopSlicer$Loop" "marks" "[I", Cond.fieldLink RX2 36 "LoopSlicer$Loop" "sequence" "[I", Cond.methodLink RX4 18 yX0_init, Cond.instanceMethod yX0_init, Cond.code yX0_init cX0_init 2 none, Cond.methodLink RX0 3 objectInit, Cond.fieldLink RX0 11 "LoopSlicer$Grid" "positions" "[I", Cond.fieldLink RX0 15 "LoopSlicer$Grid" "least" "[I", Cond.fieldLink RX0 18 "LoopSlicer$Grid" "most" "[I", Cond.fieldLink RX0 21 "LoopSlicer$Grid" "sums" "[I", Cond.fieldLink RX0 24 "LoopSlicer$Grid" "steps" "[I"]
def wsX4_init_r3 : List Cond := [Cond.fieldLink RX0 27 "LoopSlicer$Grid" "loop" "LLoopSlicer$Loop;", Cond.methodLink RX4 27 yX3_init, Cond.instanceMethod yX3_init, Cond.code yX3_init cX3_init 3 none, Cond.methodLink RX3 3 objectInit, Cond.fieldLink RX3 9 "LoopSlicer$Result" "budgets" "[I", Cond.arrayClass .long, Cond.fieldLink RX3 15 "LoopSlicer$Result" "remainders" "[J", Cond.fieldLink RX3 19 "LoopSlicer$Result" "loop" "LLoopSlicer$Loop;", Cond.fieldLink RX3 23 "LoopSlicer$Result" "grid" "LLoopSlicer$Grid;", Cond.methodLink RX4 36 yX1_init, Cond.instanceMethod yX1_init, Cond.code yX1_init cX1_init 2 none, Cond.methodLink RX1 3 objectInit, Cond.classLink RX1 9 RX2, Cond.fieldLink RX1 11 "LoopSlicer$History" "states" "[LLoopSlicer$Loop;"]
def wsX4_init : List Cond := .code yX4_init cX4_init 2 none :: ((wsX4_init_r1 ++ (wsX4_init_r2 ++ wsX4_init_r3)) ++ wsX20 ++ wsX40 ++ wsX00 ++ wsX30 ++ wsX10)
def wsX4_begin_r1 : List Cond := [Cond.fieldLink RX4 37 "LoopSlicer" "history" "LLoopSlicer$History;", Cond.fieldLink RX4 10 "LoopSlicer" "loop" "LLoopSlicer$Loop;", Cond.fieldLink RX4 56 "LoopSlicer$Loop" "frames" "I", Cond.methodLink RX4 53 yX1_push, Cond.instanceMethod yX1_push, Cond.selects RX1 yX1_push yX1_push, Cond.initialized RX1, Cond.code yX1_push cX1_push 2 none, Cond.fieldLink RX1 18 "LoopSlicer$History" "newest" "I", Cond.fieldLink RX1 11 "LoopSlicer$History" "states" "[LLoopSlicer$Loop;", Cond.fieldLink RX1 26 "LoopSlicer$History" "size" "I", Cond.methodLink RX1 22 yX2_copy, Cond.instanceMethod yX2_copy, Cond.selects RX2 yX2_copy yX2_copy, Cond.initialized RX2, Cond.code yX2_copy cX2_copy 2 none, Cond.fieldLink RX2 9 "LoopSlicer$Loop" "frames" "I", Cond.fieldLink RX2 15 "LoopSlicer$Loop" "markCount" "I", Cond.fieldLink RX2 18 "LoopSlicer$Loop" "energies" "[I", Cond.methodLink RX2 39 arraycopyName, Cond.native arraycopyName, Cond.static arraycopyName, Cond.initialized "java/lang/System", Cond.fieldLink RX2 30 "LoopSlicer$Loop" "settings" "[I"]
def wsX4_begin_r2 : List Cond := [Cond.fieldLink RX2 33 "LoopSlicer$Loop" "marks" "[I", Cond.fieldLink RX2 36 "LoopSlicer$Loop" "sequence" "[I", Cond.methodLink RX4 60 yX2_clear, Cond.instanceMethod yX2_clear, Cond.selects RX2 yX2_clear yX2_clear, Cond.code yX2_clear cX2_clear 3 none, Cond.methodLink RX2 45 yX2_resetSequence, Cond.instanceMethod yX2_resetSequence, Cond.selects RX2 yX2_resetSequence yX2_resetSequence, Cond.code yX2_resetSequence cX2_resetSequence 2 none]
def wsX4_begin : List Cond := .code yX4_begin cX4_begin 3 (some .int) :: ((wsX4_begin_r1 ++ wsX4_begin_r2) ++ wsX40 ++ wsX20 ++ wsX10)
def wsX4_sound_r1 : List Cond := [Cond.fieldLink RX4 10 "LoopSlicer" "loop" "LLoopSlicer$Loop;", Cond.fieldLink RX4 37 "LoopSlicer" "history" "LLoopSlicer$History;", Cond.fieldLink RX4 68 "LoopSlicer$Loop" "energies" "[I", Cond.methodLink RX4 64 yX2_isFrame, Cond.instanceMethod yX2_isFrame, Cond.selects RX2 yX2_isFrame yX2_isFrame, Cond.initialized RX2, Cond.code yX2_isFrame cX2_isFrame 2 (some .boolean), Cond.fieldLink RX2 9 "LoopSlicer$Loop" "frames" "I", Cond.methodLink RX4 53 yX1_push, Cond.instanceMethod yX1_push, Cond.selects RX1 yX1_push yX1_push, Cond.initialized RX1, Cond.code yX1_push cX1_push 2 none, Cond.fieldLink RX1 18 "LoopSlicer$History" "newest" "I", Cond.fieldLink RX1 11 "LoopSlicer$History" "states" "[LLoopSlicer$Loop;", Cond.fieldLink RX1 26 "LoopSlicer$History" "size" "I", Cond.methodLink RX1 22 yX2_copy, Cond.instanceMethod yX2_copy, Cond.selects RX2 yX2_copy yX2_copy, Cond.code yX2_copy cX2_copy 2 none, Cond.fieldLink RX2 15 "LoopSlicer$Loop" "markCount" "I", Cond.fieldLink RX2 18 "LoopSlicer$Loop" "energies" "[I", Cond.methodLink RX2 39 arraycopyName]
def wsX4_sound_r2 : List Cond := [Cond.native arraycopyName, Cond.static arraycopyName, Cond.initialized "java/lang/System", Cond.fieldLink RX2 30 "LoopSlicer$Loop" "settings" "[I", Cond.fieldLink RX2 33 "LoopSlicer$Loop" "marks" "[I", Cond.fieldLink RX2 36 "LoopSlicer$Loop" "sequence" "[I"]
def wsX4_sound : List Cond := .code yX4_sound cX4_sound 6 (some .int) :: ((wsX4_sound_r1 ++ wsX4_sound_r2) ++ wsX40 ++ wsX20 ++ wsX10)
def wsX4_isSetting : List Cond := .code yX4_isSetting cX4_isSetting 1 (some .boolean) :: ([])
def wsX4_set_r1 : List Cond := [Cond.fieldLink RX4 74 "LoopSlicer" "LEAST_VALUES" "[I", Cond.fieldLink RX4 77 "LoopSlicer" "MOST_VALUES" "[I", Cond.fieldLink RX4 37 "LoopSlicer" "history" "LLoopSlicer$History;", Cond.fieldLink RX4 10 "LoopSlicer" "loop" "LLoopSlicer$Loop;", Cond.fieldLink RX4 80 "LoopSlicer$Loop" "settings" "[I", Cond.methodLink RX4 71 yX4_isSetting, Cond.static yX4_isSetting, Cond.initialized RX4, Cond.code yX4_isSetting cX4_isSetting 1 (some .boolean), Cond.methodLink RX4 53 yX1_push, Cond.instanceMethod yX1_push, Cond.selects RX1 yX1_push yX1_push, Cond.initialized RX1, Cond.code yX1_push cX1_push 2 none, Cond.fieldLink RX1 18 "LoopSlicer$History" "newest" "I", Cond.fieldLink RX1 11 "LoopSlicer$History" "states" "[LLoopSlicer$Loop;", Cond.fieldLink RX1 26 "LoopSlicer$History" "size" "I", Cond.methodLink RX1 22 yX2_copy, Cond.instanceMethod yX2_copy, Cond.selects RX2 yX2_copy yX2_copy, Cond.initialized RX2, Cond.code yX2_copy cX2_copy 2 none, Cond.fieldLink RX2 9 "LoopSlicer$Loop" "frames" "I", Cond.fieldLink RX2 15 "LoopSlicer$Loop" "markCount" "I"]
def wsX4_set_r2 : List Cond := [Cond.fieldLink RX2 18 "LoopSlicer$Loop" "energies" "[I", Cond.methodLink RX2 39 arraycopyName, Cond.native arraycopyName, Cond.static arraycopyName, Cond.initialized "java/lang/System", Cond.fieldLink RX2 30 "LoopSlicer$Loop" "settings" "[I", Cond.fieldLink RX2 33 "LoopSlicer$Loop" "marks" "[I", Cond.fieldLink RX2 36 "LoopSlicer$Loop" "sequence" "[I"]
def wsX4_set : List Cond := .code yX4_set cX4_set 4 (some .int) :: ((wsX4_set_r1 ++ wsX4_set_r2) ++ wsX40 ++ wsX20 ++ wsX10)
def wsX4_find_r1 : List Cond := [Cond.fieldLink RX4 37 "LoopSlicer" "history" "LLoopSlicer$History;", Cond.fieldLink RX4 10 "LoopSlicer" "loop" "LLoopSlicer$Loop;", Cond.fieldLink RX4 80 "LoopSlicer$Loop" "settings" "[I", Cond.fieldLink RX4 83 "LoopSlicer$Loop" "marks" "[I", Cond.fieldLink RX4 90 "LoopSlicer$Loop" "markCount" "I", Cond.methodLink RX4 53 yX1_push, Cond.instanceMethod yX1_push, Cond.selects RX1 yX1_push yX1_push, Cond.initialized RX1, Cond.code yX1_push cX1_push 2 none, Cond.fieldLink RX1 18 "LoopSlicer$History" "newest" "I", Cond.fieldLink RX1 11 "LoopSlicer$History" "states" "[LLoopSlicer$Loop;", Cond.fieldLink RX1 26 "LoopSlicer$History" "size" "I", Cond.methodLink RX1 22 yX2_copy, Cond.instanceMethod yX2_copy, Cond.selects RX2 yX2_copy yX2_copy, Cond.initialized RX2, Cond.code yX2_copy cX2_copy 2 none, Cond.fieldLink RX2 9 "LoopSlicer$Loop" "frames" "I", Cond.fieldLink RX2 15 "LoopSlicer$Loop" "markCount" "I", Cond.fieldLink RX2 18 "LoopSlicer$Loop" "energies" "[I", Cond.methodLink RX2 39 arraycopyName, Cond.native arraycopyName, Cond.static arraycopyName]
def wsX4_find_r2 : List Cond := [Cond.initialized "java/lang/System", Cond.fieldLink RX2 30 "LoopSlicer$Loop" "settings" "[I", Cond.fieldLink RX2 33 "LoopSlicer$Loop" "marks" "[I", Cond.fieldLink RX2 36 "LoopSlicer$Loop" "sequence" "[I", Cond.methodLink RX4 86 yX2_findRises, Cond.instanceMethod yX2_findRises, Cond.selects RX2 yX2_findRises yX2_findRises, Cond.code yX2_findRises cX2_findRises 6 (some .int), Cond.methodLink RX4 93 yX2_resetSequence, Cond.instanceMethod yX2_resetSequence, Cond.selects RX2 yX2_resetSequence yX2_resetSequence, Cond.code yX2_resetSequence cX2_resetSequence 2 none]
def wsX4_find : List Cond := .code yX4_find cX4_find 1 (some .int) :: ((wsX4_find_r1 ++ wsX4_find_r2) ++ wsX40 ++ wsX20 ++ wsX10)
def wsX4_mark_r1 : List Cond := [Cond.fieldLink RX4 10 "LoopSlicer" "loop" "LLoopSlicer$Loop;", Cond.fieldLink RX4 83 "LoopSlicer$Loop" "marks" "[I", Cond.fieldLink RX4 90 "LoopSlicer$Loop" "markCount" "I", Cond.fieldLink RX4 37 "LoopSlicer" "history" "LLoopSlicer$History;", Cond.methodLink RX4 64 yX2_isFrame, Cond.instanceMethod yX2_isFrame, Cond.selects RX2 yX2_isFrame yX2_isFrame, Cond.initialized RX2, Cond.code yX2_isFrame cX2_isFrame 2 (some .boolean), Cond.fieldLink RX2 9 "LoopSlicer$Loop" "frames" "I", Cond.methodLink RX4 96 yX2_marksBefore, Cond.instanceMethod yX2_marksBefore, Cond.selects RX2 yX2_marksBefore yX2_marksBefore, Cond.code yX2_marksBefore cX2_marksBefore 3 (some .int), Cond.fieldLink RX2 15 "LoopSlicer$Loop" "markCount" "I", Cond.fieldLink RX2 33 "LoopSlicer$Loop" "marks" "[I", Cond.methodLink RX4 100 yX2_isSlice, Cond.instanceMethod yX2_isSlice, Cond.selects RX2 yX2_isSlice yX2_isSlice, Cond.code yX2_isSlice cX2_isSlice 2 (some .boolean), Cond.methodLink RX4 53 yX1_push, Cond.instanceMethod yX1_push, Cond.selects RX1 yX1_push yX1_push, Cond.initialized RX1]
def wsX4_mark_r2 : List Cond := [Cond.code yX1_push cX1_push 2 none, Cond.fieldLink RX1 18 "LoopSlicer$History" "newest" "I", Cond.fieldLink RX1 11 "LoopSlicer$History" "states" "[LLoopSlicer$Loop;", Cond.fieldLink RX1 26 "LoopSlicer$History" "size" "I", Cond.methodLink RX1 22 yX2_copy, Cond.instanceMethod yX2_copy, Cond.selects RX2 yX2_copy yX2_copy, Cond.code yX2_copy cX2_copy 2 none, Cond.fieldLink RX2 18 "LoopSlicer$Loop" "energies" "[I", Cond.methodLink RX2 39 arraycopyName, Cond.native arraycopyName, Cond.static arraycopyName, Cond.initialized "java/lang/System", Cond.fieldLink RX2 30 "LoopSlicer$Loop" "settings" "[I", Cond.fieldLink RX2 36 "LoopSlicer$Loop" "sequence" "[I", Cond.methodLink RX4 103 yX2_insertMark, Cond.instanceMethod yX2_insertMark, Cond.selects RX2 yX2_insertMark yX2_insertMark, Cond.code yX2_insertMark cX2_insertMark 4 none, Cond.methodLink RX2 45 yX2_resetSequence, Cond.instanceMethod yX2_resetSequence, Cond.selects RX2 yX2_resetSequence yX2_resetSequence, Cond.code yX2_resetSequence cX2_resetSequence 2 none]
def wsX4_mark : List Cond := .code yX4_mark cX4_mark 3 (some .int) :: ((wsX4_mark_r1 ++ wsX4_mark_r2) ++ wsX40 ++ wsX20 ++ wsX10)
def wsX4_isMovable : List Cond := .code yX4_isMovable cX4_isMovable 2 (some .boolean) :: ([.fieldLink RX4 10 "LoopSlicer" "loop" "LLoopSlicer$Loop;", .methodLink RX4 100 yX2_isSlice, .instanceMethod yX2_isSlice, .selects RX2 yX2_isSlice yX2_isSlice, .initialized RX2, .code yX2_isSlice cX2_isSlice 2 (some .boolean), .fieldLink RX2 15 "LoopSlicer$Loop" "markCount" "I"] ++ wsX40 ++ wsX20)
def wsX4_unmark_r1 : List Cond := [Cond.fieldLink RX4 37 "LoopSlicer" "history" "LLoopSlicer$History;", Cond.fieldLink RX4 10 "LoopSlicer" "loop" "LLoopSlicer$Loop;", Cond.fieldLink RX4 90 "LoopSlicer$Loop" "markCount" "I", Cond.methodLink RX4 107 yX4_isMovable, Cond.instanceMethod yX4_isMovable, Cond.selects RX4 yX4_isMovable yX4_isMovable, Cond.initialized RX4, Cond.code yX4_isMovable cX4_isMovable 2 (some .boolean), Cond.methodLink RX4 100 yX2_isSlice, Cond.instanceMethod yX2_isSlice, Cond.selects RX2 yX2_isSlice yX2_isSlice, Cond.initialized RX2, Cond.code yX2_isSlice cX2_isSlice 2 (some .boolean), Cond.fieldLink RX2 15 "LoopSlicer$Loop" "markCount" "I", Cond.methodLink RX4 53 yX1_push, Cond.instanceMethod yX1_push, Cond.selects RX1 yX1_push yX1_push, Cond.initialized RX1, Cond.code yX1_push cX1_push 2 none, Cond.fieldLink RX1 18 "LoopSlicer$History" "newest" "I", Cond.fieldLink RX1 11 "LoopSlicer$History" "states" "[LLoopSlicer$Loop;", Cond.fieldLink RX1 26 "LoopSlicer$History" "size" "I", Cond.methodLink RX1 22 yX2_copy, Cond.instanceMethod yX2_copy]
def wsX4_unmark_r2 : List Cond := [Cond.selects RX2 yX2_copy yX2_copy, Cond.code yX2_copy cX2_copy 2 none, Cond.fieldLink RX2 9 "LoopSlicer$Loop" "frames" "I", Cond.fieldLink RX2 18 "LoopSlicer$Loop" "energies" "[I", Cond.methodLink RX2 39 arraycopyName, Cond.native arraycopyName, Cond.static arraycopyName, Cond.initialized "java/lang/System", Cond.fieldLink RX2 30 "LoopSlicer$Loop" "settings" "[I", Cond.fieldLink RX2 33 "LoopSlicer$Loop" "marks" "[I", Cond.fieldLink RX2 36 "LoopSlicer$Loop" "sequence" "[I", Cond.methodLink RX4 110 yX2_removeMark, Cond.instanceMethod yX2_removeMark, Cond.selects RX2 yX2_removeMark yX2_removeMark, Cond.code yX2_removeMark cX2_removeMark 3 none, Cond.methodLink RX2 45 yX2_resetSequence, Cond.instanceMethod yX2_resetSequence, Cond.selects RX2 yX2_resetSequence yX2_resetSequence, Cond.code yX2_resetSequence cX2_resetSequence 2 none]
def wsX4_unmark : List Cond := .code yX4_unmark cX4_unmark 2 (some .int) :: ((wsX4_unmark_r1 ++ wsX4_unmark_r2) ++ wsX40 ++ wsX20 ++ wsX10)
def wsX4_moveMark_r1 : List Cond := [Cond.fieldLink RX4 10 "LoopSlicer" "loop" "LLoopSlicer$Loop;", Cond.fieldLink RX4 83 "LoopSlicer$Loop" "marks" "[I", Cond.fieldLink RX4 37 "LoopSlicer" "history" "LLoopSlicer$History;", Cond.methodLink RX4 107 yX4_isMovable, Cond.instanceMethod yX4_isMovable, Cond.selects RX4 yX4_isMovable yX4_isMovable, Cond.initialized RX4, Cond.code yX4_isMovable cX4_isMovable 2 (some .boolean), Cond.methodLink RX4 100 yX2_isSlice, Cond.instanceMethod yX2_isSlice, Cond.selects RX2 yX2_isSlice yX2_isSlice, Cond.initialized RX2, Cond.code yX2_isSlice cX2_isSlice 2 (some .boolean), Cond.fieldLink RX2 15 "LoopSlicer$Loop" "markCount" "I", Cond.methodLink RX4 64 yX2_isFrame, Cond.instanceMethod yX2_isFrame, Cond.selects RX2 yX2_isFrame yX2_isFrame, Cond.code yX2_isFrame cX2_isFrame 2 (some .boolean), Cond.fieldLink RX2 9 "LoopSlicer$Loop" "frames" "I", Cond.methodLink RX4 113 yX2_endFrame, Cond.instanceMethod yX2_endFrame, Cond.selects RX2 yX2_endFrame yX2_endFrame, Cond.code yX2_endFrame cX2_endFrame 2 (some .int), Cond.fieldLink RX2 33 "LoopSlicer$Loop" "marks" "[I"]
def wsX4_moveMark_r2 : List Cond := [Cond.methodLink RX4 53 yX1_push, Cond.instanceMethod yX1_push, Cond.selects RX1 yX1_push yX1_push, Cond.initialized RX1, Cond.code yX1_push cX1_push 2 none, Cond.fieldLink RX1 18 "LoopSlicer$History" "newest" "I", Cond.fieldLink RX1 11 "LoopSlicer$History" "states" "[LLoopSlicer$Loop;", Cond.fieldLink RX1 26 "LoopSlicer$History" "size" "I", Cond.methodLink RX1 22 yX2_copy, Cond.instanceMethod yX2_copy, Cond.selects RX2 yX2_copy yX2_copy, Cond.code yX2_copy cX2_copy 2 none, Cond.fieldLink RX2 18 "LoopSlicer$Loop" "energies" "[I", Cond.methodLink RX2 39 arraycopyName, Cond.native arraycopyName, Cond.static arraycopyName, Cond.initialized "java/lang/System", Cond.fieldLink RX2 30 "LoopSlicer$Loop" "settings" "[I", Cond.fieldLink RX2 36 "LoopSlicer$Loop" "sequence" "[I"]
def wsX4_moveMark : List Cond := .code yX4_moveMark cX4_moveMark 4 (some .int) :: ((wsX4_moveMark_r1 ++ wsX4_moveMark_r2) ++ wsX40 ++ wsX20 ++ wsX10)
def wsX4_swap_r1 : List Cond := [Cond.fieldLink RX4 10 "LoopSlicer" "loop" "LLoopSlicer$Loop;", Cond.fieldLink RX4 37 "LoopSlicer" "history" "LLoopSlicer$History;", Cond.fieldLink RX4 119 "LoopSlicer$Loop" "sequence" "[I", Cond.methodLink RX4 100 yX2_isSlice, Cond.instanceMethod yX2_isSlice, Cond.selects RX2 yX2_isSlice yX2_isSlice, Cond.initialized RX2, Cond.code yX2_isSlice cX2_isSlice 2 (some .boolean), Cond.fieldLink RX2 15 "LoopSlicer$Loop" "markCount" "I", Cond.methodLink RX4 53 yX1_push, Cond.instanceMethod yX1_push, Cond.selects RX1 yX1_push yX1_push, Cond.initialized RX1, Cond.code yX1_push cX1_push 2 none, Cond.fieldLink RX1 18 "LoopSlicer$History" "newest" "I", Cond.fieldLink RX1 11 "LoopSlicer$History" "states" "[LLoopSlicer$Loop;", Cond.fieldLink RX1 26 "LoopSlicer$History" "size" "I", Cond.methodLink RX1 22 yX2_copy, Cond.instanceMethod yX2_copy, Cond.selects RX2 yX2_copy yX2_copy, Cond.code yX2_copy cX2_copy 2 none, Cond.fieldLink RX2 9 "LoopSlicer$Loop" "frames" "I", Cond.fieldLink RX2 18 "LoopSlicer$Loop" "energies" "[I", Cond.methodLink RX2 39 arraycopyName]
def wsX4_swap_r2 : List Cond := [Cond.native arraycopyName, Cond.static arraycopyName, Cond.initialized "java/lang/System", Cond.fieldLink RX2 30 "LoopSlicer$Loop" "settings" "[I", Cond.fieldLink RX2 33 "LoopSlicer$Loop" "marks" "[I", Cond.fieldLink RX2 36 "LoopSlicer$Loop" "sequence" "[I", Cond.methodLink RX4 116 yX2_exchange, Cond.instanceMethod yX2_exchange, Cond.selects RX2 yX2_exchange yX2_exchange, Cond.code yX2_exchange cX2_exchange 4 none]
def wsX4_swap : List Cond := .code yX4_swap cX4_swap 3 (some .int) :: ((wsX4_swap_r1 ++ wsX4_swap_r2) ++ wsX40 ++ wsX20 ++ wsX10)
def wsX4_reverse_r1 : List Cond := [Cond.fieldLink RX4 37 "LoopSlicer" "history" "LLoopSlicer$History;", Cond.fieldLink RX4 10 "LoopSlicer" "loop" "LLoopSlicer$Loop;", Cond.fieldLink RX4 90 "LoopSlicer$Loop" "markCount" "I", Cond.fieldLink RX4 119 "LoopSlicer$Loop" "sequence" "[I", Cond.methodLink RX4 53 yX1_push, Cond.instanceMethod yX1_push, Cond.selects RX1 yX1_push yX1_push, Cond.initialized RX1, Cond.code yX1_push cX1_push 2 none, Cond.fieldLink RX1 18 "LoopSlicer$History" "newest" "I", Cond.fieldLink RX1 11 "LoopSlicer$History" "states" "[LLoopSlicer$Loop;", Cond.fieldLink RX1 26 "LoopSlicer$History" "size" "I", Cond.methodLink RX1 22 yX2_copy, Cond.instanceMethod yX2_copy, Cond.selects RX2 yX2_copy yX2_copy, Cond.initialized RX2, Cond.code yX2_copy cX2_copy 2 none, Cond.fieldLink RX2 9 "LoopSlicer$Loop" "frames" "I", Cond.fieldLink RX2 15 "LoopSlicer$Loop" "markCount" "I", Cond.fieldLink RX2 18 "LoopSlicer$Loop" "energies" "[I", Cond.methodLink RX2 39 arraycopyName, Cond.native arraycopyName, Cond.static arraycopyName, Cond.initialized "java/lang/System"]
def wsX4_reverse_r2 : List Cond := [Cond.fieldLink RX2 30 "LoopSlicer$Loop" "settings" "[I", Cond.fieldLink RX2 33 "LoopSlicer$Loop" "marks" "[I", Cond.fieldLink RX2 36 "LoopSlicer$Loop" "sequence" "[I", Cond.methodLink RX4 116 yX2_exchange, Cond.instanceMethod yX2_exchange, Cond.selects RX2 yX2_exchange yX2_exchange, Cond.code yX2_exchange cX2_exchange 4 none]
def wsX4_reverse : List Cond := .code yX4_reverse cX4_reverse 2 (some .int) :: ((wsX4_reverse_r1 ++ wsX4_reverse_r2) ++ wsX40 ++ wsX20 ++ wsX10)
def wsX4_undo_r1 : List Cond := [Cond.fieldLink RX4 37 "LoopSlicer" "history" "LLoopSlicer$History;", Cond.fieldLink RX4 122 "LoopSlicer$History" "size" "I", Cond.fieldLink RX4 10 "LoopSlicer" "loop" "LLoopSlicer$Loop;", Cond.methodLink RX4 125 yX1_pop, Cond.instanceMethod yX1_pop, Cond.selects RX1 yX1_pop yX1_pop, Cond.initialized RX1, Cond.code yX1_pop cX1_pop 2 none, Cond.fieldLink RX1 11 "LoopSlicer$History" "states" "[LLoopSlicer$Loop;", Cond.fieldLink RX1 18 "LoopSlicer$History" "newest" "I", Cond.fieldLink RX1 26 "LoopSlicer$History" "size" "I", Cond.methodLink RX1 22 yX2_copy, Cond.instanceMethod yX2_copy, Cond.selects RX2 yX2_copy yX2_copy, Cond.initialized RX2, Cond.code yX2_copy cX2_copy 2 none, Cond.fieldLink RX2 9 "LoopSlicer$Loop" "frames" "I", Cond.fieldLink RX2 15 "LoopSlicer$Loop" "markCount" "I", Cond.fieldLink RX2 18 "LoopSlicer$Loop" "energies" "[I", Cond.methodLink RX2 39 arraycopyName, Cond.native arraycopyName, Cond.static arraycopyName, Cond.initialized "java/lang/System", Cond.fieldLink RX2 30 "LoopSlicer$Loop" "settings" "[I"]
def wsX4_undo_r2 : List Cond := [Cond.fieldLink RX2 33 "LoopSlicer$Loop" "marks" "[I", Cond.fieldLink RX2 36 "LoopSlicer$Loop" "sequence" "[I"]
def wsX4_undo : List Cond := .code yX4_undo cX4_undo 1 (some .int) :: ((wsX4_undo_r1 ++ wsX4_undo_r2) ++ wsX40 ++ wsX10 ++ wsX20)
def wsX4_told_r1 : List Cond := [Cond.fieldLink RX4 10 "LoopSlicer" "loop" "LLoopSlicer$Loop;", Cond.fieldLink RX4 56 "LoopSlicer$Loop" "frames" "I", Cond.fieldLink RX4 80 "LoopSlicer$Loop" "settings" "[I", Cond.fieldLink RX4 90 "LoopSlicer$Loop" "markCount" "I", Cond.fieldLink RX4 30 "LoopSlicer" "result" "LLoopSlicer$Result;", Cond.fieldLink RX4 37 "LoopSlicer" "history" "LLoopSlicer$History;", Cond.fieldLink RX4 122 "LoopSlicer$History" "size" "I", Cond.methodLink RX4 128 yX3_lay, Cond.instanceMethod yX3_lay, Cond.selects RX3 yX3_lay yX3_lay, Cond.initialized RX3, Cond.code yX3_lay cX3_lay 2 (some .boolean), Cond.fieldLink RX3 19 "LoopSlicer$Result" "loop" "LLoopSlicer$Loop;", Cond.fieldLink RX3 23 "LoopSlicer$Result" "grid" "LLoopSlicer$Grid;", Cond.fieldLink RX3 41 "LoopSlicer$Loop" "markCount" "I", Cond.fieldLink RX3 9 "LoopSlicer$Result" "budgets" "[I", Cond.methodLink RX3 27 yX2_isFree, Cond.instanceMethod yX2_isFree, Cond.selects RX2 yX2_isFree yX2_isFree, Cond.initialized RX2, Cond.code yX2_isFree cX2_isFree 1 (some .boolean), Cond.fieldLink RX2 30 "LoopSlicer$Loop" "settings" "[I", Cond.methodLink RX3 33 yX3_shareFreely, Cond.instanceMethod yX3_shareFreely]
def wsX4_told_r2 : List Cond := [Cond.selects RX3 yX3_shareFreely yX3_shareFreely, Cond.code yX3_shareFreely cX3_shareFreely 9 none, Cond.fieldLink RX3 49 "LoopSlicer$Loop" "settings" "[I", Cond.fieldLink RX3 52 "LoopSlicer$Loop" "frames" "I", Cond.fieldLink RX3 15 "LoopSlicer$Result" "remainders" "[J", Cond.methodLink RX3 55 yX2_lengthOf, Cond.instanceMethod yX2_lengthOf, Cond.selects RX2 yX2_lengthOf yX2_lengthOf, Cond.code yX2_lengthOf cX2_lengthOf 2 (some .int), Cond.fieldLink RX2 33 "LoopSlicer$Loop" "marks" "[I", Cond.methodLink RX2 48 yX2_endFrame, Cond.instanceMethod yX2_endFrame, Cond.selects RX2 yX2_endFrame yX2_endFrame, Cond.code yX2_endFrame cX2_endFrame 2 (some .int), Cond.fieldLink RX2 15 "LoopSlicer$Loop" "markCount" "I", Cond.fieldLink RX2 9 "LoopSlicer$Loop" "frames" "I", Cond.methodLink RX3 58 yX3_giveOne, Cond.instanceMethod yX3_giveOne, Cond.selects RX3 yX3_giveOne yX3_giveOne, Cond.code yX3_giveOne cX3_giveOne 3 none, Cond.constantLong RX3 61 (-1), Cond.methodLink RX3 36 yX0_draw, Cond.instanceMethod yX0_draw, Cond.selects RX0 yX0_draw yX0_draw]
def wsX4_told_r3 : List Cond := [Cond.initialized RX0, Cond.code yX0_draw cX0_draw 3 (some .boolean), Cond.fieldLink RX0 27 "LoopSlicer$Grid" "loop" "LLoopSlicer$Loop;", Cond.fieldLink RX0 54 "LoopSlicer$Loop" "settings" "[I", Cond.fieldLink RX0 24 "LoopSlicer$Grid" "steps" "[I", Cond.fieldLink RX0 35 "LoopSlicer$Loop" "markCount" "I", Cond.methodLink RX0 31 yX0_leastSum, Cond.instanceMethod yX0_leastSum, Cond.selects RX0 yX0_leastSum yX0_leastSum, Cond.code yX0_leastSum cX0_leastSum 4 (some .int), Cond.fieldLink RX0 41 "LoopSlicer$Grid" "target" "I", Cond.fieldLink RX0 44 "LoopSlicer$Grid" "lastStep" "I", Cond.fieldLink RX0 21 "LoopSlicer$Grid" "sums" "[I", Cond.methodLink RX0 47 yX0_measure, Cond.instanceMethod yX0_measure, Cond.selects RX0 yX0_measure yX0_measure, Cond.code yX0_measure cX0_measure 3 none, Cond.fieldLink RX0 11 "LoopSlicer$Grid" "positions" "[I", Cond.fieldLink RX0 15 "LoopSlicer$Grid" "least" "[I", Cond.fieldLink RX0 18 "LoopSlicer$Grid" "most" "[I", Cond.methodLink RX0 60 yX2_lengthOf, Cond.methodLink RX0 64 yX2_leastBudget, Cond.instanceMethod yX2_leastBudget, Cond.selects RX2 yX2_leastBudget yX2_leastBudget]
def wsX4_told_r4 : List Cond := [Cond.code yX2_leastBudget cX2_leastBudget 2 (some .int), Cond.methodLink RX0 67 yX2_mostBudget, Cond.instanceMethod yX2_mostBudget, Cond.selects RX2 yX2_mostBudget yX2_mostBudget, Cond.code yX2_mostBudget cX2_mostBudget 2 (some .int), Cond.methodLink RX0 50 yX0_fillSums, Cond.instanceMethod yX0_fillSums, Cond.selects RX0 yX0_fillSums yX0_fillSums, Cond.code yX0_fillSums cX0_fillSums 7 (some .boolean), Cond.methodLink RX0 70 yX0_lastStepOf, Cond.instanceMethod yX0_lastStepOf, Cond.selects RX0 yX0_lastStepOf yX0_lastStepOf, Cond.code yX0_lastStepOf cX0_lastStepOf 2 (some .int), Cond.methodLink RX0 73 yX0_firstStepOf, Cond.instanceMethod yX0_firstStepOf, Cond.selects RX0 yX0_firstStepOf yX0_firstStepOf, Cond.code yX0_firstStepOf cX0_firstStepOf 2 (some .int), Cond.methodLink RX0 57 yX0_bestNext, Cond.instanceMethod yX0_bestNext, Cond.selects RX0 yX0_bestNext yX0_bestNext, Cond.code yX0_bestNext cX0_bestNext 9 (some .int), Cond.methodLink RX0 79 Lib.Math.max.name, Cond.static Lib.Math.max.name, Cond.initialized "java/lang/Math"]
def wsX4_told_r5 : List Cond := [Cond.code Lib.Math.max.name Lib.Math.max.code 2 (some .int), Cond.methodLink RX0 76 yX0_distance, Cond.instanceMethod yX0_distance, Cond.selects RX0 yX0_distance yX0_distance, Cond.code yX0_distance cX0_distance 3 (some .int), Cond.fieldLink RX0 84 "LoopSlicer$Loop" "frames" "I", Cond.fieldLink RX0 87 "LoopSlicer$Loop" "marks" "[I", Cond.methodLink RX0 90 Lib.Math.abs.name, Cond.static Lib.Math.abs.name, Cond.code Lib.Math.abs.name Lib.Math.abs.code 1 (some .int), Cond.methodLink RX3 45 yX0_budgetOf, Cond.instanceMethod yX0_budgetOf, Cond.selects RX0 yX0_budgetOf yX0_budgetOf, Cond.code yX0_budgetOf cX0_budgetOf 2 (some .int), Cond.methodLink RX4 132 yX3_countBeyondLimits, Cond.instanceMethod yX3_countBeyondLimits, Cond.selects RX3 yX3_countBeyondLimits yX3_countBeyondLimits, Cond.code yX3_countBeyondLimits cX3_countBeyondLimits 5 (some .int), Cond.methodLink RX3 63 yX2_leastBudget, Cond.methodLink RX3 66 yX2_mostBudget, Cond.methodLink RX4 136 yX3_sumFades, Cond.instanceMethod yX3_sumFades, Cond.selects RX3 yX3_sumFades yX3_sumFades, Cond.code yX3_sumFades cX3_sumFades 3 (some .int)]
def wsX4_told_r6 : List Cond := [Cond.methodLink RX3 69 yX3_fadeAt, Cond.instanceMethod yX3_fadeAt, Cond.selects RX3 yX3_fadeAt yX3_fadeAt, Cond.code yX3_fadeAt cX3_fadeAt 5 (some .int), Cond.fieldLink RX3 72 "LoopSlicer$Loop" "sequence" "[I", Cond.methodLink RX3 75 Lib.Math.min.name, Cond.static Lib.Math.min.name, Cond.code Lib.Math.min.name Lib.Math.min.code 2 (some .int)]
def wsX4_told : List Cond := .code yX4_told cX4_told 2 (some .int) :: ((wsX4_told_r1 ++ (wsX4_told_r2 ++ (wsX4_told_r3 ++ (wsX4_told_r4 ++ (wsX4_told_r5 ++ wsX4_told_r6))))) ++ wsX40 ++ wsX20 ++ wsX10 ++ wsX30 ++ wsX00)
def wsX4_setting : List Cond := .code yX4_setting cX4_setting 2 (some .int) :: ([.fieldLink RX4 10 "LoopSlicer" "loop" "LLoopSlicer$Loop;", .fieldLink RX4 80 "LoopSlicer$Loop" "settings" "[I", .methodLink RX4 71 yX4_isSetting, .static yX4_isSetting, .initialized RX4, .code yX4_isSetting cX4_isSetting 1 (some .boolean)] ++ wsX40 ++ wsX20)
def wsX4_energy : List Cond := .code yX4_energy cX4_energy 2 (some .int) :: ([.fieldLink RX4 10 "LoopSlicer" "loop" "LLoopSlicer$Loop;", .fieldLink RX4 68 "LoopSlicer$Loop" "energies" "[I", .methodLink RX4 64 yX2_isFrame, .instanceMethod yX2_isFrame, .selects RX2 yX2_isFrame yX2_isFrame, .initialized RX2, .code yX2_isFrame cX2_isFrame 2 (some .boolean), .fieldLink RX2 9 "LoopSlicer$Loop" "frames" "I"] ++ wsX40 ++ wsX20)
def wsX4_slice_r1 : List Cond := [Cond.fieldLink RX4 10 "LoopSlicer" "loop" "LLoopSlicer$Loop;", Cond.fieldLink RX4 83 "LoopSlicer$Loop" "marks" "[I", Cond.fieldLink RX4 30 "LoopSlicer" "result" "LLoopSlicer$Result;", Cond.fieldLink RX4 142 "LoopSlicer$Result" "budgets" "[I", Cond.fieldLink RX4 21 "LoopSlicer" "grid" "LLoopSlicer$Grid;", Cond.fieldLink RX4 148 "LoopSlicer$Grid" "steps" "[I", Cond.methodLink RX4 100 yX2_isSlice, Cond.instanceMethod yX2_isSlice, Cond.selects RX2 yX2_isSlice yX2_isSlice, Cond.initialized RX2, Cond.code yX2_isSlice cX2_isSlice 2 (some .boolean), Cond.fieldLink RX2 15 "LoopSlicer$Loop" "markCount" "I", Cond.methodLink RX4 139 yX2_lengthOf, Cond.instanceMethod yX2_lengthOf, Cond.selects RX2 yX2_lengthOf yX2_lengthOf, Cond.code yX2_lengthOf cX2_lengthOf 2 (some .int), Cond.fieldLink RX2 33 "LoopSlicer$Loop" "marks" "[I", Cond.fieldLink RX2 30 "LoopSlicer$Loop" "settings" "[I", Cond.methodLink RX2 48 yX2_endFrame, Cond.instanceMethod yX2_endFrame, Cond.selects RX2 yX2_endFrame yX2_endFrame, Cond.code yX2_endFrame cX2_endFrame 2 (some .int), Cond.fieldLink RX2 9 "LoopSlicer$Loop" "frames" "I", Cond.methodLink RX4 128 yX3_lay]
def wsX4_slice_r2 : List Cond := [Cond.instanceMethod yX3_lay, Cond.selects RX3 yX3_lay yX3_lay, Cond.initialized RX3, Cond.code yX3_lay cX3_lay 2 (some .boolean), Cond.fieldLink RX3 19 "LoopSlicer$Result" "loop" "LLoopSlicer$Loop;", Cond.fieldLink RX3 23 "LoopSlicer$Result" "grid" "LLoopSlicer$Grid;", Cond.fieldLink RX3 41 "LoopSlicer$Loop" "markCount" "I", Cond.fieldLink RX3 9 "LoopSlicer$Result" "budgets" "[I", Cond.methodLink RX3 27 yX2_isFree, Cond.instanceMethod yX2_isFree, Cond.selects RX2 yX2_isFree yX2_isFree, Cond.code yX2_isFree cX2_isFree 1 (some .boolean), Cond.methodLink RX3 33 yX3_shareFreely, Cond.instanceMethod yX3_shareFreely, Cond.selects RX3 yX3_shareFreely yX3_shareFreely, Cond.code yX3_shareFreely cX3_shareFreely 9 none, Cond.fieldLink RX3 49 "LoopSlicer$Loop" "settings" "[I", Cond.fieldLink RX3 52 "LoopSlicer$Loop" "frames" "I", Cond.fieldLink RX3 15 "LoopSlicer$Result" "remainders" "[J", Cond.methodLink RX3 55 yX2_lengthOf, Cond.methodLink RX3 58 yX3_giveOne, Cond.instanceMethod yX3_giveOne, Cond.selects RX3 yX3_giveOne yX3_giveOne, Cond.code yX3_giveOne cX3_giveOne 3 none]
def wsX4_slice_r3 : List Cond := [Cond.constantLong RX3 61 (-1), Cond.methodLink RX3 36 yX0_draw, Cond.instanceMethod yX0_draw, Cond.selects RX0 yX0_draw yX0_draw, Cond.initialized RX0, Cond.code yX0_draw cX0_draw 3 (some .boolean), Cond.fieldLink RX0 27 "LoopSlicer$Grid" "loop" "LLoopSlicer$Loop;", Cond.fieldLink RX0 54 "LoopSlicer$Loop" "settings" "[I", Cond.fieldLink RX0 24 "LoopSlicer$Grid" "steps" "[I", Cond.fieldLink RX0 35 "LoopSlicer$Loop" "markCount" "I", Cond.methodLink RX0 31 yX0_leastSum, Cond.instanceMethod yX0_leastSum, Cond.selects RX0 yX0_leastSum yX0_leastSum, Cond.code yX0_leastSum cX0_leastSum 4 (some .int), Cond.fieldLink RX0 41 "LoopSlicer$Grid" "target" "I", Cond.fieldLink RX0 44 "LoopSlicer$Grid" "lastStep" "I", Cond.fieldLink RX0 21 "LoopSlicer$Grid" "sums" "[I", Cond.methodLink RX0 47 yX0_measure, Cond.instanceMethod yX0_measure, Cond.selects RX0 yX0_measure yX0_measure, Cond.code yX0_measure cX0_measure 3 none, Cond.fieldLink RX0 11 "LoopSlicer$Grid" "positions" "[I", Cond.fieldLink RX0 15 "LoopSlicer$Grid" "least" "[I", Cond.fieldLink RX0 18 "LoopSlicer$Grid" "most" "[I"]
def wsX4_slice_r4 : List Cond := [Cond.methodLink RX0 60 yX2_lengthOf, Cond.methodLink RX0 64 yX2_leastBudget, Cond.instanceMethod yX2_leastBudget, Cond.selects RX2 yX2_leastBudget yX2_leastBudget, Cond.code yX2_leastBudget cX2_leastBudget 2 (some .int), Cond.methodLink RX0 67 yX2_mostBudget, Cond.instanceMethod yX2_mostBudget, Cond.selects RX2 yX2_mostBudget yX2_mostBudget, Cond.code yX2_mostBudget cX2_mostBudget 2 (some .int), Cond.methodLink RX0 50 yX0_fillSums, Cond.instanceMethod yX0_fillSums, Cond.selects RX0 yX0_fillSums yX0_fillSums, Cond.code yX0_fillSums cX0_fillSums 7 (some .boolean), Cond.methodLink RX0 70 yX0_lastStepOf, Cond.instanceMethod yX0_lastStepOf, Cond.selects RX0 yX0_lastStepOf yX0_lastStepOf, Cond.code yX0_lastStepOf cX0_lastStepOf 2 (some .int), Cond.methodLink RX0 73 yX0_firstStepOf, Cond.instanceMethod yX0_firstStepOf, Cond.selects RX0 yX0_firstStepOf yX0_firstStepOf, Cond.code yX0_firstStepOf cX0_firstStepOf 2 (some .int), Cond.methodLink RX0 57 yX0_bestNext, Cond.instanceMethod yX0_bestNext, Cond.selects RX0 yX0_bestNext yX0_bestNext]
def wsX4_slice_r5 : List Cond := [Cond.code yX0_bestNext cX0_bestNext 9 (some .int), Cond.methodLink RX0 79 Lib.Math.max.name, Cond.static Lib.Math.max.name, Cond.initialized "java/lang/Math", Cond.code Lib.Math.max.name Lib.Math.max.code 2 (some .int), Cond.methodLink RX0 76 yX0_distance, Cond.instanceMethod yX0_distance, Cond.selects RX0 yX0_distance yX0_distance, Cond.code yX0_distance cX0_distance 3 (some .int), Cond.fieldLink RX0 84 "LoopSlicer$Loop" "frames" "I", Cond.fieldLink RX0 87 "LoopSlicer$Loop" "marks" "[I", Cond.methodLink RX0 90 Lib.Math.abs.name, Cond.static Lib.Math.abs.name, Cond.code Lib.Math.abs.name Lib.Math.abs.code 1 (some .int), Cond.methodLink RX3 45 yX0_budgetOf, Cond.instanceMethod yX0_budgetOf, Cond.selects RX0 yX0_budgetOf yX0_budgetOf, Cond.code yX0_budgetOf cX0_budgetOf 2 (some .int), Cond.methodLink RX4 145 yX2_isFree, Cond.methodLink RX4 151 yX3_beginOf, Cond.instanceMethod yX3_beginOf, Cond.selects RX3 yX3_beginOf yX3_beginOf, Cond.code yX3_beginOf cX3_beginOf 5 (some .int), Cond.fieldLink RX3 72 "LoopSlicer$Loop" "sequence" "[I"]
def wsX4_slice_r6 : List Cond := [Cond.methodLink RX3 81 yX2_placeOf, Cond.instanceMethod yX2_placeOf, Cond.selects RX2 yX2_placeOf yX2_placeOf, Cond.code yX2_placeOf cX2_placeOf 3 (some .int), Cond.fieldLink RX2 36 "LoopSlicer$Loop" "sequence" "[I", Cond.methodLink RX4 154 yX2_placeOf, Cond.methodLink RX4 157 yX3_fadeAt, Cond.instanceMethod yX3_fadeAt, Cond.selects RX3 yX3_fadeAt yX3_fadeAt, Cond.code yX3_fadeAt cX3_fadeAt 5 (some .int), Cond.methodLink RX3 75 Lib.Math.min.name, Cond.static Lib.Math.min.name, Cond.code Lib.Math.min.name Lib.Math.min.code 2 (some .int), Cond.methodLink RX4 160 yX2_loudestFrame, Cond.instanceMethod yX2_loudestFrame, Cond.selects RX2 yX2_loudestFrame yX2_loudestFrame, Cond.code yX2_loudestFrame cX2_loudestFrame 5 (some .int), Cond.fieldLink RX2 18 "LoopSlicer$Loop" "energies" "[I"]
def wsX4_slice : List Cond := .code yX4_slice cX4_slice 3 (some .int) :: ((wsX4_slice_r1 ++ (wsX4_slice_r2 ++ (wsX4_slice_r3 ++ (wsX4_slice_r4 ++ (wsX4_slice_r5 ++ wsX4_slice_r6))))) ++ wsX40 ++ wsX20 ++ wsX30 ++ wsX00)
def wsX4_order : List Cond := .code yX4_order cX4_order 2 (some .int) :: ([.fieldLink RX4 10 "LoopSlicer" "loop" "LLoopSlicer$Loop;", .fieldLink RX4 119 "LoopSlicer$Loop" "sequence" "[I", .methodLink RX4 100 yX2_isSlice, .instanceMethod yX2_isSlice, .selects RX2 yX2_isSlice yX2_isSlice, .initialized RX2, .code yX2_isSlice cX2_isSlice 2 (some .boolean), .fieldLink RX2 15 "LoopSlicer$Loop" "markCount" "I"] ++ wsX40 ++ wsX20)
def wsX4_source_r1 : List Cond := [Cond.fieldLink RX4 10 "LoopSlicer" "loop" "LLoopSlicer$Loop;", Cond.fieldLink RX4 80 "LoopSlicer$Loop" "settings" "[I", Cond.fieldLink RX4 30 "LoopSlicer" "result" "LLoopSlicer$Result;", Cond.fieldLink RX4 90 "LoopSlicer$Loop" "markCount" "I", Cond.fieldLink RX4 142 "LoopSlicer$Result" "budgets" "[I", Cond.fieldLink RX4 119 "LoopSlicer$Loop" "sequence" "[I", Cond.methodLink RX4 128 yX3_lay, Cond.instanceMethod yX3_lay, Cond.selects RX3 yX3_lay yX3_lay, Cond.initialized RX3, Cond.code yX3_lay cX3_lay 2 (some .boolean), Cond.fieldLink RX3 19 "LoopSlicer$Result" "loop" "LLoopSlicer$Loop;", Cond.fieldLink RX3 23 "LoopSlicer$Result" "grid" "LLoopSlicer$Grid;", Cond.fieldLink RX3 41 "LoopSlicer$Loop" "markCount" "I", Cond.fieldLink RX3 9 "LoopSlicer$Result" "budgets" "[I", Cond.methodLink RX3 27 yX2_isFree, Cond.instanceMethod yX2_isFree, Cond.selects RX2 yX2_isFree yX2_isFree, Cond.initialized RX2, Cond.code yX2_isFree cX2_isFree 1 (some .boolean), Cond.fieldLink RX2 30 "LoopSlicer$Loop" "settings" "[I", Cond.methodLink RX3 33 yX3_shareFreely, Cond.instanceMethod yX3_shareFreely, Cond.selects RX3 yX3_shareFreely yX3_shareFreely]
def wsX4_source_r2 : List Cond := [Cond.code yX3_shareFreely cX3_shareFreely 9 none, Cond.fieldLink RX3 49 "LoopSlicer$Loop" "settings" "[I", Cond.fieldLink RX3 52 "LoopSlicer$Loop" "frames" "I", Cond.fieldLink RX3 15 "LoopSlicer$Result" "remainders" "[J", Cond.methodLink RX3 55 yX2_lengthOf, Cond.instanceMethod yX2_lengthOf, Cond.selects RX2 yX2_lengthOf yX2_lengthOf, Cond.code yX2_lengthOf cX2_lengthOf 2 (some .int), Cond.fieldLink RX2 33 "LoopSlicer$Loop" "marks" "[I", Cond.methodLink RX2 48 yX2_endFrame, Cond.instanceMethod yX2_endFrame, Cond.selects RX2 yX2_endFrame yX2_endFrame, Cond.code yX2_endFrame cX2_endFrame 2 (some .int), Cond.fieldLink RX2 15 "LoopSlicer$Loop" "markCount" "I", Cond.fieldLink RX2 9 "LoopSlicer$Loop" "frames" "I", Cond.methodLink RX3 58 yX3_giveOne, Cond.instanceMethod yX3_giveOne, Cond.selects RX3 yX3_giveOne yX3_giveOne, Cond.code yX3_giveOne cX3_giveOne 3 none, Cond.constantLong RX3 61 (-1), Cond.methodLink RX3 36 yX0_draw, Cond.instanceMethod yX0_draw, Cond.selects RX0 yX0_draw yX0_draw, Cond.initialized RX0]
def wsX4_source_r3 : List Cond := [Cond.code yX0_draw cX0_draw 3 (some .boolean), Cond.fieldLink RX0 27 "LoopSlicer$Grid" "loop" "LLoopSlicer$Loop;", Cond.fieldLink RX0 54 "LoopSlicer$Loop" "settings" "[I", Cond.fieldLink RX0 24 "LoopSlicer$Grid" "steps" "[I", Cond.fieldLink RX0 35 "LoopSlicer$Loop" "markCount" "I", Cond.methodLink RX0 31 yX0_leastSum, Cond.instanceMethod yX0_leastSum, Cond.selects RX0 yX0_leastSum yX0_leastSum, Cond.code yX0_leastSum cX0_leastSum 4 (some .int), Cond.fieldLink RX0 41 "LoopSlicer$Grid" "target" "I", Cond.fieldLink RX0 44 "LoopSlicer$Grid" "lastStep" "I", Cond.fieldLink RX0 21 "LoopSlicer$Grid" "sums" "[I", Cond.methodLink RX0 47 yX0_measure, Cond.instanceMethod yX0_measure, Cond.selects RX0 yX0_measure yX0_measure, Cond.code yX0_measure cX0_measure 3 none, Cond.fieldLink RX0 11 "LoopSlicer$Grid" "positions" "[I", Cond.fieldLink RX0 15 "LoopSlicer$Grid" "least" "[I", Cond.fieldLink RX0 18 "LoopSlicer$Grid" "most" "[I", Cond.methodLink RX0 60 yX2_lengthOf, Cond.methodLink RX0 64 yX2_leastBudget, Cond.instanceMethod yX2_leastBudget, Cond.selects RX2 yX2_leastBudget yX2_leastBudget, Cond.code yX2_leastBudget cX2_leastBudget 2 (some .int)]
def wsX4_source_r4 : List Cond := [Cond.methodLink RX0 67 yX2_mostBudget, Cond.instanceMethod yX2_mostBudget, Cond.selects RX2 yX2_mostBudget yX2_mostBudget, Cond.code yX2_mostBudget cX2_mostBudget 2 (some .int), Cond.methodLink RX0 50 yX0_fillSums, Cond.instanceMethod yX0_fillSums, Cond.selects RX0 yX0_fillSums yX0_fillSums, Cond.code yX0_fillSums cX0_fillSums 7 (some .boolean), Cond.methodLink RX0 70 yX0_lastStepOf, Cond.instanceMethod yX0_lastStepOf, Cond.selects RX0 yX0_lastStepOf yX0_lastStepOf, Cond.code yX0_lastStepOf cX0_lastStepOf 2 (some .int), Cond.methodLink RX0 73 yX0_firstStepOf, Cond.instanceMethod yX0_firstStepOf, Cond.selects RX0 yX0_firstStepOf yX0_firstStepOf, Cond.code yX0_firstStepOf cX0_firstStepOf 2 (some .int), Cond.methodLink RX0 57 yX0_bestNext, Cond.instanceMethod yX0_bestNext, Cond.selects RX0 yX0_bestNext yX0_bestNext, Cond.code yX0_bestNext cX0_bestNext 9 (some .int), Cond.methodLink RX0 79 Lib.Math.max.name, Cond.static Lib.Math.max.name, Cond.initialized "java/lang/Math", Cond.code Lib.Math.max.name Lib.Math.max.code 2 (some .int)]
def wsX4_source_r5 : List Cond := [Cond.methodLink RX0 76 yX0_distance, Cond.instanceMethod yX0_distance, Cond.selects RX0 yX0_distance yX0_distance, Cond.code yX0_distance cX0_distance 3 (some .int), Cond.fieldLink RX0 84 "LoopSlicer$Loop" "frames" "I", Cond.fieldLink RX0 87 "LoopSlicer$Loop" "marks" "[I", Cond.methodLink RX0 90 Lib.Math.abs.name, Cond.static Lib.Math.abs.name, Cond.code Lib.Math.abs.name Lib.Math.abs.code 1 (some .int), Cond.methodLink RX3 45 yX0_budgetOf, Cond.instanceMethod yX0_budgetOf, Cond.selects RX0 yX0_budgetOf yX0_budgetOf, Cond.code yX0_budgetOf cX0_budgetOf 2 (some .int), Cond.methodLink RX4 163 yX3_originOf, Cond.instanceMethod yX3_originOf, Cond.selects RX3 yX3_originOf yX3_originOf, Cond.code yX3_originOf cX3_originOf 5 (some .int), Cond.fieldLink RX3 72 "LoopSlicer$Loop" "sequence" "[I", Cond.fieldLink RX3 84 "LoopSlicer$Loop" "marks" "[I", Cond.methodLink RX3 87 yX3_loopSample, Cond.instanceMethod yX3_loopSample, Cond.selects RX3 yX3_loopSample yX3_loopSample, Cond.code yX3_loopSample cX3_loopSample 5 (some .int), Cond.methodLink RX3 69 yX3_fadeAt]
def wsX4_source_r6 : List Cond := [Cond.instanceMethod yX3_fadeAt, Cond.selects RX3 yX3_fadeAt yX3_fadeAt, Cond.code yX3_fadeAt cX3_fadeAt 5 (some .int), Cond.methodLink RX3 75 Lib.Math.min.name, Cond.static Lib.Math.min.name, Cond.code Lib.Math.min.name Lib.Math.min.code 2 (some .int)]
def wsX4_source : List Cond := .code yX4_source cX4_source 6 (some .int) :: ((wsX4_source_r1 ++ (wsX4_source_r2 ++ (wsX4_source_r3 ++ (wsX4_source_r4 ++ (wsX4_source_r5 ++ wsX4_source_r6))))) ++ wsX40 ++ wsX20 ++ wsX30 ++ wsX00)
def wsX4_warp_r1 : List Cond := [Cond.fieldLink RX4 10 "LoopSlicer" "loop" "LLoopSlicer$Loop;", Cond.constantFloat RX4 167 (3212836864), Cond.fieldLink RX4 30 "LoopSlicer" "result" "LLoopSlicer$Result;", Cond.constantFloat RX4 168 (3239051264), Cond.fieldLink RX4 142 "LoopSlicer$Result" "budgets" "[I", Cond.methodLink RX4 100 yX2_isSlice, Cond.instanceMethod yX2_isSlice, Cond.selects RX2 yX2_isSlice yX2_isSlice, Cond.initialized RX2, Cond.code yX2_isSlice cX2_isSlice 2 (some .boolean), Cond.fieldLink RX2 15 "LoopSlicer$Loop" "markCount" "I", Cond.methodLink RX4 128 yX3_lay, Cond.instanceMethod yX3_lay, Cond.selects RX3 yX3_lay yX3_lay, Cond.initialized RX3, Cond.code yX3_lay cX3_lay 2 (some .boolean), Cond.fieldLink RX3 19 "LoopSlicer$Result" "loop" "LLoopSlicer$Loop;", Cond.fieldLink RX3 23 "LoopSlicer$Result" "grid" "LLoopSlicer$Grid;", Cond.fieldLink RX3 41 "LoopSlicer$Loop" "markCount" "I", Cond.fieldLink RX3 9 "LoopSlicer$Result" "budgets" "[I", Cond.methodLink RX3 27 yX2_isFree, Cond.instanceMethod yX2_isFree, Cond.selects RX2 yX2_isFree yX2_isFree, Cond.code yX2_isFree cX2_isFree 1 (some .boolean)]
def wsX4_warp_r2 : List Cond := [Cond.fieldLink RX2 30 "LoopSlicer$Loop" "settings" "[I", Cond.methodLink RX3 33 yX3_shareFreely, Cond.instanceMethod yX3_shareFreely, Cond.selects RX3 yX3_shareFreely yX3_shareFreely, Cond.code yX3_shareFreely cX3_shareFreely 9 none, Cond.fieldLink RX3 49 "LoopSlicer$Loop" "settings" "[I", Cond.fieldLink RX3 52 "LoopSlicer$Loop" "frames" "I", Cond.fieldLink RX3 15 "LoopSlicer$Result" "remainders" "[J", Cond.methodLink RX3 55 yX2_lengthOf, Cond.instanceMethod yX2_lengthOf, Cond.selects RX2 yX2_lengthOf yX2_lengthOf, Cond.code yX2_lengthOf cX2_lengthOf 2 (some .int), Cond.fieldLink RX2 33 "LoopSlicer$Loop" "marks" "[I", Cond.methodLink RX2 48 yX2_endFrame, Cond.instanceMethod yX2_endFrame, Cond.selects RX2 yX2_endFrame yX2_endFrame, Cond.code yX2_endFrame cX2_endFrame 2 (some .int), Cond.fieldLink RX2 9 "LoopSlicer$Loop" "frames" "I", Cond.methodLink RX3 58 yX3_giveOne, Cond.instanceMethod yX3_giveOne, Cond.selects RX3 yX3_giveOne yX3_giveOne, Cond.code yX3_giveOne cX3_giveOne 3 none, Cond.constantLong RX3 61 (-1), Cond.methodLink RX3 36 yX0_draw]
def wsX4_warp_r3 : List Cond := [Cond.instanceMethod yX0_draw, Cond.selects RX0 yX0_draw yX0_draw, Cond.initialized RX0, Cond.code yX0_draw cX0_draw 3 (some .boolean), Cond.fieldLink RX0 27 "LoopSlicer$Grid" "loop" "LLoopSlicer$Loop;", Cond.fieldLink RX0 54 "LoopSlicer$Loop" "settings" "[I", Cond.fieldLink RX0 24 "LoopSlicer$Grid" "steps" "[I", Cond.fieldLink RX0 35 "LoopSlicer$Loop" "markCount" "I", Cond.methodLink RX0 31 yX0_leastSum, Cond.instanceMethod yX0_leastSum, Cond.selects RX0 yX0_leastSum yX0_leastSum, Cond.code yX0_leastSum cX0_leastSum 4 (some .int), Cond.fieldLink RX0 41 "LoopSlicer$Grid" "target" "I", Cond.fieldLink RX0 44 "LoopSlicer$Grid" "lastStep" "I", Cond.fieldLink RX0 21 "LoopSlicer$Grid" "sums" "[I", Cond.methodLink RX0 47 yX0_measure, Cond.instanceMethod yX0_measure, Cond.selects RX0 yX0_measure yX0_measure, Cond.code yX0_measure cX0_measure 3 none, Cond.fieldLink RX0 11 "LoopSlicer$Grid" "positions" "[I", Cond.fieldLink RX0 15 "LoopSlicer$Grid" "least" "[I", Cond.fieldLink RX0 18 "LoopSlicer$Grid" "most" "[I", Cond.methodLink RX0 60 yX2_lengthOf, Cond.methodLink RX0 64 yX2_leastBudget]
def wsX4_warp_r4 : List Cond := [Cond.instanceMethod yX2_leastBudget, Cond.selects RX2 yX2_leastBudget yX2_leastBudget, Cond.code yX2_leastBudget cX2_leastBudget 2 (some .int), Cond.methodLink RX0 67 yX2_mostBudget, Cond.instanceMethod yX2_mostBudget, Cond.selects RX2 yX2_mostBudget yX2_mostBudget, Cond.code yX2_mostBudget cX2_mostBudget 2 (some .int), Cond.methodLink RX0 50 yX0_fillSums, Cond.instanceMethod yX0_fillSums, Cond.selects RX0 yX0_fillSums yX0_fillSums, Cond.code yX0_fillSums cX0_fillSums 7 (some .boolean), Cond.methodLink RX0 70 yX0_lastStepOf, Cond.instanceMethod yX0_lastStepOf, Cond.selects RX0 yX0_lastStepOf yX0_lastStepOf, Cond.code yX0_lastStepOf cX0_lastStepOf 2 (some .int), Cond.methodLink RX0 73 yX0_firstStepOf, Cond.instanceMethod yX0_firstStepOf, Cond.selects RX0 yX0_firstStepOf yX0_firstStepOf, Cond.code yX0_firstStepOf cX0_firstStepOf 2 (some .int), Cond.methodLink RX0 57 yX0_bestNext, Cond.instanceMethod yX0_bestNext, Cond.selects RX0 yX0_bestNext yX0_bestNext, Cond.code yX0_bestNext cX0_bestNext 9 (some .int), Cond.methodLink RX0 79 Lib.Math.max.name]
def wsX4_warp_r5 : List Cond := [Cond.static Lib.Math.max.name, Cond.initialized "java/lang/Math", Cond.code Lib.Math.max.name Lib.Math.max.code 2 (some .int), Cond.methodLink RX0 76 yX0_distance, Cond.instanceMethod yX0_distance, Cond.selects RX0 yX0_distance yX0_distance, Cond.code yX0_distance cX0_distance 3 (some .int), Cond.fieldLink RX0 84 "LoopSlicer$Loop" "frames" "I", Cond.fieldLink RX0 87 "LoopSlicer$Loop" "marks" "[I", Cond.methodLink RX0 90 Lib.Math.abs.name, Cond.static Lib.Math.abs.name, Cond.code Lib.Math.abs.name Lib.Math.abs.code 1 (some .int), Cond.methodLink RX3 45 yX0_budgetOf, Cond.instanceMethod yX0_budgetOf, Cond.selects RX0 yX0_budgetOf yX0_budgetOf, Cond.code yX0_budgetOf cX0_budgetOf 2 (some .int), Cond.methodLink RX4 139 yX2_lengthOf]
def wsX4_warp : List Cond := .code yX4_warp cX4_warp 2 (some .float) :: ((wsX4_warp_r1 ++ (wsX4_warp_r2 ++ (wsX4_warp_r3 ++ (wsX4_warp_r4 ++ wsX4_warp_r5)))) ++ wsX40 ++ wsX30 ++ wsX20 ++ wsX00)
def wsX4_shift_r1 : List Cond := [Cond.fieldLink RX4 21 "LoopSlicer" "grid" "LLoopSlicer$Grid;", Cond.fieldLink RX4 10 "LoopSlicer" "loop" "LLoopSlicer$Loop;", Cond.fieldLink RX4 80 "LoopSlicer$Loop" "settings" "[I", Cond.fieldLink RX4 56 "LoopSlicer$Loop" "frames" "I", Cond.methodLink RX4 169 yX0_leastSum, Cond.instanceMethod yX0_leastSum, Cond.selects RX0 yX0_leastSum yX0_leastSum, Cond.initialized RX0, Cond.code yX0_leastSum cX0_leastSum 4 (some .int), Cond.fieldLink RX0 27 "LoopSlicer$Grid" "loop" "LLoopSlicer$Loop;", Cond.fieldLink RX0 35 "LoopSlicer$Loop" "markCount" "I", Cond.fieldLink RX0 41 "LoopSlicer$Grid" "target" "I", Cond.fieldLink RX0 44 "LoopSlicer$Grid" "lastStep" "I", Cond.fieldLink RX0 21 "LoopSlicer$Grid" "sums" "[I", Cond.methodLink RX0 47 yX0_measure, Cond.instanceMethod yX0_measure, Cond.selects RX0 yX0_measure yX0_measure, Cond.code yX0_measure cX0_measure 3 none, Cond.fieldLink RX0 11 "LoopSlicer$Grid" "positions" "[I", Cond.fieldLink RX0 15 "LoopSlicer$Grid" "least" "[I", Cond.fieldLink RX0 18 "LoopSlicer$Grid" "most" "[I", Cond.methodLink RX0 60 yX2_lengthOf, Cond.instanceMethod yX2_lengthOf, Cond.selects RX2 yX2_lengthOf yX2_lengthOf]
def wsX4_shift_r2 : List Cond := [Cond.initialized RX2, Cond.code yX2_lengthOf cX2_lengthOf 2 (some .int), Cond.fieldLink RX2 33 "LoopSlicer$Loop" "marks" "[I", Cond.fieldLink RX2 30 "LoopSlicer$Loop" "settings" "[I", Cond.methodLink RX2 48 yX2_endFrame, Cond.instanceMethod yX2_endFrame, Cond.selects RX2 yX2_endFrame yX2_endFrame, Cond.code yX2_endFrame cX2_endFrame 2 (some .int), Cond.fieldLink RX2 15 "LoopSlicer$Loop" "markCount" "I", Cond.fieldLink RX2 9 "LoopSlicer$Loop" "frames" "I", Cond.methodLink RX0 64 yX2_leastBudget, Cond.instanceMethod yX2_leastBudget, Cond.selects RX2 yX2_leastBudget yX2_leastBudget, Cond.code yX2_leastBudget cX2_leastBudget 2 (some .int), Cond.methodLink RX0 67 yX2_mostBudget, Cond.instanceMethod yX2_mostBudget, Cond.selects RX2 yX2_mostBudget yX2_mostBudget, Cond.code yX2_mostBudget cX2_mostBudget 2 (some .int), Cond.methodLink RX0 50 yX0_fillSums, Cond.instanceMethod yX0_fillSums, Cond.selects RX0 yX0_fillSums yX0_fillSums, Cond.code yX0_fillSums cX0_fillSums 7 (some .boolean), Cond.methodLink RX0 70 yX0_lastStepOf, Cond.instanceMethod yX0_lastStepOf]
def wsX4_shift_r3 : List Cond := [Cond.selects RX0 yX0_lastStepOf yX0_lastStepOf, Cond.code yX0_lastStepOf cX0_lastStepOf 2 (some .int), Cond.methodLink RX0 73 yX0_firstStepOf, Cond.instanceMethod yX0_firstStepOf, Cond.selects RX0 yX0_firstStepOf yX0_firstStepOf, Cond.code yX0_firstStepOf cX0_firstStepOf 2 (some .int), Cond.methodLink RX0 57 yX0_bestNext, Cond.instanceMethod yX0_bestNext, Cond.selects RX0 yX0_bestNext yX0_bestNext, Cond.code yX0_bestNext cX0_bestNext 9 (some .int), Cond.methodLink RX0 79 Lib.Math.max.name, Cond.static Lib.Math.max.name, Cond.initialized "java/lang/Math", Cond.code Lib.Math.max.name Lib.Math.max.code 2 (some .int), Cond.methodLink RX0 76 yX0_distance, Cond.instanceMethod yX0_distance, Cond.selects RX0 yX0_distance yX0_distance, Cond.code yX0_distance cX0_distance 3 (some .int), Cond.fieldLink RX0 84 "LoopSlicer$Loop" "frames" "I", Cond.fieldLink RX0 87 "LoopSlicer$Loop" "marks" "[I", Cond.methodLink RX0 90 Lib.Math.abs.name, Cond.static Lib.Math.abs.name, Cond.code Lib.Math.abs.name Lib.Math.abs.code 1 (some .int)]
def wsX4_shift : List Cond := .code yX4_shift cX4_shift 2 (some .int) :: ((wsX4_shift_r1 ++ (wsX4_shift_r2 ++ wsX4_shift_r3)) ++ wsX40 ++ wsX20 ++ wsX00)
def wsX4_leastGrid_r1 : List Cond := [Cond.fieldLink RX4 21 "LoopSlicer" "grid" "LLoopSlicer$Grid;", Cond.fieldLink RX4 10 "LoopSlicer" "loop" "LLoopSlicer$Loop;", Cond.fieldLink RX4 80 "LoopSlicer$Loop" "settings" "[I", Cond.methodLink RX4 173 yX0_canLay, Cond.instanceMethod yX0_canLay, Cond.selects RX0 yX0_canLay yX0_canLay, Cond.initialized RX0, Cond.code yX0_canLay cX0_canLay 3 (some .boolean), Cond.methodLink RX0 31 yX0_leastSum, Cond.instanceMethod yX0_leastSum, Cond.selects RX0 yX0_leastSum yX0_leastSum, Cond.code yX0_leastSum cX0_leastSum 4 (some .int), Cond.fieldLink RX0 27 "LoopSlicer$Grid" "loop" "LLoopSlicer$Loop;", Cond.fieldLink RX0 35 "LoopSlicer$Loop" "markCount" "I", Cond.fieldLink RX0 41 "LoopSlicer$Grid" "target" "I", Cond.fieldLink RX0 44 "LoopSlicer$Grid" "lastStep" "I", Cond.fieldLink RX0 21 "LoopSlicer$Grid" "sums" "[I", Cond.methodLink RX0 47 yX0_measure, Cond.instanceMethod yX0_measure, Cond.selects RX0 yX0_measure yX0_measure, Cond.code yX0_measure cX0_measure 3 none, Cond.fieldLink RX0 11 "LoopSlicer$Grid" "positions" "[I", Cond.fieldLink RX0 15 "LoopSlicer$Grid" "least" "[I", Cond.fieldLink RX0 18 "LoopSlicer$Grid" "most" "[I"]
def wsX4_leastGrid_r2 : List Cond := [Cond.methodLink RX0 60 yX2_lengthOf, Cond.instanceMethod yX2_lengthOf, Cond.selects RX2 yX2_lengthOf yX2_lengthOf, Cond.initialized RX2, Cond.code yX2_lengthOf cX2_lengthOf 2 (some .int), Cond.fieldLink RX2 33 "LoopSlicer$Loop" "marks" "[I", Cond.fieldLink RX2 30 "LoopSlicer$Loop" "settings" "[I", Cond.methodLink RX2 48 yX2_endFrame, Cond.instanceMethod yX2_endFrame, Cond.selects RX2 yX2_endFrame yX2_endFrame, Cond.code yX2_endFrame cX2_endFrame 2 (some .int), Cond.fieldLink RX2 15 "LoopSlicer$Loop" "markCount" "I", Cond.fieldLink RX2 9 "LoopSlicer$Loop" "frames" "I", Cond.methodLink RX0 64 yX2_leastBudget, Cond.instanceMethod yX2_leastBudget, Cond.selects RX2 yX2_leastBudget yX2_leastBudget, Cond.code yX2_leastBudget cX2_leastBudget 2 (some .int), Cond.methodLink RX0 67 yX2_mostBudget, Cond.instanceMethod yX2_mostBudget, Cond.selects RX2 yX2_mostBudget yX2_mostBudget, Cond.code yX2_mostBudget cX2_mostBudget 2 (some .int), Cond.methodLink RX0 50 yX0_fillSums, Cond.instanceMethod yX0_fillSums, Cond.selects RX0 yX0_fillSums yX0_fillSums]
def wsX4_leastGrid_r3 : List Cond := [Cond.code yX0_fillSums cX0_fillSums 7 (some .boolean), Cond.methodLink RX0 70 yX0_lastStepOf, Cond.instanceMethod yX0_lastStepOf, Cond.selects RX0 yX0_lastStepOf yX0_lastStepOf, Cond.code yX0_lastStepOf cX0_lastStepOf 2 (some .int), Cond.methodLink RX0 73 yX0_firstStepOf, Cond.instanceMethod yX0_firstStepOf, Cond.selects RX0 yX0_firstStepOf yX0_firstStepOf, Cond.code yX0_firstStepOf cX0_firstStepOf 2 (some .int), Cond.methodLink RX0 57 yX0_bestNext, Cond.instanceMethod yX0_bestNext, Cond.selects RX0 yX0_bestNext yX0_bestNext, Cond.code yX0_bestNext cX0_bestNext 9 (some .int), Cond.methodLink RX0 79 Lib.Math.max.name, Cond.static Lib.Math.max.name, Cond.initialized "java/lang/Math", Cond.code Lib.Math.max.name Lib.Math.max.code 2 (some .int), Cond.methodLink RX0 76 yX0_distance, Cond.instanceMethod yX0_distance, Cond.selects RX0 yX0_distance yX0_distance, Cond.code yX0_distance cX0_distance 3 (some .int), Cond.fieldLink RX0 84 "LoopSlicer$Loop" "frames" "I", Cond.fieldLink RX0 87 "LoopSlicer$Loop" "marks" "[I", Cond.methodLink RX0 90 Lib.Math.abs.name]
def wsX4_leastGrid_r4 : List Cond := [Cond.static Lib.Math.abs.name, Cond.code Lib.Math.abs.name Lib.Math.abs.code 1 (some .int)]
def wsX4_leastGrid : List Cond := .code yX4_leastGrid cX4_leastGrid 2 (some .int) :: ((wsX4_leastGrid_r1 ++ (wsX4_leastGrid_r2 ++ (wsX4_leastGrid_r3 ++ wsX4_leastGrid_r4))) ++ wsX40 ++ wsX20 ++ wsX00)
def wsX4_nearTarget_r1 : List Cond := [Cond.fieldLink RX4 10 "LoopSlicer" "loop" "LLoopSlicer$Loop;", Cond.fieldLink RX4 80 "LoopSlicer$Loop" "settings" "[I", Cond.fieldLink RX4 21 "LoopSlicer" "grid" "LLoopSlicer$Grid;", Cond.constant RX4 177 (200000), Cond.methodLink RX4 173 yX0_canLay, Cond.instanceMethod yX0_canLay, Cond.selects RX0 yX0_canLay yX0_canLay, Cond.initialized RX0, Cond.code yX0_canLay cX0_canLay 3 (some .boolean), Cond.methodLink RX0 31 yX0_leastSum, Cond.instanceMethod yX0_leastSum, Cond.selects RX0 yX0_leastSum yX0_leastSum, Cond.code yX0_leastSum cX0_leastSum 4 (some .int), Cond.fieldLink RX0 27 "LoopSlicer$Grid" "loop" "LLoopSlicer$Loop;", Cond.fieldLink RX0 35 "LoopSlicer$Loop" "markCount" "I", Cond.fieldLink RX0 41 "LoopSlicer$Grid" "target" "I", Cond.fieldLink RX0 44 "LoopSlicer$Grid" "lastStep" "I", Cond.fieldLink RX0 21 "LoopSlicer$Grid" "sums" "[I", Cond.methodLink RX0 47 yX0_measure, Cond.instanceMethod yX0_measure, Cond.selects RX0 yX0_measure yX0_measure, Cond.code yX0_measure cX0_measure 3 none, Cond.fieldLink RX0 11 "LoopSlicer$Grid" "positions" "[I", Cond.fieldLink RX0 15 "LoopSlicer$Grid" "least" "[I"]
def wsX4_nearTarget_r2 : List Cond := [Cond.fieldLink RX0 18 "LoopSlicer$Grid" "most" "[I", Cond.methodLink RX0 60 yX2_lengthOf, Cond.instanceMethod yX2_lengthOf, Cond.selects RX2 yX2_lengthOf yX2_lengthOf, Cond.initialized RX2, Cond.code yX2_lengthOf cX2_lengthOf 2 (some .int), Cond.fieldLink RX2 33 "LoopSlicer$Loop" "marks" "[I", Cond.fieldLink RX2 30 "LoopSlicer$Loop" "settings" "[I", Cond.methodLink RX2 48 yX2_endFrame, Cond.instanceMethod yX2_endFrame, Cond.selects RX2 yX2_endFrame yX2_endFrame, Cond.code yX2_endFrame cX2_endFrame 2 (some .int), Cond.fieldLink RX2 15 "LoopSlicer$Loop" "markCount" "I", Cond.fieldLink RX2 9 "LoopSlicer$Loop" "frames" "I", Cond.methodLink RX0 64 yX2_leastBudget, Cond.instanceMethod yX2_leastBudget, Cond.selects RX2 yX2_leastBudget yX2_leastBudget, Cond.code yX2_leastBudget cX2_leastBudget 2 (some .int), Cond.methodLink RX0 67 yX2_mostBudget, Cond.instanceMethod yX2_mostBudget, Cond.selects RX2 yX2_mostBudget yX2_mostBudget, Cond.code yX2_mostBudget cX2_mostBudget 2 (some .int), Cond.methodLink RX0 50 yX0_fillSums, Cond.instanceMethod yX0_fillSums]
def wsX4_nearTarget_r3 : List Cond := [Cond.selects RX0 yX0_fillSums yX0_fillSums, Cond.code yX0_fillSums cX0_fillSums 7 (some .boolean), Cond.methodLink RX0 70 yX0_lastStepOf, Cond.instanceMethod yX0_lastStepOf, Cond.selects RX0 yX0_lastStepOf yX0_lastStepOf, Cond.code yX0_lastStepOf cX0_lastStepOf 2 (some .int), Cond.methodLink RX0 73 yX0_firstStepOf, Cond.instanceMethod yX0_firstStepOf, Cond.selects RX0 yX0_firstStepOf yX0_firstStepOf, Cond.code yX0_firstStepOf cX0_firstStepOf 2 (some .int), Cond.methodLink RX0 57 yX0_bestNext, Cond.instanceMethod yX0_bestNext, Cond.selects RX0 yX0_bestNext yX0_bestNext, Cond.code yX0_bestNext cX0_bestNext 9 (some .int), Cond.methodLink RX0 79 Lib.Math.max.name, Cond.static Lib.Math.max.name, Cond.initialized "java/lang/Math", Cond.code Lib.Math.max.name Lib.Math.max.code 2 (some .int), Cond.methodLink RX0 76 yX0_distance, Cond.instanceMethod yX0_distance, Cond.selects RX0 yX0_distance yX0_distance, Cond.code yX0_distance cX0_distance 3 (some .int), Cond.fieldLink RX0 84 "LoopSlicer$Loop" "frames" "I", Cond.fieldLink RX0 87 "LoopSlicer$Loop" "marks" "[I"]
def wsX4_nearTarget_r4 : List Cond := [Cond.methodLink RX0 90 Lib.Math.abs.name, Cond.static Lib.Math.abs.name, Cond.code Lib.Math.abs.name Lib.Math.abs.code 1 (some .int)]
def wsX4_nearTarget : List Cond := .code yX4_nearTarget cX4_nearTarget 5 (some .int) :: ((wsX4_nearTarget_r1 ++ (wsX4_nearTarget_r2 ++ (wsX4_nearTarget_r3 ++ wsX4_nearTarget_r4))) ++ wsX40 ++ wsX20 ++ wsX00)
def wsX4_marksWith : List Cond := .code yX4_marksWith cX4_marksWith 2 (some .int) :: ([.fieldLink RX4 10 "LoopSlicer" "loop" "LLoopSlicer$Loop;", .fieldLink RX4 49 "LoopSlicer" "wouldBeMarks" "[I", .methodLink RX4 86 yX2_findRises, .instanceMethod yX2_findRises, .selects RX2 yX2_findRises yX2_findRises, .initialized RX2, .code yX2_findRises cX2_findRises 6 (some .int), .fieldLink RX2 9 "LoopSlicer$Loop" "frames" "I", .fieldLink RX2 18 "LoopSlicer$Loop" "energies" "[I", .fieldLink RX2 30 "LoopSlicer$Loop" "settings" "[I"] ++ wsX40 ++ wsX20)
def wsX4_thresholdFor : List Cond := .code yX4_thresholdFor cX4_thresholdFor 5 (some .int) :: ([.fieldLink RX4 10 "LoopSlicer" "loop" "LLoopSlicer$Loop;", .fieldLink RX4 49 "LoopSlicer" "wouldBeMarks" "[I", .fieldLink RX4 56 "LoopSlicer$Loop" "frames" "I", .fieldLink RX4 68 "LoopSlicer$Loop" "energies" "[I", .methodLink RX4 86 yX2_findRises, .instanceMethod yX2_findRises, .selects RX2 yX2_findRises yX2_findRises, .initialized RX2, .code yX2_findRises cX2_findRises 6 (some .int), .fieldLink RX2 9 "LoopSlicer$Loop" "frames" "I", .fieldLink RX2 18 "LoopSlicer$Loop" "energies" "[I", .fieldLink RX2 30 "LoopSlicer$Loop" "settings" "[I"] ++ wsX40 ++ wsX20)
def wsX4_isImage : List Cond := .code yX4_isImage cX4_isImage 1 (some .boolean) :: ([])
def wsX4_keep : List Cond := .code yX4_keep cX4_keep 2 (some .int) :: ([.fieldLink RX4 41 "LoopSlicer" "images" "[LLoopSlicer$Loop;", .fieldLink RX4 10 "LoopSlicer" "loop" "LLoopSlicer$Loop;", .fieldLink RX4 45 "LoopSlicer" "kept" "[Z", .fieldLink RX4 90 "LoopSlicer$Loop" "markCount" "I", .methodLink RX4 178 yX4_isImage, .static yX4_isImage, .initialized RX4, .code yX4_isImage cX4_isImage 1 (some .boolean), .methodLink RX4 181 yX2_copy, .instanceMethod yX2_copy, .selects RX2 yX2_copy yX2_copy, .initialized RX2, .code yX2_copy cX2_copy 2 none, .fieldLink RX2 9 "LoopSlicer$Loop" "frames" "I", .fieldLink RX2 15 "LoopSlicer$Loop" "markCount" "I", .fieldLink RX2 18 "LoopSlicer$Loop" "energies" "[I", .methodLink RX2 39 arraycopyName, .native arraycopyName, .static arraycopyName, .initialized "java/lang/System", .fieldLink RX2 30 "LoopSlicer$Loop" "settings" "[I", .fieldLink RX2 33 "LoopSlicer$Loop" "marks" "[I", .fieldLink RX2 36 "LoopSlicer$Loop" "sequence" "[I"] ++ wsX40 ++ wsX20)
def wsX4_back_r1 : List Cond := [Cond.fieldLink RX4 45 "LoopSlicer" "kept" "[Z", Cond.fieldLink RX4 37 "LoopSlicer" "history" "LLoopSlicer$History;", Cond.fieldLink RX4 10 "LoopSlicer" "loop" "LLoopSlicer$Loop;", Cond.fieldLink RX4 41 "LoopSlicer" "images" "[LLoopSlicer$Loop;", Cond.fieldLink RX4 90 "LoopSlicer$Loop" "markCount" "I", Cond.methodLink RX4 178 yX4_isImage, Cond.static yX4_isImage, Cond.initialized RX4, Cond.code yX4_isImage cX4_isImage 1 (some .boolean), Cond.methodLink RX4 53 yX1_push, Cond.instanceMethod yX1_push, Cond.selects RX1 yX1_push yX1_push, Cond.initialized RX1, Cond.code yX1_push cX1_push 2 none, Cond.fieldLink RX1 18 "LoopSlicer$History" "newest" "I", Cond.fieldLink RX1 11 "LoopSlicer$History" "states" "[LLoopSlicer$Loop;", Cond.fieldLink RX1 26 "LoopSlicer$History" "size" "I", Cond.methodLink RX1 22 yX2_copy, Cond.instanceMethod yX2_copy, Cond.selects RX2 yX2_copy yX2_copy, Cond.initialized RX2, Cond.code yX2_copy cX2_copy 2 none, Cond.fieldLink RX2 9 "LoopSlicer$Loop" "frames" "I", Cond.fieldLink RX2 15 "LoopSlicer$Loop" "markCount" "I"]
def wsX4_back_r2 : List Cond := [Cond.fieldLink RX2 18 "LoopSlicer$Loop" "energies" "[I", Cond.methodLink RX2 39 arraycopyName, Cond.native arraycopyName, Cond.static arraycopyName, Cond.initialized "java/lang/System", Cond.fieldLink RX2 30 "LoopSlicer$Loop" "settings" "[I", Cond.fieldLink RX2 33 "LoopSlicer$Loop" "marks" "[I", Cond.fieldLink RX2 36 "LoopSlicer$Loop" "sequence" "[I", Cond.methodLink RX4 181 yX2_copy]
def wsX4_back : List Cond := .code yX4_back cX4_back 2 (some .int) :: ((wsX4_back_r1 ++ wsX4_back_r2) ++ wsX40 ++ wsX20 ++ wsX10)
def wsX5_layOrder : List Cond := .code yX5_layOrder cX5_layOrder 2 none :: ([.fieldLink RX5 7 "LoopSlicerModel" "w" "[I"] ++ wsX50)
def wsX5_layLoop : List Cond := .code yX5_layLoop cX5_layLoop 3 none :: ([.fieldLink RX5 7 "LoopSlicerModel" "w" "[I", .methodLink RX5 40 yX5_layOrder, .instanceMethod yX5_layOrder, .selects RX5 yX5_layOrder yX5_layOrder, .initialized RX5, .code yX5_layOrder cX5_layOrder 2 none] ++ wsX50)
def wsX5_init : List Cond := .code yX5_init cX5_init 1 none :: ([.methodLink RX5 1 objectInit, .instanceMethod objectInit, .code objectInit ⟨#[0xb1]⟩ 1 none, .arrayClass .int, .fieldLink RX5 7 "LoopSlicerModel" "w" "[I", .fieldLink RX5 13 "LoopSlicerModel" "past" "[I", .fieldLink RX5 16 "LoopSlicerModel" "images" "[I", .fieldLink RX5 19 "LoopSlicerModel" "found" "[I", .fieldLink RX5 22 "LoopSlicerModel" "budget" "[I", .fieldLink RX5 25 "LoopSlicerModel" "steps" "[I", .arrayClass .long, .fieldLink RX5 28 "LoopSlicerModel" "best" "[J", .arrayClass .boolean, .fieldLink RX5 32 "LoopSlicerModel" "isServed" "[Z", .methodLink RX5 36 yX5_layLoop, .instanceMethod yX5_layLoop, .selects RX5 yX5_layLoop yX5_layLoop, .initialized RX5, .code yX5_layLoop cX5_layLoop 3 none, .methodLink RX5 40 yX5_layOrder, .instanceMethod yX5_layOrder, .selects RX5 yX5_layOrder yX5_layOrder, .code yX5_layOrder cX5_layOrder 2 none] ++ wsX50)
def wsX5_isIn : List Cond := .code yX5_isIn cX5_isIn 3 (some .boolean) :: ([])
def wsX5_remember : List Cond := .code yX5_remember cX5_remember 2 none :: ([.fieldLink RX5 43 "LoopSlicerModel" "pastMany" "I", .fieldLink RX5 13 "LoopSlicerModel" "past" "[I", .fieldLink RX5 7 "LoopSlicerModel" "w" "[I"] ++ wsX50)
def wsX5_isFrame : List Cond := .code yX5_isFrame cX5_isFrame 2 (some .boolean) :: ([.fieldLink RX5 7 "LoopSlicerModel" "w" "[I", .methodLink RX5 47 yX5_isIn, .static yX5_isIn, .initialized RX5, .code yX5_isIn cX5_isIn 3 (some .boolean)] ++ wsX50)
def wsX5_isSlice : List Cond := .code yX5_isSlice cX5_isSlice 2 (some .boolean) :: ([.fieldLink RX5 7 "LoopSlicerModel" "w" "[I", .methodLink RX5 47 yX5_isIn, .static yX5_isIn, .initialized RX5, .code yX5_isIn cX5_isIn 3 (some .boolean)] ++ wsX50)
def wsX5_frameOf : List Cond := .code yX5_frameOf cX5_frameOf 2 (some .int) :: ([.fieldLink RX5 7 "LoopSlicerModel" "w" "[I"] ++ wsX50)
def wsX5_lengthOf : List Cond := .code yX5_lengthOf cX5_lengthOf 2 (some .int) :: ([.fieldLink RX5 7 "LoopSlicerModel" "w" "[I", .methodLink RX5 51 yX5_frameOf, .instanceMethod yX5_frameOf, .selects RX5 yX5_frameOf yX5_frameOf, .initialized RX5, .code yX5_frameOf cX5_frameOf 2 (some .int)] ++ wsX50)
def wsX5_whole : List Cond := .code yX5_whole cX5_whole 1 (some .int) :: ([.fieldLink RX5 7 "LoopSlicerModel" "w" "[I"] ++ wsX50)
def wsX5_findBy : List Cond := .code yX5_findBy cX5_findBy 4 (some .int) :: ([.fieldLink RX5 19 "LoopSlicerModel" "found" "[I", .fieldLink RX5 7 "LoopSlicerModel" "w" "[I"] ++ wsX50)
def wsX5_remainder : List Cond := .code yX5_remainder cX5_remainder 2 (some .long) :: ([.fieldLink RX5 7 "LoopSlicerModel" "w" "[I", .methodLink RX5 55 yX5_lengthOf, .instanceMethod yX5_lengthOf, .selects RX5 yX5_lengthOf yX5_lengthOf, .initialized RX5, .code yX5_lengthOf cX5_lengthOf 2 (some .int), .methodLink RX5 51 yX5_frameOf, .instanceMethod yX5_frameOf, .selects RX5 yX5_frameOf yX5_frameOf, .code yX5_frameOf cX5_frameOf 2 (some .int), .methodLink RX5 58 yX5_whole, .instanceMethod yX5_whole, .selects RX5 yX5_whole yX5_whole, .code yX5_whole cX5_whole 1 (some .int)] ++ wsX50)
def wsX5_layFree : List Cond := .code yX5_layFree cX5_layFree 6 none :: ([.fieldLink RX5 7 "LoopSlicerModel" "w" "[I", .fieldLink RX5 22 "LoopSlicerModel" "budget" "[I", .fieldLink RX5 32 "LoopSlicerModel" "isServed" "[Z", .methodLink RX5 55 yX5_lengthOf, .instanceMethod yX5_lengthOf, .selects RX5 yX5_lengthOf yX5_lengthOf, .initialized RX5, .code yX5_lengthOf cX5_lengthOf 2 (some .int), .methodLink RX5 51 yX5_frameOf, .instanceMethod yX5_frameOf, .selects RX5 yX5_frameOf yX5_frameOf, .code yX5_frameOf cX5_frameOf 2 (some .int), .methodLink RX5 58 yX5_whole, .instanceMethod yX5_whole, .selects RX5 yX5_whole yX5_whole, .code yX5_whole cX5_whole 1 (some .int), .methodLink RX5 62 yX5_remainder, .instanceMethod yX5_remainder, .selects RX5 yX5_remainder yX5_remainder, .code yX5_remainder cX5_remainder 2 (some .long)] ++ wsX50)
def wsX5_sampleAt : List Cond := .code yX5_sampleAt cX5_sampleAt 3 (some .int) :: ([])
def wsX5_fits : List Cond := .code yX5_fits cX5_fits 3 (some .boolean) :: ([.fieldLink RX5 7 "LoopSlicerModel" "w" "[I", .constantLong RX5 66 (100), .methodLink RX5 55 yX5_lengthOf, .instanceMethod yX5_lengthOf, .selects RX5 yX5_lengthOf yX5_lengthOf, .initialized RX5, .code yX5_lengthOf cX5_lengthOf 2 (some .int), .methodLink RX5 51 yX5_frameOf, .instanceMethod yX5_frameOf, .selects RX5 yX5_frameOf yX5_frameOf, .code yX5_frameOf cX5_frameOf 2 (some .int)] ++ wsX50)
def wsX5_off : List Cond := .code yX5_off cX5_off 7 (some .long) :: ([.fieldLink RX5 7 "LoopSlicerModel" "w" "[I", .methodLink RX5 68 yX5_sampleAt, .static yX5_sampleAt, .initialized RX5, .code yX5_sampleAt cX5_sampleAt 3 (some .int), .methodLink RX5 51 yX5_frameOf, .instanceMethod yX5_frameOf, .selects RX5 yX5_frameOf yX5_frameOf, .code yX5_frameOf cX5_frameOf 2 (some .int)] ++ wsX50)
def wsX5_bestFrom : List Cond := .code yX5_bestFrom cX5_bestFrom 12 (some .long) :: ([.constantLong RX5 72 (1152921504606846976), .fieldLink RX5 7 "LoopSlicerModel" "w" "[I", .fieldLink RX5 28 "LoopSlicerModel" "best" "[J", .methodLink RX5 68 yX5_sampleAt, .static yX5_sampleAt, .initialized RX5, .code yX5_sampleAt cX5_sampleAt 3 (some .int), .methodLink RX5 74 yX5_fits, .instanceMethod yX5_fits, .selects RX5 yX5_fits yX5_fits, .code yX5_fits cX5_fits 3 (some .boolean), .constantLong RX5 66 (100), .methodLink RX5 55 yX5_lengthOf, .instanceMethod yX5_lengthOf, .selects RX5 yX5_lengthOf yX5_lengthOf, .code yX5_lengthOf cX5_lengthOf 2 (some .int), .methodLink RX5 51 yX5_frameOf, .instanceMethod yX5_frameOf, .selects RX5 yX5_frameOf yX5_frameOf, .code yX5_frameOf cX5_frameOf 2 (some .int), .methodLink RX5 78 yX5_off, .instanceMethod yX5_off, .selects RX5 yX5_off yX5_off, .code yX5_off cX5_off 7 (some .long)] ++ wsX50)
def wsX5_layGrid_r1 : List Cond := [Cond.fieldLink RX5 7 "LoopSlicerModel" "w" "[I", Cond.fieldLink RX5 28 "LoopSlicerModel" "best" "[J", Cond.constantLong RX5 72 (1152921504606846976), Cond.fieldLink RX5 85 "LoopSlicerModel" "least" "J", Cond.fieldLink RX5 25 "LoopSlicerModel" "steps" "[I", Cond.fieldLink RX5 22 "LoopSlicerModel" "budget" "[I", Cond.methodLink RX5 82 yX5_bestFrom, Cond.instanceMethod yX5_bestFrom, Cond.selects RX5 yX5_bestFrom yX5_bestFrom, Cond.initialized RX5, Cond.code yX5_bestFrom cX5_bestFrom 12 (some .long), Cond.methodLink RX5 68 yX5_sampleAt, Cond.static yX5_sampleAt, Cond.code yX5_sampleAt cX5_sampleAt 3 (some .int), Cond.methodLink RX5 74 yX5_fits, Cond.instanceMethod yX5_fits, Cond.selects RX5 yX5_fits yX5_fits, Cond.code yX5_fits cX5_fits 3 (some .boolean), Cond.constantLong RX5 66 (100), Cond.methodLink RX5 55 yX5_lengthOf, Cond.instanceMethod yX5_lengthOf, Cond.selects RX5 yX5_lengthOf yX5_lengthOf, Cond.code yX5_lengthOf cX5_lengthOf 2 (some .int), Cond.methodLink RX5 51 yX5_frameOf]
def wsX5_layGrid_r2 : List Cond := [Cond.instanceMethod yX5_frameOf, Cond.selects RX5 yX5_frameOf yX5_frameOf, Cond.code yX5_frameOf cX5_frameOf 2 (some .int), Cond.methodLink RX5 78 yX5_off, Cond.instanceMethod yX5_off, Cond.selects RX5 yX5_off yX5_off, Cond.code yX5_off cX5_off 7 (some .long)]
def wsX5_layGrid : List Cond := .code yX5_layGrid cX5_layGrid 7 (some .boolean) :: ((wsX5_layGrid_r1 ++ wsX5_layGrid_r2) ++ wsX50)
def wsX5_isLaid_r1 : List Cond := [Cond.fieldLink RX5 7 "LoopSlicerModel" "w" "[I", Cond.methodLink RX5 89 yX5_layGrid, Cond.instanceMethod yX5_layGrid, Cond.selects RX5 yX5_layGrid yX5_layGrid, Cond.initialized RX5, Cond.code yX5_layGrid cX5_layGrid 7 (some .boolean), Cond.fieldLink RX5 28 "LoopSlicerModel" "best" "[J", Cond.constantLong RX5 72 (1152921504606846976), Cond.fieldLink RX5 85 "LoopSlicerModel" "least" "J", Cond.fieldLink RX5 25 "LoopSlicerModel" "steps" "[I", Cond.fieldLink RX5 22 "LoopSlicerModel" "budget" "[I", Cond.methodLink RX5 82 yX5_bestFrom, Cond.instanceMethod yX5_bestFrom, Cond.selects RX5 yX5_bestFrom yX5_bestFrom, Cond.code yX5_bestFrom cX5_bestFrom 12 (some .long), Cond.methodLink RX5 68 yX5_sampleAt, Cond.static yX5_sampleAt, Cond.code yX5_sampleAt cX5_sampleAt 3 (some .int), Cond.methodLink RX5 74 yX5_fits, Cond.instanceMethod yX5_fits, Cond.selects RX5 yX5_fits yX5_fits, Cond.code yX5_fits cX5_fits 3 (some .boolean), Cond.constantLong RX5 66 (100), Cond.methodLink RX5 55 yX5_lengthOf]
def wsX5_isLaid_r2 : List Cond := [Cond.instanceMethod yX5_lengthOf, Cond.selects RX5 yX5_lengthOf yX5_lengthOf, Cond.code yX5_lengthOf cX5_lengthOf 2 (some .int), Cond.methodLink RX5 51 yX5_frameOf, Cond.instanceMethod yX5_frameOf, Cond.selects RX5 yX5_frameOf yX5_frameOf, Cond.code yX5_frameOf cX5_frameOf 2 (some .int), Cond.methodLink RX5 78 yX5_off, Cond.instanceMethod yX5_off, Cond.selects RX5 yX5_off yX5_off, Cond.code yX5_off cX5_off 7 (some .long), Cond.methodLink RX5 92 yX5_layFree, Cond.instanceMethod yX5_layFree, Cond.selects RX5 yX5_layFree yX5_layFree, Cond.code yX5_layFree cX5_layFree 6 none, Cond.fieldLink RX5 32 "LoopSlicerModel" "isServed" "[Z", Cond.methodLink RX5 58 yX5_whole, Cond.instanceMethod yX5_whole, Cond.selects RX5 yX5_whole yX5_whole, Cond.code yX5_whole cX5_whole 1 (some .int), Cond.methodLink RX5 62 yX5_remainder, Cond.instanceMethod yX5_remainder, Cond.selects RX5 yX5_remainder yX5_remainder, Cond.code yX5_remainder cX5_remainder 2 (some .long)]
def wsX5_isLaid : List Cond := .code yX5_isLaid cX5_isLaid 1 (some .boolean) :: ((wsX5_isLaid_r1 ++ wsX5_isLaid_r2) ++ wsX50)
def wsX5_placeOf : List Cond := .code yX5_placeOf cX5_placeOf 3 (some .int) :: ([.fieldLink RX5 7 "LoopSlicerModel" "w" "[I"] ++ wsX50)
def wsX5_fadeOf : List Cond := .code yX5_fadeOf cX5_fadeOf 4 (some .int) :: ([.fieldLink RX5 7 "LoopSlicerModel" "w" "[I", .fieldLink RX5 22 "LoopSlicerModel" "budget" "[I", .methodLink RX5 95 yX5_placeOf, .instanceMethod yX5_placeOf, .selects RX5 yX5_placeOf yX5_placeOf, .initialized RX5, .code yX5_placeOf cX5_placeOf 3 (some .int)] ++ wsX50)
def wsX5_begin : List Cond := .code yX5_begin cX5_begin 3 (some .int) :: ([.fieldLink RX5 7 "LoopSlicerModel" "w" "[I", .methodLink RX5 47 yX5_isIn, .static yX5_isIn, .initialized RX5, .code yX5_isIn cX5_isIn 3 (some .boolean), .methodLink RX5 98 yX5_remember, .instanceMethod yX5_remember, .selects RX5 yX5_remember yX5_remember, .code yX5_remember cX5_remember 2 none, .fieldLink RX5 43 "LoopSlicerModel" "pastMany" "I", .fieldLink RX5 13 "LoopSlicerModel" "past" "[I", .methodLink RX5 36 yX5_layLoop, .instanceMethod yX5_layLoop, .selects RX5 yX5_layLoop yX5_layLoop, .code yX5_layLoop cX5_layLoop 3 none, .methodLink RX5 40 yX5_layOrder, .instanceMethod yX5_layOrder, .selects RX5 yX5_layOrder yX5_layOrder, .code yX5_layOrder cX5_layOrder 2 none] ++ wsX50)
def wsX5_sound : List Cond := .code yX5_sound cX5_sound 6 (some .int) :: ([.fieldLink RX5 7 "LoopSlicerModel" "w" "[I", .methodLink RX5 101 yX5_isFrame, .instanceMethod yX5_isFrame, .selects RX5 yX5_isFrame yX5_isFrame, .initialized RX5, .code yX5_isFrame cX5_isFrame 2 (some .boolean), .methodLink RX5 47 yX5_isIn, .static yX5_isIn, .code yX5_isIn cX5_isIn 3 (some .boolean), .methodLink RX5 98 yX5_remember, .instanceMethod yX5_remember, .selects RX5 yX5_remember yX5_remember, .code yX5_remember cX5_remember 2 none, .fieldLink RX5 43 "LoopSlicerModel" "pastMany" "I", .fieldLink RX5 13 "LoopSlicerModel" "past" "[I"] ++ wsX50)
def wsX5_isOf : List Cond := .code yX5_isOf cX5_isOf 2 (some .boolean) :: ([.constant RX5 105 (200000), .methodLink RX5 47 yX5_isIn, .static yX5_isIn, .initialized RX5, .code yX5_isIn cX5_isIn 3 (some .boolean)])
def wsX5_set : List Cond := .code yX5_set cX5_set 4 (some .int) :: ([.fieldLink RX5 7 "LoopSlicerModel" "w" "[I", .methodLink RX5 106 yX5_isOf, .static yX5_isOf, .initialized RX5, .code yX5_isOf cX5_isOf 2 (some .boolean), .constant RX5 105 (200000), .methodLink RX5 47 yX5_isIn, .static yX5_isIn, .code yX5_isIn cX5_isIn 3 (some .boolean), .methodLink RX5 98 yX5_remember, .instanceMethod yX5_remember, .selects RX5 yX5_remember yX5_remember, .code yX5_remember cX5_remember 2 none, .fieldLink RX5 43 "LoopSlicerModel" "pastMany" "I", .fieldLink RX5 13 "LoopSlicerModel" "past" "[I"] ++ wsX50)
def wsX5_find : List Cond := .code yX5_find cX5_find 2 (some .int) :: ([.fieldLink RX5 7 "LoopSlicerModel" "w" "[I", .fieldLink RX5 19 "LoopSlicerModel" "found" "[I", .methodLink RX5 98 yX5_remember, .instanceMethod yX5_remember, .selects RX5 yX5_remember yX5_remember, .initialized RX5, .code yX5_remember cX5_remember 2 none, .fieldLink RX5 43 "LoopSlicerModel" "pastMany" "I", .fieldLink RX5 13 "LoopSlicerModel" "past" "[I", .methodLink RX5 109 yX5_findBy, .instanceMethod yX5_findBy, .selects RX5 yX5_findBy yX5_findBy, .code yX5_findBy cX5_findBy 4 (some .int), .methodLink RX5 40 yX5_layOrder, .instanceMethod yX5_layOrder, .selects RX5 yX5_layOrder yX5_layOrder, .code yX5_layOrder cX5_layOrder 2 none] ++ wsX50)
def wsX5_mark : List Cond := .code yX5_mark cX5_mark 4 (some .int) :: ([.fieldLink RX5 7 "LoopSlicerModel" "w" "[I", .methodLink RX5 101 yX5_isFrame, .instanceMethod yX5_isFrame, .selects RX5 yX5_isFrame yX5_isFrame, .initialized RX5, .code yX5_isFrame cX5_isFrame 2 (some .boolean), .methodLink RX5 47 yX5_isIn, .static yX5_isIn, .code yX5_isIn cX5_isIn 3 (some .boolean), .methodLink RX5 98 yX5_remember, .instanceMethod yX5_remember, .selects RX5 yX5_remember yX5_remember, .code yX5_remember cX5_remember 2 none, .fieldLink RX5 43 "LoopSlicerModel" "pastMany" "I", .fieldLink RX5 13 "LoopSlicerModel" "past" "[I", .methodLink RX5 40 yX5_layOrder, .instanceMethod yX5_layOrder, .selects RX5 yX5_layOrder yX5_layOrder, .code yX5_layOrder cX5_layOrder 2 none] ++ wsX50)
def wsX5_isFurther : List Cond := .code yX5_isFurther cX5_isFurther 2 (some .boolean) :: ([.fieldLink RX5 7 "LoopSlicerModel" "w" "[I", .methodLink RX5 47 yX5_isIn, .static yX5_isIn, .initialized RX5, .code yX5_isIn cX5_isIn 3 (some .boolean)] ++ wsX50)
def wsX5_unmark : List Cond := .code yX5_unmark cX5_unmark 3 (some .int) :: ([.fieldLink RX5 7 "LoopSlicerModel" "w" "[I", .methodLink RX5 112 yX5_isFurther, .instanceMethod yX5_isFurther, .selects RX5 yX5_isFurther yX5_isFurther, .initialized RX5, .code yX5_isFurther cX5_isFurther 2 (some .boolean), .methodLink RX5 47 yX5_isIn, .static yX5_isIn, .code yX5_isIn cX5_isIn 3 (some .boolean), .methodLink RX5 98 yX5_remember, .instanceMethod yX5_remember, .selects RX5 yX5_remember yX5_remember, .code yX5_remember cX5_remember 2 none, .fieldLink RX5 43 "LoopSlicerModel" "pastMany" "I", .fieldLink RX5 13 "LoopSlicerModel" "past" "[I", .methodLink RX5 40 yX5_layOrder, .instanceMethod yX5_layOrder, .selects RX5 yX5_layOrder yX5_layOrder, .code yX5_layOrder cX5_layOrder 2 none] ++ wsX50)
def wsX5_moveMark : List Cond := .code yX5_moveMark cX5_moveMark 4 (some .int) :: ([.fieldLink RX5 7 "LoopSlicerModel" "w" "[I", .methodLink RX5 112 yX5_isFurther, .instanceMethod yX5_isFurther, .selects RX5 yX5_isFurther yX5_isFurther, .initialized RX5, .code yX5_isFurther cX5_isFurther 2 (some .boolean), .methodLink RX5 47 yX5_isIn, .static yX5_isIn, .code yX5_isIn cX5_isIn 3 (some .boolean), .methodLink RX5 101 yX5_isFrame, .instanceMethod yX5_isFrame, .selects RX5 yX5_isFrame yX5_isFrame, .code yX5_isFrame cX5_isFrame 2 (some .boolean), .methodLink RX5 51 yX5_frameOf, .instanceMethod yX5_frameOf, .selects RX5 yX5_frameOf yX5_frameOf, .code yX5_frameOf cX5_frameOf 2 (some .int), .methodLink RX5 98 yX5_remember, .instanceMethod yX5_remember, .selects RX5 yX5_remember yX5_remember, .code yX5_remember cX5_remember 2 none, .fieldLink RX5 43 "LoopSlicerModel" "pastMany" "I", .fieldLink RX5 13 "LoopSlicerModel" "past" "[I"] ++ wsX50)
def wsX5_swap : List Cond := .code yX5_swap cX5_swap 4 (some .int) :: ([.fieldLink RX5 7 "LoopSlicerModel" "w" "[I", .methodLink RX5 115 yX5_isSlice, .instanceMethod yX5_isSlice, .selects RX5 yX5_isSlice yX5_isSlice, .initialized RX5, .code yX5_isSlice cX5_isSlice 2 (some .boolean), .methodLink RX5 47 yX5_isIn, .static yX5_isIn, .code yX5_isIn cX5_isIn 3 (some .boolean), .methodLink RX5 98 yX5_remember, .instanceMethod yX5_remember, .selects RX5 yX5_remember yX5_remember, .code yX5_remember cX5_remember 2 none, .fieldLink RX5 43 "LoopSlicerModel" "pastMany" "I", .fieldLink RX5 13 "LoopSlicerModel" "past" "[I"] ++ wsX50)
def wsX5_reverse : List Cond := .code yX5_reverse cX5_reverse 4 (some .int) :: ([.fieldLink RX5 7 "LoopSlicerModel" "w" "[I", .methodLink RX5 98 yX5_remember, .instanceMethod yX5_remember, .selects RX5 yX5_remember yX5_remember, .initialized RX5, .code yX5_remember cX5_remember 2 none, .fieldLink RX5 43 "LoopSlicerModel" "pastMany" "I", .fieldLink RX5 13 "LoopSlicerModel" "past" "[I"] ++ wsX50)
def wsX5_undo : List Cond := .code yX5_undo cX5_undo 2 (some .int) :: ([.fieldLink RX5 43 "LoopSlicerModel" "pastMany" "I", .fieldLink RX5 7 "LoopSlicerModel" "w" "[I", .fieldLink RX5 13 "LoopSlicerModel" "past" "[I"] ++ wsX50)
def wsX5_beyond_r1 : List Cond := [Cond.fieldLink RX5 7 "LoopSlicerModel" "w" "[I", Cond.fieldLink RX5 22 "LoopSlicerModel" "budget" "[I", Cond.methodLink RX5 118 yX5_isLaid, Cond.instanceMethod yX5_isLaid, Cond.selects RX5 yX5_isLaid yX5_isLaid, Cond.initialized RX5, Cond.code yX5_isLaid cX5_isLaid 1 (some .boolean), Cond.methodLink RX5 89 yX5_layGrid, Cond.instanceMethod yX5_layGrid, Cond.selects RX5 yX5_layGrid yX5_layGrid, Cond.code yX5_layGrid cX5_layGrid 7 (some .boolean), Cond.fieldLink RX5 28 "LoopSlicerModel" "best" "[J", Cond.constantLong RX5 72 (1152921504606846976), Cond.fieldLink RX5 85 "LoopSlicerModel" "least" "J", Cond.fieldLink RX5 25 "LoopSlicerModel" "steps" "[I", Cond.methodLink RX5 82 yX5_bestFrom, Cond.instanceMethod yX5_bestFrom, Cond.selects RX5 yX5_bestFrom yX5_bestFrom, Cond.code yX5_bestFrom cX5_bestFrom 12 (some .long), Cond.methodLink RX5 68 yX5_sampleAt, Cond.static yX5_sampleAt, Cond.code yX5_sampleAt cX5_sampleAt 3 (some .int), Cond.methodLink RX5 74 yX5_fits, Cond.instanceMethod yX5_fits]
def wsX5_beyond_r2 : List Cond := [Cond.selects RX5 yX5_fits yX5_fits, Cond.code yX5_fits cX5_fits 3 (some .boolean), Cond.constantLong RX5 66 (100), Cond.methodLink RX5 55 yX5_lengthOf, Cond.instanceMethod yX5_lengthOf, Cond.selects RX5 yX5_lengthOf yX5_lengthOf, Cond.code yX5_lengthOf cX5_lengthOf 2 (some .int), Cond.methodLink RX5 51 yX5_frameOf, Cond.instanceMethod yX5_frameOf, Cond.selects RX5 yX5_frameOf yX5_frameOf, Cond.code yX5_frameOf cX5_frameOf 2 (some .int), Cond.methodLink RX5 78 yX5_off, Cond.instanceMethod yX5_off, Cond.selects RX5 yX5_off yX5_off, Cond.code yX5_off cX5_off 7 (some .long), Cond.methodLink RX5 92 yX5_layFree, Cond.instanceMethod yX5_layFree, Cond.selects RX5 yX5_layFree yX5_layFree, Cond.code yX5_layFree cX5_layFree 6 none, Cond.fieldLink RX5 32 "LoopSlicerModel" "isServed" "[Z", Cond.methodLink RX5 58 yX5_whole, Cond.instanceMethod yX5_whole, Cond.selects RX5 yX5_whole yX5_whole, Cond.code yX5_whole cX5_whole 1 (some .int)]
def wsX5_beyond_r3 : List Cond := [Cond.methodLink RX5 62 yX5_remainder, Cond.instanceMethod yX5_remainder, Cond.selects RX5 yX5_remainder yX5_remainder, Cond.code yX5_remainder cX5_remainder 2 (some .long)]
def wsX5_beyond : List Cond := .code yX5_beyond cX5_beyond 3 (some .int) :: ((wsX5_beyond_r1 ++ (wsX5_beyond_r2 ++ wsX5_beyond_r3)) ++ wsX50)
def wsX5_fades_r1 : List Cond := [Cond.fieldLink RX5 7 "LoopSlicerModel" "w" "[I", Cond.methodLink RX5 118 yX5_isLaid, Cond.instanceMethod yX5_isLaid, Cond.selects RX5 yX5_isLaid yX5_isLaid, Cond.initialized RX5, Cond.code yX5_isLaid cX5_isLaid 1 (some .boolean), Cond.methodLink RX5 89 yX5_layGrid, Cond.instanceMethod yX5_layGrid, Cond.selects RX5 yX5_layGrid yX5_layGrid, Cond.code yX5_layGrid cX5_layGrid 7 (some .boolean), Cond.fieldLink RX5 28 "LoopSlicerModel" "best" "[J", Cond.constantLong RX5 72 (1152921504606846976), Cond.fieldLink RX5 85 "LoopSlicerModel" "least" "J", Cond.fieldLink RX5 25 "LoopSlicerModel" "steps" "[I", Cond.fieldLink RX5 22 "LoopSlicerModel" "budget" "[I", Cond.methodLink RX5 82 yX5_bestFrom, Cond.instanceMethod yX5_bestFrom, Cond.selects RX5 yX5_bestFrom yX5_bestFrom, Cond.code yX5_bestFrom cX5_bestFrom 12 (some .long), Cond.methodLink RX5 68 yX5_sampleAt, Cond.static yX5_sampleAt, Cond.code yX5_sampleAt cX5_sampleAt 3 (some .int), Cond.methodLink RX5 74 yX5_fits, Cond.instanceMethod yX5_fits]
def wsX5_fades_r2 : List Cond := [Cond.selects RX5 yX5_fits yX5_fits, Cond.code yX5_fits cX5_fits 3 (some .boolean), Cond.constantLong RX5 66 (100), Cond.methodLink RX5 55 yX5_lengthOf, Cond.instanceMethod yX5_lengthOf, Cond.selects RX5 yX5_lengthOf yX5_lengthOf, Cond.code yX5_lengthOf cX5_lengthOf 2 (some .int), Cond.methodLink RX5 51 yX5_frameOf, Cond.instanceMethod yX5_frameOf, Cond.selects RX5 yX5_frameOf yX5_frameOf, Cond.code yX5_frameOf cX5_frameOf 2 (some .int), Cond.methodLink RX5 78 yX5_off, Cond.instanceMethod yX5_off, Cond.selects RX5 yX5_off yX5_off, Cond.code yX5_off cX5_off 7 (some .long), Cond.methodLink RX5 92 yX5_layFree, Cond.instanceMethod yX5_layFree, Cond.selects RX5 yX5_layFree yX5_layFree, Cond.code yX5_layFree cX5_layFree 6 none, Cond.fieldLink RX5 32 "LoopSlicerModel" "isServed" "[Z", Cond.methodLink RX5 58 yX5_whole, Cond.instanceMethod yX5_whole, Cond.selects RX5 yX5_whole yX5_whole, Cond.code yX5_whole cX5_whole 1 (some .int)]
def wsX5_fades_r3 : List Cond := [Cond.methodLink RX5 62 yX5_remainder, Cond.instanceMethod yX5_remainder, Cond.selects RX5 yX5_remainder yX5_remainder, Cond.code yX5_remainder cX5_remainder 2 (some .long), Cond.methodLink RX5 122 yX5_fadeOf, Cond.instanceMethod yX5_fadeOf, Cond.selects RX5 yX5_fadeOf yX5_fadeOf, Cond.code yX5_fadeOf cX5_fadeOf 4 (some .int), Cond.methodLink RX5 95 yX5_placeOf, Cond.instanceMethod yX5_placeOf, Cond.selects RX5 yX5_placeOf yX5_placeOf, Cond.code yX5_placeOf cX5_placeOf 3 (some .int)]
def wsX5_fades : List Cond := .code yX5_fades cX5_fades 3 (some .int) :: ((wsX5_fades_r1 ++ (wsX5_fades_r2 ++ wsX5_fades_r3)) ++ wsX50)
def wsX5_told_r1 : List Cond := [Cond.fieldLink RX5 7 "LoopSlicerModel" "w" "[I", Cond.fieldLink RX5 43 "LoopSlicerModel" "pastMany" "I", Cond.methodLink RX5 58 yX5_whole, Cond.instanceMethod yX5_whole, Cond.selects RX5 yX5_whole yX5_whole, Cond.initialized RX5, Cond.code yX5_whole cX5_whole 1 (some .int), Cond.methodLink RX5 118 yX5_isLaid, Cond.instanceMethod yX5_isLaid, Cond.selects RX5 yX5_isLaid yX5_isLaid, Cond.code yX5_isLaid cX5_isLaid 1 (some .boolean), Cond.methodLink RX5 89 yX5_layGrid, Cond.instanceMethod yX5_layGrid, Cond.selects RX5 yX5_layGrid yX5_layGrid, Cond.code yX5_layGrid cX5_layGrid 7 (some .boolean), Cond.fieldLink RX5 28 "LoopSlicerModel" "best" "[J", Cond.constantLong RX5 72 (1152921504606846976), Cond.fieldLink RX5 85 "LoopSlicerModel" "least" "J", Cond.fieldLink RX5 25 "LoopSlicerModel" "steps" "[I", Cond.fieldLink RX5 22 "LoopSlicerModel" "budget" "[I", Cond.methodLink RX5 82 yX5_bestFrom, Cond.instanceMethod yX5_bestFrom, Cond.selects RX5 yX5_bestFrom yX5_bestFrom, Cond.code yX5_bestFrom cX5_bestFrom 12 (some .long)]
def wsX5_told_r2 : List Cond := [Cond.methodLink RX5 68 yX5_sampleAt, Cond.static yX5_sampleAt, Cond.code yX5_sampleAt cX5_sampleAt 3 (some .int), Cond.methodLink RX5 74 yX5_fits, Cond.instanceMethod yX5_fits, Cond.selects RX5 yX5_fits yX5_fits, Cond.code yX5_fits cX5_fits 3 (some .boolean), Cond.constantLong RX5 66 (100), Cond.methodLink RX5 55 yX5_lengthOf, Cond.instanceMethod yX5_lengthOf, Cond.selects RX5 yX5_lengthOf yX5_lengthOf, Cond.code yX5_lengthOf cX5_lengthOf 2 (some .int), Cond.methodLink RX5 51 yX5_frameOf, Cond.instanceMethod yX5_frameOf, Cond.selects RX5 yX5_frameOf yX5_frameOf, Cond.code yX5_frameOf cX5_frameOf 2 (some .int), Cond.methodLink RX5 78 yX5_off, Cond.instanceMethod yX5_off, Cond.selects RX5 yX5_off yX5_off, Cond.code yX5_off cX5_off 7 (some .long), Cond.methodLink RX5 92 yX5_layFree, Cond.instanceMethod yX5_layFree, Cond.selects RX5 yX5_layFree yX5_layFree, Cond.code yX5_layFree cX5_layFree 6 none]
def wsX5_told_r3 : List Cond := [Cond.fieldLink RX5 32 "LoopSlicerModel" "isServed" "[Z", Cond.methodLink RX5 62 yX5_remainder, Cond.instanceMethod yX5_remainder, Cond.selects RX5 yX5_remainder yX5_remainder, Cond.code yX5_remainder cX5_remainder 2 (some .long), Cond.methodLink RX5 125 yX5_beyond, Cond.instanceMethod yX5_beyond, Cond.selects RX5 yX5_beyond yX5_beyond, Cond.code yX5_beyond cX5_beyond 3 (some .int), Cond.methodLink RX5 128 yX5_fades, Cond.instanceMethod yX5_fades, Cond.selects RX5 yX5_fades yX5_fades, Cond.code yX5_fades cX5_fades 3 (some .int), Cond.methodLink RX5 122 yX5_fadeOf, Cond.instanceMethod yX5_fadeOf, Cond.selects RX5 yX5_fadeOf yX5_fadeOf, Cond.code yX5_fadeOf cX5_fadeOf 4 (some .int), Cond.methodLink RX5 95 yX5_placeOf, Cond.instanceMethod yX5_placeOf, Cond.selects RX5 yX5_placeOf yX5_placeOf, Cond.code yX5_placeOf cX5_placeOf 3 (some .int)]
def wsX5_told : List Cond := .code yX5_told cX5_told 2 (some .int) :: ((wsX5_told_r1 ++ (wsX5_told_r2 ++ wsX5_told_r3)) ++ wsX50)
def wsX5_setting : List Cond := .code yX5_setting cX5_setting 2 (some .int) :: ([.fieldLink RX5 7 "LoopSlicerModel" "w" "[I", .methodLink RX5 47 yX5_isIn, .static yX5_isIn, .initialized RX5, .code yX5_isIn cX5_isIn 3 (some .boolean)] ++ wsX50)
def wsX5_energy : List Cond := .code yX5_energy cX5_energy 2 (some .int) :: ([.fieldLink RX5 7 "LoopSlicerModel" "w" "[I", .methodLink RX5 101 yX5_isFrame, .instanceMethod yX5_isFrame, .selects RX5 yX5_isFrame yX5_isFrame, .initialized RX5, .code yX5_isFrame cX5_isFrame 2 (some .boolean), .methodLink RX5 47 yX5_isIn, .static yX5_isIn, .code yX5_isIn cX5_isIn 3 (some .boolean)] ++ wsX50)
def wsX5_loudest : List Cond := .code yX5_loudest cX5_loudest 4 (some .int) :: ([.fieldLink RX5 7 "LoopSlicerModel" "w" "[I", .methodLink RX5 51 yX5_frameOf, .instanceMethod yX5_frameOf, .selects RX5 yX5_frameOf yX5_frameOf, .initialized RX5, .code yX5_frameOf cX5_frameOf 2 (some .int)] ++ wsX50)
def wsX5_beginOf : List Cond := .code yX5_beginOf cX5_beginOf 4 (some .int) :: ([.fieldLink RX5 7 "LoopSlicerModel" "w" "[I", .fieldLink RX5 22 "LoopSlicerModel" "budget" "[I"] ++ wsX50)
def wsX5_slice_r1 : List Cond := [Cond.fieldLink RX5 22 "LoopSlicerModel" "budget" "[I", Cond.fieldLink RX5 7 "LoopSlicerModel" "w" "[I", Cond.fieldLink RX5 25 "LoopSlicerModel" "steps" "[I", Cond.methodLink RX5 115 yX5_isSlice, Cond.instanceMethod yX5_isSlice, Cond.selects RX5 yX5_isSlice yX5_isSlice, Cond.initialized RX5, Cond.code yX5_isSlice cX5_isSlice 2 (some .boolean), Cond.methodLink RX5 47 yX5_isIn, Cond.static yX5_isIn, Cond.code yX5_isIn cX5_isIn 3 (some .boolean), Cond.methodLink RX5 51 yX5_frameOf, Cond.instanceMethod yX5_frameOf, Cond.selects RX5 yX5_frameOf yX5_frameOf, Cond.code yX5_frameOf cX5_frameOf 2 (some .int), Cond.methodLink RX5 55 yX5_lengthOf, Cond.instanceMethod yX5_lengthOf, Cond.selects RX5 yX5_lengthOf yX5_lengthOf, Cond.code yX5_lengthOf cX5_lengthOf 2 (some .int), Cond.methodLink RX5 95 yX5_placeOf, Cond.instanceMethod yX5_placeOf, Cond.selects RX5 yX5_placeOf yX5_placeOf, Cond.code yX5_placeOf cX5_placeOf 3 (some .int), Cond.methodLink RX5 131 yX5_loudest]
def wsX5_slice_r2 : List Cond := [Cond.instanceMethod yX5_loudest, Cond.selects RX5 yX5_loudest yX5_loudest, Cond.code yX5_loudest cX5_loudest 4 (some .int), Cond.methodLink RX5 118 yX5_isLaid, Cond.instanceMethod yX5_isLaid, Cond.selects RX5 yX5_isLaid yX5_isLaid, Cond.code yX5_isLaid cX5_isLaid 1 (some .boolean), Cond.methodLink RX5 89 yX5_layGrid, Cond.instanceMethod yX5_layGrid, Cond.selects RX5 yX5_layGrid yX5_layGrid, Cond.code yX5_layGrid cX5_layGrid 7 (some .boolean), Cond.fieldLink RX5 28 "LoopSlicerModel" "best" "[J", Cond.constantLong RX5 72 (1152921504606846976), Cond.fieldLink RX5 85 "LoopSlicerModel" "least" "J", Cond.methodLink RX5 82 yX5_bestFrom, Cond.instanceMethod yX5_bestFrom, Cond.selects RX5 yX5_bestFrom yX5_bestFrom, Cond.code yX5_bestFrom cX5_bestFrom 12 (some .long), Cond.methodLink RX5 68 yX5_sampleAt, Cond.static yX5_sampleAt, Cond.code yX5_sampleAt cX5_sampleAt 3 (some .int), Cond.methodLink RX5 74 yX5_fits, Cond.instanceMethod yX5_fits, Cond.selects RX5 yX5_fits yX5_fits]
def wsX5_slice_r3 : List Cond := [Cond.code yX5_fits cX5_fits 3 (some .boolean), Cond.constantLong RX5 66 (100), Cond.methodLink RX5 78 yX5_off, Cond.instanceMethod yX5_off, Cond.selects RX5 yX5_off yX5_off, Cond.code yX5_off cX5_off 7 (some .long), Cond.methodLink RX5 92 yX5_layFree, Cond.instanceMethod yX5_layFree, Cond.selects RX5 yX5_layFree yX5_layFree, Cond.code yX5_layFree cX5_layFree 6 none, Cond.fieldLink RX5 32 "LoopSlicerModel" "isServed" "[Z", Cond.methodLink RX5 58 yX5_whole, Cond.instanceMethod yX5_whole, Cond.selects RX5 yX5_whole yX5_whole, Cond.code yX5_whole cX5_whole 1 (some .int), Cond.methodLink RX5 62 yX5_remainder, Cond.instanceMethod yX5_remainder, Cond.selects RX5 yX5_remainder yX5_remainder, Cond.code yX5_remainder cX5_remainder 2 (some .long), Cond.methodLink RX5 134 yX5_beginOf, Cond.instanceMethod yX5_beginOf, Cond.selects RX5 yX5_beginOf yX5_beginOf, Cond.code yX5_beginOf cX5_beginOf 4 (some .int), Cond.methodLink RX5 122 yX5_fadeOf]
def wsX5_slice_r4 : List Cond := [Cond.instanceMethod yX5_fadeOf, Cond.selects RX5 yX5_fadeOf yX5_fadeOf, Cond.code yX5_fadeOf cX5_fadeOf 4 (some .int)]
def wsX5_slice : List Cond := .code yX5_slice cX5_slice 3 (some .int) :: ((wsX5_slice_r1 ++ (wsX5_slice_r2 ++ (wsX5_slice_r3 ++ wsX5_slice_r4))) ++ wsX50)
def wsX5_order : List Cond := .code yX5_order cX5_order 2 (some .int) :: ([.fieldLink RX5 7 "LoopSlicerModel" "w" "[I", .methodLink RX5 115 yX5_isSlice, .instanceMethod yX5_isSlice, .selects RX5 yX5_isSlice yX5_isSlice, .initialized RX5, .code yX5_isSlice cX5_isSlice 2 (some .boolean), .methodLink RX5 47 yX5_isIn, .static yX5_isIn, .code yX5_isIn cX5_isIn 3 (some .boolean)] ++ wsX50)
def wsX5_source_r1 : List Cond := [Cond.fieldLink RX5 7 "LoopSlicerModel" "w" "[I", Cond.fieldLink RX5 22 "LoopSlicerModel" "budget" "[I", Cond.methodLink RX5 47 yX5_isIn, Cond.static yX5_isIn, Cond.initialized RX5, Cond.code yX5_isIn cX5_isIn 3 (some .boolean), Cond.methodLink RX5 118 yX5_isLaid, Cond.instanceMethod yX5_isLaid, Cond.selects RX5 yX5_isLaid yX5_isLaid, Cond.code yX5_isLaid cX5_isLaid 1 (some .boolean), Cond.methodLink RX5 89 yX5_layGrid, Cond.instanceMethod yX5_layGrid, Cond.selects RX5 yX5_layGrid yX5_layGrid, Cond.code yX5_layGrid cX5_layGrid 7 (some .boolean), Cond.fieldLink RX5 28 "LoopSlicerModel" "best" "[J", Cond.constantLong RX5 72 (1152921504606846976), Cond.fieldLink RX5 85 "LoopSlicerModel" "least" "J", Cond.fieldLink RX5 25 "LoopSlicerModel" "steps" "[I", Cond.methodLink RX5 82 yX5_bestFrom, Cond.instanceMethod yX5_bestFrom, Cond.selects RX5 yX5_bestFrom yX5_bestFrom, Cond.code yX5_bestFrom cX5_bestFrom 12 (some .long), Cond.methodLink RX5 68 yX5_sampleAt, Cond.static yX5_sampleAt]
def wsX5_source_r2 : List Cond := [Cond.code yX5_sampleAt cX5_sampleAt 3 (some .int), Cond.methodLink RX5 74 yX5_fits, Cond.instanceMethod yX5_fits, Cond.selects RX5 yX5_fits yX5_fits, Cond.code yX5_fits cX5_fits 3 (some .boolean), Cond.constantLong RX5 66 (100), Cond.methodLink RX5 55 yX5_lengthOf, Cond.instanceMethod yX5_lengthOf, Cond.selects RX5 yX5_lengthOf yX5_lengthOf, Cond.code yX5_lengthOf cX5_lengthOf 2 (some .int), Cond.methodLink RX5 51 yX5_frameOf, Cond.instanceMethod yX5_frameOf, Cond.selects RX5 yX5_frameOf yX5_frameOf, Cond.code yX5_frameOf cX5_frameOf 2 (some .int), Cond.methodLink RX5 78 yX5_off, Cond.instanceMethod yX5_off, Cond.selects RX5 yX5_off yX5_off, Cond.code yX5_off cX5_off 7 (some .long), Cond.methodLink RX5 92 yX5_layFree, Cond.instanceMethod yX5_layFree, Cond.selects RX5 yX5_layFree yX5_layFree, Cond.code yX5_layFree cX5_layFree 6 none, Cond.fieldLink RX5 32 "LoopSlicerModel" "isServed" "[Z", Cond.methodLink RX5 58 yX5_whole]
def wsX5_source_r3 : List Cond := [Cond.instanceMethod yX5_whole, Cond.selects RX5 yX5_whole yX5_whole, Cond.code yX5_whole cX5_whole 1 (some .int), Cond.methodLink RX5 62 yX5_remainder, Cond.instanceMethod yX5_remainder, Cond.selects RX5 yX5_remainder yX5_remainder, Cond.code yX5_remainder cX5_remainder 2 (some .long), Cond.methodLink RX5 122 yX5_fadeOf, Cond.instanceMethod yX5_fadeOf, Cond.selects RX5 yX5_fadeOf yX5_fadeOf, Cond.code yX5_fadeOf cX5_fadeOf 4 (some .int), Cond.methodLink RX5 95 yX5_placeOf, Cond.instanceMethod yX5_placeOf, Cond.selects RX5 yX5_placeOf yX5_placeOf, Cond.code yX5_placeOf cX5_placeOf 3 (some .int)]
def wsX5_source : List Cond := .code yX5_source cX5_source 6 (some .int) :: ((wsX5_source_r1 ++ (wsX5_source_r2 ++ wsX5_source_r3)) ++ wsX50)
def wsX5_warp_r1 : List Cond := [Cond.constantFloat RX5 137 (3212836864), Cond.fieldLink RX5 22 "LoopSlicerModel" "budget" "[I", Cond.constantFloat RX5 138 (3239051264), Cond.methodLink RX5 115 yX5_isSlice, Cond.instanceMethod yX5_isSlice, Cond.selects RX5 yX5_isSlice yX5_isSlice, Cond.initialized RX5, Cond.code yX5_isSlice cX5_isSlice 2 (some .boolean), Cond.fieldLink RX5 7 "LoopSlicerModel" "w" "[I", Cond.methodLink RX5 47 yX5_isIn, Cond.static yX5_isIn, Cond.code yX5_isIn cX5_isIn 3 (some .boolean), Cond.methodLink RX5 118 yX5_isLaid, Cond.instanceMethod yX5_isLaid, Cond.selects RX5 yX5_isLaid yX5_isLaid, Cond.code yX5_isLaid cX5_isLaid 1 (some .boolean), Cond.methodLink RX5 89 yX5_layGrid, Cond.instanceMethod yX5_layGrid, Cond.selects RX5 yX5_layGrid yX5_layGrid, Cond.code yX5_layGrid cX5_layGrid 7 (some .boolean), Cond.fieldLink RX5 28 "LoopSlicerModel" "best" "[J", Cond.constantLong RX5 72 (1152921504606846976), Cond.fieldLink RX5 85 "LoopSlicerModel" "least" "J", Cond.fieldLink RX5 25 "LoopSlicerModel" "steps" "[I"]
def wsX5_warp_r2 : List Cond := [Cond.methodLink RX5 82 yX5_bestFrom, Cond.instanceMethod yX5_bestFrom, Cond.selects RX5 yX5_bestFrom yX5_bestFrom, Cond.code yX5_bestFrom cX5_bestFrom 12 (some .long), Cond.methodLink RX5 68 yX5_sampleAt, Cond.static yX5_sampleAt, Cond.code yX5_sampleAt cX5_sampleAt 3 (some .int), Cond.methodLink RX5 74 yX5_fits, Cond.instanceMethod yX5_fits, Cond.selects RX5 yX5_fits yX5_fits, Cond.code yX5_fits cX5_fits 3 (some .boolean), Cond.constantLong RX5 66 (100), Cond.methodLink RX5 55 yX5_lengthOf, Cond.instanceMethod yX5_lengthOf, Cond.selects RX5 yX5_lengthOf yX5_lengthOf, Cond.code yX5_lengthOf cX5_lengthOf 2 (some .int), Cond.methodLink RX5 51 yX5_frameOf, Cond.instanceMethod yX5_frameOf, Cond.selects RX5 yX5_frameOf yX5_frameOf, Cond.code yX5_frameOf cX5_frameOf 2 (some .int), Cond.methodLink RX5 78 yX5_off, Cond.instanceMethod yX5_off, Cond.selects RX5 yX5_off yX5_off, Cond.code yX5_off cX5_off 7 (some .long)]
def wsX5_warp_r3 : List Cond := [Cond.methodLink RX5 92 yX5_layFree, Cond.instanceMethod yX5_layFree, Cond.selects RX5 yX5_layFree yX5_layFree, Cond.code yX5_layFree cX5_layFree 6 none, Cond.fieldLink RX5 32 "LoopSlicerModel" "isServed" "[Z", Cond.methodLink RX5 58 yX5_whole, Cond.instanceMethod yX5_whole, Cond.selects RX5 yX5_whole yX5_whole, Cond.code yX5_whole cX5_whole 1 (some .int), Cond.methodLink RX5 62 yX5_remainder, Cond.instanceMethod yX5_remainder, Cond.selects RX5 yX5_remainder yX5_remainder, Cond.code yX5_remainder cX5_remainder 2 (some .long)]
def wsX5_warp : List Cond := .code yX5_warp cX5_warp 2 (some .float) :: ((wsX5_warp_r1 ++ (wsX5_warp_r2 ++ wsX5_warp_r3)) ++ wsX50)
def wsX5_shift_r1 : List Cond := [Cond.fieldLink RX5 7 "LoopSlicerModel" "w" "[I", Cond.fieldLink RX5 85 "LoopSlicerModel" "least" "J", Cond.methodLink RX5 89 yX5_layGrid, Cond.instanceMethod yX5_layGrid, Cond.selects RX5 yX5_layGrid yX5_layGrid, Cond.initialized RX5, Cond.code yX5_layGrid cX5_layGrid 7 (some .boolean), Cond.fieldLink RX5 28 "LoopSlicerModel" "best" "[J", Cond.constantLong RX5 72 (1152921504606846976), Cond.fieldLink RX5 25 "LoopSlicerModel" "steps" "[I", Cond.fieldLink RX5 22 "LoopSlicerModel" "budget" "[I", Cond.methodLink RX5 82 yX5_bestFrom, Cond.instanceMethod yX5_bestFrom, Cond.selects RX5 yX5_bestFrom yX5_bestFrom, Cond.code yX5_bestFrom cX5_bestFrom 12 (some .long), Cond.methodLink RX5 68 yX5_sampleAt, Cond.static yX5_sampleAt, Cond.code yX5_sampleAt cX5_sampleAt 3 (some .int), Cond.methodLink RX5 74 yX5_fits, Cond.instanceMethod yX5_fits, Cond.selects RX5 yX5_fits yX5_fits, Cond.code yX5_fits cX5_fits 3 (some .boolean), Cond.constantLong RX5 66 (100), Cond.methodLink RX5 55 yX5_lengthOf]
def wsX5_shift_r2 : List Cond := [Cond.instanceMethod yX5_lengthOf, Cond.selects RX5 yX5_lengthOf yX5_lengthOf, Cond.code yX5_lengthOf cX5_lengthOf 2 (some .int), Cond.methodLink RX5 51 yX5_frameOf, Cond.instanceMethod yX5_frameOf, Cond.selects RX5 yX5_frameOf yX5_frameOf, Cond.code yX5_frameOf cX5_frameOf 2 (some .int), Cond.methodLink RX5 78 yX5_off, Cond.instanceMethod yX5_off, Cond.selects RX5 yX5_off yX5_off, Cond.code yX5_off cX5_off 7 (some .long)]
def wsX5_shift : List Cond := .code yX5_shift cX5_shift 1 (some .int) :: ((wsX5_shift_r1 ++ wsX5_shift_r2) ++ wsX50)
def wsX5_leastGrid_r1 : List Cond := [Cond.fieldLink RX5 7 "LoopSlicerModel" "w" "[I", Cond.methodLink RX5 89 yX5_layGrid, Cond.instanceMethod yX5_layGrid, Cond.selects RX5 yX5_layGrid yX5_layGrid, Cond.initialized RX5, Cond.code yX5_layGrid cX5_layGrid 7 (some .boolean), Cond.fieldLink RX5 28 "LoopSlicerModel" "best" "[J", Cond.constantLong RX5 72 (1152921504606846976), Cond.fieldLink RX5 85 "LoopSlicerModel" "least" "J", Cond.fieldLink RX5 25 "LoopSlicerModel" "steps" "[I", Cond.fieldLink RX5 22 "LoopSlicerModel" "budget" "[I", Cond.methodLink RX5 82 yX5_bestFrom, Cond.instanceMethod yX5_bestFrom, Cond.selects RX5 yX5_bestFrom yX5_bestFrom, Cond.code yX5_bestFrom cX5_bestFrom 12 (some .long), Cond.methodLink RX5 68 yX5_sampleAt, Cond.static yX5_sampleAt, Cond.code yX5_sampleAt cX5_sampleAt 3 (some .int), Cond.methodLink RX5 74 yX5_fits, Cond.instanceMethod yX5_fits, Cond.selects RX5 yX5_fits yX5_fits, Cond.code yX5_fits cX5_fits 3 (some .boolean), Cond.constantLong RX5 66 (100), Cond.methodLink RX5 55 yX5_lengthOf]
def wsX5_leastGrid_r2 : List Cond := [Cond.instanceMethod yX5_lengthOf, Cond.selects RX5 yX5_lengthOf yX5_lengthOf, Cond.code yX5_lengthOf cX5_lengthOf 2 (some .int), Cond.methodLink RX5 51 yX5_frameOf, Cond.instanceMethod yX5_frameOf, Cond.selects RX5 yX5_frameOf yX5_frameOf, Cond.code yX5_frameOf cX5_frameOf 2 (some .int), Cond.methodLink RX5 78 yX5_off, Cond.instanceMethod yX5_off, Cond.selects RX5 yX5_off yX5_off, Cond.code yX5_off cX5_off 7 (some .long)]
def wsX5_leastGrid : List Cond := .code yX5_leastGrid cX5_leastGrid 2 (some .int) :: ((wsX5_leastGrid_r1 ++ wsX5_leastGrid_r2) ++ wsX50)
def wsX5_canBe_r1 : List Cond := [Cond.constant RX5 105 (200000), Cond.fieldLink RX5 7 "LoopSlicerModel" "w" "[I", Cond.methodLink RX5 47 yX5_isIn, Cond.static yX5_isIn, Cond.initialized RX5, Cond.code yX5_isIn cX5_isIn 3 (some .boolean), Cond.methodLink RX5 89 yX5_layGrid, Cond.instanceMethod yX5_layGrid, Cond.selects RX5 yX5_layGrid yX5_layGrid, Cond.code yX5_layGrid cX5_layGrid 7 (some .boolean), Cond.fieldLink RX5 28 "LoopSlicerModel" "best" "[J", Cond.constantLong RX5 72 (1152921504606846976), Cond.fieldLink RX5 85 "LoopSlicerModel" "least" "J", Cond.fieldLink RX5 25 "LoopSlicerModel" "steps" "[I", Cond.fieldLink RX5 22 "LoopSlicerModel" "budget" "[I", Cond.methodLink RX5 82 yX5_bestFrom, Cond.instanceMethod yX5_bestFrom, Cond.selects RX5 yX5_bestFrom yX5_bestFrom, Cond.code yX5_bestFrom cX5_bestFrom 12 (some .long), Cond.methodLink RX5 68 yX5_sampleAt, Cond.static yX5_sampleAt, Cond.code yX5_sampleAt cX5_sampleAt 3 (some .int), Cond.methodLink RX5 74 yX5_fits, Cond.instanceMethod yX5_fits]
def wsX5_canBe_r2 : List Cond := [Cond.selects RX5 yX5_fits yX5_fits, Cond.code yX5_fits cX5_fits 3 (some .boolean), Cond.constantLong RX5 66 (100), Cond.methodLink RX5 55 yX5_lengthOf, Cond.instanceMethod yX5_lengthOf, Cond.selects RX5 yX5_lengthOf yX5_lengthOf, Cond.code yX5_lengthOf cX5_lengthOf 2 (some .int), Cond.methodLink RX5 51 yX5_frameOf, Cond.instanceMethod yX5_frameOf, Cond.selects RX5 yX5_frameOf yX5_frameOf, Cond.code yX5_frameOf cX5_frameOf 2 (some .int), Cond.methodLink RX5 78 yX5_off, Cond.instanceMethod yX5_off, Cond.selects RX5 yX5_off yX5_off, Cond.code yX5_off cX5_off 7 (some .long)]
def wsX5_canBe : List Cond := .code yX5_canBe cX5_canBe 2 (some .boolean) :: ((wsX5_canBe_r1 ++ wsX5_canBe_r2) ++ wsX50)
def wsX5_nearTarget_r1 : List Cond := [Cond.fieldLink RX5 7 "LoopSlicerModel" "w" "[I", Cond.methodLink RX5 47 yX5_isIn, Cond.static yX5_isIn, Cond.initialized RX5, Cond.code yX5_isIn cX5_isIn 3 (some .boolean), Cond.methodLink RX5 139 yX5_canBe, Cond.instanceMethod yX5_canBe, Cond.selects RX5 yX5_canBe yX5_canBe, Cond.code yX5_canBe cX5_canBe 2 (some .boolean), Cond.constant RX5 105 (200000), Cond.methodLink RX5 89 yX5_layGrid, Cond.instanceMethod yX5_layGrid, Cond.selects RX5 yX5_layGrid yX5_layGrid, Cond.code yX5_layGrid cX5_layGrid 7 (some .boolean), Cond.fieldLink RX5 28 "LoopSlicerModel" "best" "[J", Cond.constantLong RX5 72 (1152921504606846976), Cond.fieldLink RX5 85 "LoopSlicerModel" "least" "J", Cond.fieldLink RX5 25 "LoopSlicerModel" "steps" "[I", Cond.fieldLink RX5 22 "LoopSlicerModel" "budget" "[I", Cond.methodLink RX5 82 yX5_bestFrom, Cond.instanceMethod yX5_bestFrom, Cond.selects RX5 yX5_bestFrom yX5_bestFrom, Cond.code yX5_bestFrom cX5_bestFrom 12 (some .long), Cond.methodLink RX5 68 yX5_sampleAt]
def wsX5_nearTarget_r2 : List Cond := [Cond.static yX5_sampleAt, Cond.code yX5_sampleAt cX5_sampleAt 3 (some .int), Cond.methodLink RX5 74 yX5_fits, Cond.instanceMethod yX5_fits, Cond.selects RX5 yX5_fits yX5_fits, Cond.code yX5_fits cX5_fits 3 (some .boolean), Cond.constantLong RX5 66 (100), Cond.methodLink RX5 55 yX5_lengthOf, Cond.instanceMethod yX5_lengthOf, Cond.selects RX5 yX5_lengthOf yX5_lengthOf, Cond.code yX5_lengthOf cX5_lengthOf 2 (some .int), Cond.methodLink RX5 51 yX5_frameOf, Cond.instanceMethod yX5_frameOf, Cond.selects RX5 yX5_frameOf yX5_frameOf, Cond.code yX5_frameOf cX5_frameOf 2 (some .int), Cond.methodLink RX5 78 yX5_off, Cond.instanceMethod yX5_off, Cond.selects RX5 yX5_off yX5_off, Cond.code yX5_off cX5_off 7 (some .long)]
def wsX5_nearTarget : List Cond := .code yX5_nearTarget cX5_nearTarget 3 (some .int) :: ((wsX5_nearTarget_r1 ++ wsX5_nearTarget_r2) ++ wsX50)
def wsX5_marksWith : List Cond := .code yX5_marksWith cX5_marksWith 2 (some .int) :: ([.methodLink RX5 47 yX5_isIn, .static yX5_isIn, .initialized RX5, .code yX5_isIn cX5_isIn 3 (some .boolean), .methodLink RX5 109 yX5_findBy, .instanceMethod yX5_findBy, .selects RX5 yX5_findBy yX5_findBy, .code yX5_findBy cX5_findBy 4 (some .int), .fieldLink RX5 19 "LoopSlicerModel" "found" "[I", .fieldLink RX5 7 "LoopSlicerModel" "w" "[I"] ++ wsX50)
def wsX5_thresholdFor : List Cond := .code yX5_thresholdFor cX5_thresholdFor 3 (some .int) :: ([.methodLink RX5 47 yX5_isIn, .static yX5_isIn, .initialized RX5, .code yX5_isIn cX5_isIn 3 (some .boolean), .methodLink RX5 109 yX5_findBy, .instanceMethod yX5_findBy, .selects RX5 yX5_findBy yX5_findBy, .code yX5_findBy cX5_findBy 4 (some .int), .fieldLink RX5 19 "LoopSlicerModel" "found" "[I", .fieldLink RX5 7 "LoopSlicerModel" "w" "[I"] ++ wsX50)
def wsX5_isImage : List Cond := .code yX5_isImage cX5_isImage 1 (some .boolean) :: ([.methodLink RX5 47 yX5_isIn, .static yX5_isIn, .initialized RX5, .code yX5_isIn cX5_isIn 3 (some .boolean)])
def wsX5_keep : List Cond := .code yX5_keep cX5_keep 3 (some .int) :: ([.fieldLink RX5 16 "LoopSlicerModel" "images" "[I", .fieldLink RX5 7 "LoopSlicerModel" "w" "[I", .fieldLink RX5 145 "LoopSlicerModel" "filled" "I", .methodLink RX5 142 yX5_isImage, .static yX5_isImage, .initialized RX5, .code yX5_isImage cX5_isImage 1 (some .boolean), .methodLink RX5 47 yX5_isIn, .static yX5_isIn, .code yX5_isIn cX5_isIn 3 (some .boolean)] ++ wsX50)
def wsX5_back : List Cond := .code yX5_back cX5_back 3 (some .int) :: ([.fieldLink RX5 145 "LoopSlicerModel" "filled" "I", .fieldLink RX5 7 "LoopSlicerModel" "w" "[I", .fieldLink RX5 16 "LoopSlicerModel" "images" "[I", .methodLink RX5 142 yX5_isImage, .static yX5_isImage, .initialized RX5, .code yX5_isImage cX5_isImage 1 (some .boolean), .methodLink RX5 47 yX5_isIn, .static yX5_isIn, .code yX5_isIn cX5_isIn 3 (some .boolean), .methodLink RX5 98 yX5_remember, .instanceMethod yX5_remember, .selects RX5 yX5_remember yX5_remember, .code yX5_remember cX5_remember 2 none, .fieldLink RX5 43 "LoopSlicerModel" "pastMany" "I", .fieldLink RX5 13 "LoopSlicerModel" "past" "[I"] ++ wsX50)
def wsJ9_abs_0f7a4 : List Cond := .code yJ9_abs_0f7a4 cJ9_abs_0f7a4 1 (some .int) :: ([])
def wsJ9_max_7cf53 : List Cond := .code yJ9_max_7cf53 cJ9_max_7cf53 2 (some .int) :: ([])
def wsJ9_min_7cf53 : List Cond := .code yJ9_min_7cf53 cJ9_min_7cf53 2 (some .int) :: ([])
theorem dJ9_abs_0f7a4_0 : decode cJ9_abs_0f7a4 0 = .ok (.iload_n 0, 1) := by decide +kernel
theorem dJ9_abs_0f7a4_1 : decode cJ9_abs_0f7a4 1 = .ok (.ifCond .ge 8, 3) := by decide +kernel
theorem dJ9_abs_0f7a4_4 : decode cJ9_abs_0f7a4 4 = .ok (.iload_n 0, 1) := by decide +kernel
theorem dJ9_abs_0f7a4_5 : decode cJ9_abs_0f7a4 5 = .ok (.ineg, 1) := by decide +kernel
theorem dJ9_abs_0f7a4_6 : decode cJ9_abs_0f7a4 6 = .ok (.goto 4, 3) := by decide +kernel
theorem dJ9_abs_0f7a4_9 : decode cJ9_abs_0f7a4 9 = .ok (.iload_n 0, 1) := by decide +kernel
theorem dJ9_abs_0f7a4_10 : decode cJ9_abs_0f7a4 10 = .ok (.ireturn, 1) := by decide +kernel
theorem dJ9_max_7cf53_0 : decode cJ9_max_7cf53 0 = .ok (.iload_n 0, 1) := by decide +kernel
theorem dJ9_max_7cf53_1 : decode cJ9_max_7cf53 1 = .ok (.iload_n 1, 1) := by decide +kernel
theorem dJ9_max_7cf53_2 : decode cJ9_max_7cf53 2 = .ok (.if_icmp .lt 7, 3) := by decide +kernel
theorem dJ9_max_7cf53_5 : decode cJ9_max_7cf53 5 = .ok (.iload_n 0, 1) := by decide +kernel
theorem dJ9_max_7cf53_6 : decode cJ9_max_7cf53 6 = .ok (.goto 4, 3) := by decide +kernel
theorem dJ9_max_7cf53_9 : decode cJ9_max_7cf53 9 = .ok (.iload_n 1, 1) := by decide +kernel
theorem dJ9_max_7cf53_10 : decode cJ9_max_7cf53 10 = .ok (.ireturn, 1) := by decide +kernel
theorem dJ9_min_7cf53_0 : decode cJ9_min_7cf53 0 = .ok (.iload_n 0, 1) := by decide +kernel
theorem dJ9_min_7cf53_1 : decode cJ9_min_7cf53 1 = .ok (.iload_n 1, 1) := by decide +kernel
theorem dJ9_min_7cf53_2 : decode cJ9_min_7cf53 2 = .ok (.if_icmp .gt 7, 3) := by decide +kernel
theorem dJ9_min_7cf53_5 : decode cJ9_min_7cf53 5 = .ok (.iload_n 0, 1) := by decide +kernel
theorem dJ9_min_7cf53_6 : decode cJ9_min_7cf53 6 = .ok (.goto 4, 3) := by decide +kernel
theorem dJ9_min_7cf53_9 : decode cJ9_min_7cf53 9 = .ok (.iload_n 1, 1) := by decide +kernel
theorem dJ9_min_7cf53_10 : decode cJ9_min_7cf53 10 = .ok (.ireturn, 1) := by decide +kernel
abbrev vwCl : List vw_C := [(RX0, TX0, 8), (RX1, TX1, 3), (RX2, TX2, 6), (RX3, TX3, 4), (RX4, TX4, 7), (RX5, TX5, 11)]
end
section
theorem dX0_init_0 : decode cX0_init 0 = .ok (.aload_n 0, 1) := by decide +kernel
theorem dX0_init_1 : decode cX0_init 1 = .ok (.invokespecial 3, 3) := by decide +kernel
theorem dX0_init_4 : decode cX0_init 4 = .ok (.aload_n 0, 1) := by decide +kernel
theorem dX0_init_5 : decode cX0_init 5 = .ok (.bipush 33, 2) := by decide +kernel
theorem dX0_init_7 : decode cX0_init 7 = .ok (.newarray .int, 2) := by decide +kernel
theorem dX0_init_9 : decode cX0_init 9 = .ok (.putfield 11, 3) := by decide +kernel
theorem dX0_init_12 : decode cX0_init 12 = .ok (.aload_n 0, 1) := by decide +kernel
theorem dX0_init_13 : decode cX0_init 13 = .ok (.bipush 16, 2) := by decide +kernel
theorem dX0_init_15 : decode cX0_init 15 = .ok (.newarray .int, 2) := by decide +kernel
theorem dX0_init_17 : decode cX0_init 17 = .ok (.putfield 15, 3) := by decide +kernel
theorem dX0_init_20 : decode cX0_init 20 = .ok (.aload_n 0, 1) := by decide +kernel
theorem dX0_init_21 : decode cX0_init 21 = .ok (.bipush 16, 2) := by decide +kernel
theorem dX0_init_23 : decode cX0_init 23 = .ok (.newarray .int, 2) := by decide +kernel
theorem dX0_init_25 : decode cX0_init 25 = .ok (.putfield 18, 3) := by decide +kernel
theorem dX0_init_28 : decode cX0_init 28 = .ok (.aload_n 0, 1) := by decide +kernel
theorem dX0_init_29 : decode cX0_init 29 = .ok (.sipush 561, 3) := by decide +kernel
theorem dX0_init_32 : decode cX0_init 32 = .ok (.newarray .int, 2) := by decide +kernel
theorem dX0_init_34 : decode cX0_init 34 = .ok (.putfield 21, 3) := by decide +kernel
theorem dX0_init_37 : decode cX0_init 37 = .ok (.aload_n 0, 1) := by decide +kernel
theorem dX0_init_38 : decode cX0_init 38 = .ok (.bipush 17, 2) := by decide +kernel
theorem dX0_init_40 : decode cX0_init 40 = .ok (.newarray .int, 2) := by decide +kernel
theorem dX0_init_42 : decode cX0_init 42 = .ok (.putfield 24, 3) := by decide +kernel
theorem dX0_init_45 : decode cX0_init 45 = .ok (.aload_n 0, 1) := by decide +kernel
theorem dX0_init_46 : decode cX0_init 46 = .ok (.aload_n 1, 1) := by decide +kernel
theorem dX0_init_47 : decode cX0_init 47 = .ok (.putfield 27, 3) := by decide +kernel
theorem dX0_init_50 : decode cX0_init 50 = .ok (.return_, 1) := by decide +kernel
set_option maxRecDepth 20000 in
theorem ggX0_canLay_X0_leastSum : GoodIn wsX0_canLay wsX0_leastSum := goodIn_r _ [5, 6, 7, 8, 9, 10, 11, 12, 13, 4, 14, 15, 16, 17, 18, 19, 20, 21, 22, 23, 24, 25, 26, 27, 28, 29, 30, 31, 32, 33, 34, 35, 36, 37, 38, 39, 40, 41, 42, 43, 44, 45, 46, 47, 48, 49, 50, 51, 52, 53, 54, 55, 56, 57, 58, 59, 60, 61, 62, 63, 64, 65, 66, 67, 68, 69, 70, 71, 72, 73, 74, 75, 76, 77, 78, 79, 80, 81] (by decide +kernel) (by decide +kernel)
set_option maxRecDepth 20000 in
theorem gX0_canLay_X0_leastSum : GoodIn wsX0_canLay (wsV RX0 31 RX0 yX0_leastSum wsX0_leastSum) := goodIn_app (goodIn_of _ (by decide +kernel)) ggX0_canLay_X0_leastSum
theorem dX0_canLay_0 : decode cX0_canLay 0 = .ok (.aload_n 0, 1) := by decide +kernel
theorem dX0_canLay_1 : decode cX0_canLay 1 = .ok (.iload_n 1, 1) := by decide +kernel
theorem dX0_canLay_2 : decode cX0_canLay 2 = .ok (.iload_n 2, 1) := by decide +kernel
theorem dX0_canLay_3 : decode cX0_canLay 3 = .ok (.invokevirtual 31, 3) := by decide +kernel
theorem dX0_canLay_6 : decode cX0_canLay 6 = .ok (.iconst (-1), 1) := by decide +kernel
theorem dX0_canLay_7 : decode cX0_canLay 7 = .ok (.if_icmp .eq 7, 3) := by decide +kernel
theorem dX0_canLay_10 : decode cX0_canLay 10 = .ok (.iconst 1, 1) := by decide +kernel
theorem dX0_canLay_11 : decode cX0_canLay 11 = .ok (.goto 4, 3) := by decide +kernel
theorem dX0_canLay_14 : decode cX0_canLay 14 = .ok (.iconst 0, 1) := by decide +kernel
theorem dX0_canLay_15 : decode cX0_canLay 15 = .ok (.ireturn, 1) := by decide +kernel
set_option maxRecDepth 20000 in
theorem ggX0_leastSum_X0_measure : GoodIn wsX0_leastSum wsX0_measure := goodIn_r _ [10, 4, 11, 3, 1, 2, 12, 13, 14, 15, 16, 17, 18, 19, 20, 21, 22, 23, 24, 25, 26, 27, 28, 29, 30, 31, 32, 33, 34, 64, 65, 66, 67, 68, 69, 70, 71, 72, 73, 74, 75, 76, 77] (by decide +kernel) (by decide +kernel)
set_option maxRecDepth 20000 in
theorem gX0_leastSum_X0_measure : GoodIn wsX0_leastSum (wsV RX0 47 RX0 yX0_measure wsX0_measure) := goodIn_app (goodIn_of _ (by decide +kernel)) ggX0_leastSum_X0_measure
set_option maxRecDepth 20000 in
theorem ggX0_leastSum_X0_fillSums : GoodIn wsX0_leastSum wsX0_fillSums := goodIn_r _ [38, 5, 39, 40, 41, 9, 42, 4, 1, 2, 43, 44, 45, 46, 47, 48, 49, 50, 51, 52, 53, 54, 11, 13, 12, 55, 56, 57, 58, 59, 60, 3, 61, 62, 63, 64, 65, 66, 67, 68, 69, 70, 71, 72, 73, 74, 75, 76, 77] (by decide +kernel) (by decide +kernel)
set_option maxRecDepth 20000 in
theorem gX0_leastSum_X0_fillSums : GoodIn wsX0_leastSum (wsV RX0 50 RX0 yX0_fillSums wsX0_fillSums) := goodIn_app (goodIn_of _ (by decide +kernel)) ggX0_leastSum_X0_fillSums
theorem dX0_leastSum_0 : decode cX0_leastSum 0 = .ok (.iload_n 2, 1) := by decide +kernel
theorem dX0_leastSum_1 : decode cX0_leastSum 1 = .ok (.aload_n 0, 1) := by decide +kernel
theorem dX0_leastSum_2 : decode cX0_leastSum 2 = .ok (.getfield 27, 3) := by decide +kernel
theorem dX0_leastSum_5 : decode cX0_leastSum 5 = .ok (.getfield 35, 3) := by decide +kernel
theorem dX0_leastSum_8 : decode cX0_leastSum 8 = .ok (.if_icmp .lt 9, 3) := by decide +kernel
theorem dX0_leastSum_11 : decode cX0_leastSum 11 = .ok (.iload_n 2, 1) := by decide +kernel
theorem dX0_leastSum_12 : decode cX0_leastSum 12 = .ok (.bipush 32, 2) := by decide +kernel
theorem dX0_leastSum_14 : decode cX0_leastSum 14 = .ok (.if_icmp .le 5, 3) := by decide +kernel
theorem dX0_leastSum_17 : decode cX0_leastSum 17 = .ok (.iconst (-1), 1) := by decide +kernel
theorem dX0_leastSum_18 : decode cX0_leastSum 18 = .ok (.ireturn, 1) := by decide +kernel
theorem dX0_leastSum_19 : decode cX0_leastSum 19 = .ok (.aload_n 0, 1) := by decide +kernel
theorem dX0_leastSum_20 : decode cX0_leastSum 20 = .ok (.iload_n 1, 1) := by decide +kernel
theorem dX0_leastSum_21 : decode cX0_leastSum 21 = .ok (.putfield 41, 3) := by decide +kernel
theorem dX0_leastSum_24 : decode cX0_leastSum 24 = .ok (.aload_n 0, 1) := by decide +kernel
theorem dX0_leastSum_25 : decode cX0_leastSum 25 = .ok (.iload_n 2, 1) := by decide +kernel
theorem dX0_leastSum_26 : decode cX0_leastSum 26 = .ok (.putfield 44, 3) := by decide +kernel
theorem dX0_leastSum_29 : decode cX0_leastSum 29 = .ok (.aload_n 0, 1) := by decide +kernel
theorem dX0_leastSum_30 : decode cX0_leastSum 30 = .ok (.invokevirtual 47, 3) := by decide +kernel
theorem dX0_leastSum_33 : decode cX0_leastSum 33 = .ok (.aload_n 0, 1) := by decide +kernel
theorem dX0_leastSum_34 : decode cX0_leastSum 34 = .ok (.getfield 21, 3) := by decide +kernel
theorem dX0_leastSum_37 : decode cX0_leastSum 37 = .ok (.aload_n 0, 1) := by decide +kernel
theorem dX0_leastSum_38 : decode cX0_leastSum 38 = .ok (.getfield 27, 3) := by decide +kernel
theorem dX0_leastSum_41 : decode cX0_leastSum 41 = .ok (.getfield 35, 3) := by decide +kernel
theorem dX0_leastSum_44 : decode cX0_leastSum 44 = .ok (.bipush 33, 2) := by decide +kernel
theorem dX0_leastSum_46 : decode cX0_leastSum 46 = .ok (.imul, 1) := by decide +kernel
theorem dX0_leastSum_47 : decode cX0_leastSum 47 = .ok (.aload_n 0, 1) := by decide +kernel
theorem dX0_leastSum_48 : decode cX0_leastSum 48 = .ok (.getfield 44, 3) := by decide +kernel
theorem dX0_leastSum_51 : decode cX0_leastSum 51 = .ok (.iadd, 1) := by decide +kernel
theorem dX0_leastSum_52 : decode cX0_leastSum 52 = .ok (.iconst 0, 1) := by decide +kernel
theorem dX0_leastSum_53 : decode cX0_leastSum 53 = .ok (.iastore, 1) := by decide +kernel
theorem dX0_leastSum_54 : decode cX0_leastSum 54 = .ok (.aload_n 0, 1) := by decide +kernel
theorem dX0_leastSum_55 : decode cX0_leastSum 55 = .ok (.getfield 27, 3) := by decide +kernel
theorem dX0_leastSum_58 : decode cX0_leastSum 58 = .ok (.getfield 35, 3) := by decide +kernel
theorem dX0_leastSum_61 : decode cX0_leastSum 61 = .ok (.iconst 1, 1) := by decide +kernel
theorem dX0_leastSum_62 : decode cX0_leastSum 62 = .ok (.isub, 1) := by decide +kernel
theorem dX0_leastSum_63 : decode cX0_leastSum 63 = .ok (.istore_n 3, 1) := by decide +kernel
theorem dX0_leastSum_64 : decode cX0_leastSum 64 = .ok (.iload_n 3, 1) := by decide +kernel
theorem dX0_leastSum_65 : decode cX0_leastSum 65 = .ok (.ifCond .lt 19, 3) := by decide +kernel
theorem dX0_leastSum_68 : decode cX0_leastSum 68 = .ok (.aload_n 0, 1) := by decide +kernel
theorem dX0_leastSum_69 : decode cX0_leastSum 69 = .ok (.iload_n 3, 1) := by decide +kernel
theorem dX0_leastSum_70 : decode cX0_leastSum 70 = .ok (.invokevirtual 50, 3) := by decide +kernel
theorem dX0_leastSum_73 : decode cX0_leastSum 73 = .ok (.ifCond .ne 5, 3) := by decide +kernel
theorem dX0_leastSum_76 : decode cX0_leastSum 76 = .ok (.iconst (-1), 1) := by decide +kernel
theorem dX0_leastSum_77 : decode cX0_leastSum 77 = .ok (.ireturn, 1) := by decide +kernel
theorem dX0_leastSum_78 : decode cX0_leastSum 78 = .ok (.iinc 3 (-1), 3) := by decide +kernel
theorem dX0_leastSum_81 : decode cX0_leastSum 81 = .ok (.goto (-17), 3) := by decide +kernel
theorem dX0_leastSum_84 : decode cX0_leastSum 84 = .ok (.aload_n 0, 1) := by decide +kernel
theorem dX0_leastSum_85 : decode cX0_leastSum 85 = .ok (.getfield 21, 3) := by decide +kernel
theorem dX0_leastSum_88 : decode cX0_leastSum 88 = .ok (.iconst 0, 1) := by decide +kernel
theorem dX0_leastSum_89 : decode cX0_leastSum 89 = .ok (.iaload, 1) := by decide +kernel
theorem dX0_leastSum_90 : decode cX0_leastSum 90 = .ok (.ireturn, 1) := by decide +kernel
set_option maxRecDepth 20000 in
theorem ggX0_draw_X0_leastSum : GoodIn wsX0_draw wsX0_leastSum := goodIn_r _ [9, 1, 4, 10, 11, 12, 13, 14, 15, 8, 16, 17, 18, 19, 20, 21, 22, 23, 24, 25, 26, 27, 28, 29, 30, 31, 32, 33, 34, 35, 36, 37, 38, 39, 40, 41, 42, 43, 44, 45, 46, 47, 48, 49, 50, 51, 52, 53, 54, 55, 56, 57, 58, 59, 60, 61, 62, 63, 64, 65, 66, 67, 68, 69, 70, 71, 72, 73, 74, 75, 76, 77, 78, 79, 80, 81, 82, 83] (by decide +kernel) (by decide +kernel)
set_option maxRecDepth 20000 in
theorem gX0_draw_X0_leastSum : GoodIn wsX0_draw (wsV RX0 31 RX0 yX0_leastSum wsX0_leastSum) := goodIn_app (goodIn_of _ (by decide +kernel)) ggX0_draw_X0_leastSum
set_option maxRecDepth 20000 in
theorem ggX0_draw_X0_bestNext : GoodIn wsX0_draw wsX0_bestNext := goodIn_r _ [56, 57, 58, 59, 60, 17, 19, 18, 12, 45, 46, 47, 8, 48, 11, 1, 4, 49, 50, 51, 52, 70, 71, 72, 73, 74, 75, 76, 77, 78, 79, 80, 81, 82, 83] (by decide +kernel) (by decide +kernel)
set_option maxRecDepth 20000 in
theorem gX0_draw_X0_bestNext : GoodIn wsX0_draw (wsV RX0 57 RX0 yX0_bestNext wsX0_bestNext) := goodIn_app (goodIn_of _ (by decide +kernel)) ggX0_draw_X0_bestNext
theorem dX0_draw_0 : decode cX0_draw 0 = .ok (.aload_n 0, 1) := by decide +kernel
theorem dX0_draw_1 : decode cX0_draw 1 = .ok (.aload_n 0, 1) := by decide +kernel
theorem dX0_draw_2 : decode cX0_draw 2 = .ok (.getfield 27, 3) := by decide +kernel
theorem dX0_draw_5 : decode cX0_draw 5 = .ok (.getfield 54, 3) := by decide +kernel
theorem dX0_draw_8 : decode cX0_draw 8 = .ok (.iconst 5, 1) := by decide +kernel
theorem dX0_draw_9 : decode cX0_draw 9 = .ok (.iaload, 1) := by decide +kernel
theorem dX0_draw_10 : decode cX0_draw 10 = .ok (.aload_n 0, 1) := by decide +kernel
theorem dX0_draw_11 : decode cX0_draw 11 = .ok (.getfield 27, 3) := by decide +kernel
theorem dX0_draw_14 : decode cX0_draw 14 = .ok (.getfield 54, 3) := by decide +kernel
theorem dX0_draw_17 : decode cX0_draw 17 = .ok (.bipush 6, 2) := by decide +kernel
theorem dX0_draw_19 : decode cX0_draw 19 = .ok (.iaload, 1) := by decide +kernel
theorem dX0_draw_20 : decode cX0_draw 20 = .ok (.invokevirtual 31, 3) := by decide +kernel
theorem dX0_draw_23 : decode cX0_draw 23 = .ok (.iconst (-1), 1) := by decide +kernel
theorem dX0_draw_24 : decode cX0_draw 24 = .ok (.if_icmp .ne 5, 3) := by decide +kernel
theorem dX0_draw_27 : decode cX0_draw 27 = .ok (.iconst 0, 1) := by decide +kernel
theorem dX0_draw_28 : decode cX0_draw 28 = .ok (.ireturn, 1) := by decide +kernel
theorem dX0_draw_29 : decode cX0_draw 29 = .ok (.aload_n 0, 1) := by decide +kernel
theorem dX0_draw_30 : decode cX0_draw 30 = .ok (.getfield 24, 3) := by decide +kernel
theorem dX0_draw_33 : decode cX0_draw 33 = .ok (.iconst 0, 1) := by decide +kernel
theorem dX0_draw_34 : decode cX0_draw 34 = .ok (.iconst 0, 1) := by decide +kernel
theorem dX0_draw_35 : decode cX0_draw 35 = .ok (.iastore, 1) := by decide +kernel
theorem dX0_draw_36 : decode cX0_draw 36 = .ok (.iconst 0, 1) := by decide +kernel
theorem dX0_draw_37 : decode cX0_draw 37 = .ok (.istore_n 1, 1) := by decide +kernel
theorem dX0_draw_38 : decode cX0_draw 38 = .ok (.iload_n 1, 1) := by decide +kernel
theorem dX0_draw_39 : decode cX0_draw 39 = .ok (.aload_n 0, 1) := by decide +kernel
theorem dX0_draw_40 : decode cX0_draw 40 = .ok (.getfield 27, 3) := by decide +kernel
theorem dX0_draw_43 : decode cX0_draw 43 = .ok (.getfield 35, 3) := by decide +kernel
theorem dX0_draw_46 : decode cX0_draw 46 = .ok (.if_icmp .ge 37, 3) := by decide +kernel
theorem dX0_draw_49 : decode cX0_draw 49 = .ok (.aload_n 0, 1) := by decide +kernel
theorem dX0_draw_50 : decode cX0_draw 50 = .ok (.iload_n 1, 1) := by decide +kernel
theorem dX0_draw_51 : decode cX0_draw 51 = .ok (.aload_n 0, 1) := by decide +kernel
theorem dX0_draw_52 : decode cX0_draw 52 = .ok (.getfield 24, 3) := by decide +kernel
theorem dX0_draw_55 : decode cX0_draw 55 = .ok (.iload_n 1, 1) := by decide +kernel
theorem dX0_draw_56 : decode cX0_draw 56 = .ok (.iaload, 1) := by decide +kernel
theorem dX0_draw_57 : decode cX0_draw 57 = .ok (.invokevirtual 57, 3) := by decide +kernel
theorem dX0_draw_60 : decode cX0_draw 60 = .ok (.istore_n 2, 1) := by decide +kernel
theorem dX0_draw_61 : decode cX0_draw 61 = .ok (.iload_n 2, 1) := by decide +kernel
theorem dX0_draw_62 : decode cX0_draw 62 = .ok (.iconst (-1), 1) := by decide +kernel
theorem dX0_draw_63 : decode cX0_draw 63 = .ok (.if_icmp .ne 5, 3) := by decide +kernel
theorem dX0_draw_66 : decode cX0_draw 66 = .ok (.iconst 0, 1) := by decide +kernel
theorem dX0_draw_67 : decode cX0_draw 67 = .ok (.ireturn, 1) := by decide +kernel
theorem dX0_draw_68 : decode cX0_draw 68 = .ok (.aload_n 0, 1) := by decide +kernel
theorem dX0_draw_69 : decode cX0_draw 69 = .ok (.getfield 24, 3) := by decide +kernel
theorem dX0_draw_72 : decode cX0_draw 72 = .ok (.iload_n 1, 1) := by decide +kernel
theorem dX0_draw_73 : decode cX0_draw 73 = .ok (.iconst 1, 1) := by decide +kernel
theorem dX0_draw_74 : decode cX0_draw 74 = .ok (.iadd, 1) := by decide +kernel
theorem dX0_draw_75 : decode cX0_draw 75 = .ok (.iload_n 2, 1) := by decide +kernel
theorem dX0_draw_76 : decode cX0_draw 76 = .ok (.iastore, 1) := by decide +kernel
theorem dX0_draw_77 : decode cX0_draw 77 = .ok (.iinc 1 1, 3) := by decide +kernel
theorem dX0_draw_80 : decode cX0_draw 80 = .ok (.goto (-42), 3) := by decide +kernel
theorem dX0_draw_83 : decode cX0_draw 83 = .ok (.iconst 1, 1) := by decide +kernel
theorem dX0_draw_84 : decode cX0_draw 84 = .ok (.ireturn, 1) := by decide +kernel
theorem dX0_budgetOf_0 : decode cX0_budgetOf 0 = .ok (.aload_n 0, 1) := by decide +kernel
theorem dX0_budgetOf_1 : decode cX0_budgetOf 1 = .ok (.getfield 11, 3) := by decide +kernel
theorem dX0_budgetOf_4 : decode cX0_budgetOf 4 = .ok (.aload_n 0, 1) := by decide +kernel
theorem dX0_budgetOf_5 : decode cX0_budgetOf 5 = .ok (.getfield 24, 3) := by decide +kernel
theorem dX0_budgetOf_8 : decode cX0_budgetOf 8 = .ok (.iload_n 1, 1) := by decide +kernel
theorem dX0_budgetOf_9 : decode cX0_budgetOf 9 = .ok (.iconst 1, 1) := by decide +kernel
theorem dX0_budgetOf_10 : decode cX0_budgetOf 10 = .ok (.iadd, 1) := by decide +kernel
theorem dX0_budgetOf_11 : decode cX0_budgetOf 11 = .ok (.iaload, 1) := by decide +kernel
theorem dX0_budgetOf_12 : decode cX0_budgetOf 12 = .ok (.iaload, 1) := by decide +kernel
theorem dX0_budgetOf_13 : decode cX0_budgetOf 13 = .ok (.aload_n 0, 1) := by decide +kernel
theorem dX0_budgetOf_14 : decode cX0_budgetOf 14 = .ok (.getfield 11, 3) := by decide +kernel
theorem dX0_budgetOf_17 : decode cX0_budgetOf 17 = .ok (.aload_n 0, 1) := by decide +kernel
theorem dX0_budgetOf_18 : decode cX0_budgetOf 18 = .ok (.getfield 24, 3) := by decide +kernel
theorem dX0_budgetOf_21 : decode cX0_budgetOf 21 = .ok (.iload_n 1, 1) := by decide +kernel
theorem dX0_budgetOf_22 : decode cX0_budgetOf 22 = .ok (.iaload, 1) := by decide +kernel
theorem dX0_budgetOf_23 : decode cX0_budgetOf 23 = .ok (.iaload, 1) := by decide +kernel
theorem dX0_budgetOf_24 : decode cX0_budgetOf 24 = .ok (.isub, 1) := by decide +kernel
theorem dX0_budgetOf_25 : decode cX0_budgetOf 25 = .ok (.ireturn, 1) := by decide +kernel
set_option maxRecDepth 20000 in
theorem ggX0_measure_X2_lengthOf : GoodIn wsX0_measure wsX2_lengthOf := goodIn_r _ [12, 13, 14, 15, 16, 17, 11, 18, 19, 20, 37, 38, 39, 40, 41, 42] (by decide +kernel) (by decide +kernel)
set_option maxRecDepth 20000 in
theorem gX0_measure_X2_lengthOf : GoodIn wsX0_measure (wsV RX0 60 RX2 yX2_lengthOf wsX2_lengthOf) := goodIn_app (goodIn_of _ (by decide +kernel)) ggX0_measure_X2_lengthOf
set_option maxRecDepth 20000 in
theorem ggX0_measure_X2_leastBudget : GoodIn wsX0_measure wsX2_leastBudget := goodIn_r _ [24, 14, 37, 38, 39, 40, 41, 42] (by decide +kernel) (by decide +kernel)
set_option maxRecDepth 20000 in
theorem gX0_measure_X2_leastBudget : GoodIn wsX0_measure (wsV RX0 64 RX2 yX2_leastBudget wsX2_leastBudget) := goodIn_app (goodIn_of _ (by decide +kernel)) ggX0_measure_X2_leastBudget
set_option maxRecDepth 20000 in
theorem ggX0_measure_X2_mostBudget : GoodIn wsX0_measure wsX2_mostBudget := goodIn_r _ [28, 14, 37, 38, 39, 40, 41, 42] (by decide +kernel) (by decide +kernel)
set_option maxRecDepth 20000 in
theorem gX0_measure_X2_mostBudget : GoodIn wsX0_measure (wsV RX0 67 RX2 yX2_mostBudget wsX2_mostBudget) := goodIn_app (goodIn_of _ (by decide +kernel)) ggX0_measure_X2_mostBudget
theorem dX0_measure_0 : decode cX0_measure 0 = .ok (.iconst 0, 1) := by decide +kernel
theorem dX0_measure_1 : decode cX0_measure 1 = .ok (.istore_n 1, 1) := by decide +kernel
theorem dX0_measure_2 : decode cX0_measure 2 = .ok (.iload_n 1, 1) := by decide +kernel
theorem dX0_measure_3 : decode cX0_measure 3 = .ok (.aload_n 0, 1) := by decide +kernel
theorem dX0_measure_4 : decode cX0_measure 4 = .ok (.getfield 44, 3) := by decide +kernel
theorem dX0_measure_7 : decode cX0_measure 7 = .ok (.if_icmp .gt 26, 3) := by decide +kernel
theorem dX0_measure_10 : decode cX0_measure 10 = .ok (.aload_n 0, 1) := by decide +kernel
theorem dX0_measure_11 : decode cX0_measure 11 = .ok (.getfield 11, 3) := by decide +kernel
theorem dX0_measure_14 : decode cX0_measure 14 = .ok (.iload_n 1, 1) := by decide +kernel
theorem dX0_measure_15 : decode cX0_measure 15 = .ok (.iload_n 1, 1) := by decide +kernel
theorem dX0_measure_16 : decode cX0_measure 16 = .ok (.aload_n 0, 1) := by decide +kernel
theorem dX0_measure_17 : decode cX0_measure 17 = .ok (.getfield 41, 3) := by decide +kernel
theorem dX0_measure_20 : decode cX0_measure 20 = .ok (.imul, 1) := by decide +kernel
theorem dX0_measure_21 : decode cX0_measure 21 = .ok (.aload_n 0, 1) := by decide +kernel
theorem dX0_measure_22 : decode cX0_measure 22 = .ok (.getfield 44, 3) := by decide +kernel
theorem dX0_measure_25 : decode cX0_measure 25 = .ok (.idiv, 1) := by decide +kernel
theorem dX0_measure_26 : decode cX0_measure 26 = .ok (.iastore, 1) := by decide +kernel
theorem dX0_measure_27 : decode cX0_measure 27 = .ok (.iinc 1 1, 3) := by decide +kernel
theorem dX0_measure_30 : decode cX0_measure 30 = .ok (.goto (-28), 3) := by decide +kernel
theorem dX0_measure_33 : decode cX0_measure 33 = .ok (.iconst 0, 1) := by decide +kernel
theorem dX0_measure_34 : decode cX0_measure 34 = .ok (.istore_n 1, 1) := by decide +kernel
theorem dX0_measure_35 : decode cX0_measure 35 = .ok (.iload_n 1, 1) := by decide +kernel
theorem dX0_measure_36 : decode cX0_measure 36 = .ok (.aload_n 0, 1) := by decide +kernel
theorem dX0_measure_37 : decode cX0_measure 37 = .ok (.getfield 27, 3) := by decide +kernel
theorem dX0_measure_40 : decode cX0_measure 40 = .ok (.getfield 35, 3) := by decide +kernel
theorem dX0_measure_43 : decode cX0_measure 43 = .ok (.if_icmp .ge 46, 3) := by decide +kernel
theorem dX0_measure_46 : decode cX0_measure 46 = .ok (.aload_n 0, 1) := by decide +kernel
theorem dX0_measure_47 : decode cX0_measure 47 = .ok (.getfield 27, 3) := by decide +kernel
theorem dX0_measure_50 : decode cX0_measure 50 = .ok (.iload_n 1, 1) := by decide +kernel
theorem dX0_measure_51 : decode cX0_measure 51 = .ok (.invokevirtual 60, 3) := by decide +kernel
theorem dX0_measure_54 : decode cX0_measure 54 = .ok (.istore_n 2, 1) := by decide +kernel
theorem dX0_measure_55 : decode cX0_measure 55 = .ok (.aload_n 0, 1) := by decide +kernel
theorem dX0_measure_56 : decode cX0_measure 56 = .ok (.getfield 15, 3) := by decide +kernel
theorem dX0_measure_59 : decode cX0_measure 59 = .ok (.iload_n 1, 1) := by decide +kernel
theorem dX0_measure_60 : decode cX0_measure 60 = .ok (.aload_n 0, 1) := by decide +kernel
theorem dX0_measure_61 : decode cX0_measure 61 = .ok (.getfield 27, 3) := by decide +kernel
theorem dX0_measure_64 : decode cX0_measure 64 = .ok (.iload_n 2, 1) := by decide +kernel
theorem dX0_measure_65 : decode cX0_measure 65 = .ok (.invokevirtual 64, 3) := by decide +kernel
theorem dX0_measure_68 : decode cX0_measure 68 = .ok (.iastore, 1) := by decide +kernel
theorem dX0_measure_69 : decode cX0_measure 69 = .ok (.aload_n 0, 1) := by decide +kernel
theorem dX0_measure_70 : decode cX0_measure 70 = .ok (.getfield 18, 3) := by decide +kernel
theorem dX0_measure_73 : decode cX0_measure 73 = .ok (.iload_n 1, 1) := by decide +kernel
theorem dX0_measure_74 : decode cX0_measure 74 = .ok (.aload_n 0, 1) := by decide +kernel
theorem dX0_measure_75 : decode cX0_measure 75 = .ok (.getfield 27, 3) := by decide +kernel
theorem dX0_measure_78 : decode cX0_measure 78 = .ok (.iload_n 2, 1) := by decide +kernel
theorem dX0_measure_79 : decode cX0_measure 79 = .ok (.invokevirtual 67, 3) := by decide +kernel
theorem dX0_measure_82 : decode cX0_measure 82 = .ok (.iastore, 1) := by decide +kernel
theorem dX0_measure_83 : decode cX0_measure 83 = .ok (.iinc 1 1, 3) := by decide +kernel
theorem dX0_measure_86 : decode cX0_measure 86 = .ok (.goto (-51), 3) := by decide +kernel
theorem dX0_measure_89 : decode cX0_measure 89 = .ok (.return_, 1) := by decide +kernel
set_option maxRecDepth 20000 in
theorem ggX0_fillSums_X0_lastStepOf : GoodIn wsX0_fillSums wsX0_lastStepOf := goodIn_r _ [6, 7, 8, 9, 35, 36, 37, 38, 39, 40, 41, 42, 43, 44, 45, 46, 47, 48] (by decide +kernel) (by decide +kernel)
set_option maxRecDepth 20000 in
theorem gX0_fillSums_X0_lastStepOf : GoodIn wsX0_fillSums (wsV RX0 70 RX0 yX0_lastStepOf wsX0_lastStepOf) := goodIn_app (goodIn_of _ (by decide +kernel)) ggX0_fillSums_X0_lastStepOf
set_option maxRecDepth 20000 in
theorem ggX0_fillSums_X0_firstStepOf : GoodIn wsX0_fillSums wsX0_firstStepOf := goodIn_r _ [13, 8, 9, 7, 35, 36, 37, 38, 39, 40, 41, 42, 43, 44, 45, 46, 47, 48] (by decide +kernel) (by decide +kernel)
set_option maxRecDepth 20000 in
theorem gX0_fillSums_X0_firstStepOf : GoodIn wsX0_fillSums (wsV RX0 73 RX0 yX0_firstStepOf wsX0_firstStepOf) := goodIn_app (goodIn_of _ (by decide +kernel)) ggX0_fillSums_X0_firstStepOf
set_option maxRecDepth 20000 in
theorem ggX0_fillSums_X0_bestNext : GoodIn wsX0_fillSums wsX0_bestNext := goodIn_r _ [17, 18, 19, 20, 21, 22, 23, 24, 1, 2, 3, 4, 5, 6, 7, 8, 9, 10, 11, 12, 13, 35, 36, 37, 38, 39, 40, 41, 42, 43, 44, 45, 46, 47, 48] (by decide +kernel) (by decide +kernel)
set_option maxRecDepth 20000 in
theorem gX0_fillSums_X0_bestNext : GoodIn wsX0_fillSums (wsV RX0 57 RX0 yX0_bestNext wsX0_bestNext) := goodIn_app (goodIn_of _ (by decide +kernel)) ggX0_fillSums_X0_bestNext
set_option maxRecDepth 20000 in
theorem ggX0_fillSums_X0_distance : GoodIn wsX0_fillSums wsX0_distance := goodIn_r _ [28, 22, 8, 29, 30, 31, 32, 33, 20, 34, 35, 36, 37, 38, 39, 40, 41, 42, 43, 44, 45, 46, 47, 48] (by decide +kernel) (by decide +kernel)
set_option maxRecDepth 20000 in
theorem gX0_fillSums_X0_distance : GoodIn wsX0_fillSums (wsV RX0 76 RX0 yX0_distance wsX0_distance) := goodIn_app (goodIn_of _ (by decide +kernel)) ggX0_fillSums_X0_distance
theorem dX0_fillSums_0 : decode cX0_fillSums 0 = .ok (.iconst 0, 1) := by decide +kernel
theorem dX0_fillSums_1 : decode cX0_fillSums 1 = .ok (.istore_n 2, 1) := by decide +kernel
theorem dX0_fillSums_2 : decode cX0_fillSums 2 = .ok (.aload_n 0, 1) := by decide +kernel
theorem dX0_fillSums_3 : decode cX0_fillSums 3 = .ok (.iload_n 1, 1) := by decide +kernel
theorem dX0_fillSums_4 : decode cX0_fillSums 4 = .ok (.invokevirtual 70, 3) := by decide +kernel
theorem dX0_fillSums_7 : decode cX0_fillSums 7 = .ok (.istore_n 3, 1) := by decide +kernel
theorem dX0_fillSums_8 : decode cX0_fillSums 8 = .ok (.aload_n 0, 1) := by decide +kernel
theorem dX0_fillSums_9 : decode cX0_fillSums 9 = .ok (.iload_n 1, 1) := by decide +kernel
theorem dX0_fillSums_10 : decode cX0_fillSums 10 = .ok (.invokevirtual 73, 3) := by decide +kernel
theorem dX0_fillSums_13 : decode cX0_fillSums 13 = .ok (.istore 4, 2) := by decide +kernel
theorem dX0_fillSums_15 : decode cX0_fillSums 15 = .ok (.iload 4, 2) := by decide +kernel
theorem dX0_fillSums_17 : decode cX0_fillSums 17 = .ok (.iload_n 3, 1) := by decide +kernel
theorem dX0_fillSums_18 : decode cX0_fillSums 18 = .ok (.if_icmp .gt 67, 3) := by decide +kernel
theorem dX0_fillSums_21 : decode cX0_fillSums 21 = .ok (.aload_n 0, 1) := by decide +kernel
theorem dX0_fillSums_22 : decode cX0_fillSums 22 = .ok (.iload_n 1, 1) := by decide +kernel
theorem dX0_fillSums_23 : decode cX0_fillSums 23 = .ok (.iload 4, 2) := by decide +kernel
theorem dX0_fillSums_25 : decode cX0_fillSums 25 = .ok (.invokevirtual 57, 3) := by decide +kernel
theorem dX0_fillSums_28 : decode cX0_fillSums 28 = .ok (.istore 5, 2) := by decide +kernel
theorem dX0_fillSums_30 : decode cX0_fillSums 30 = .ok (.iconst (-1), 1) := by decide +kernel
theorem dX0_fillSums_31 : decode cX0_fillSums 31 = .ok (.istore 6, 2) := by decide +kernel
theorem dX0_fillSums_33 : decode cX0_fillSums 33 = .ok (.iload 5, 2) := by decide +kernel
theorem dX0_fillSums_35 : decode cX0_fillSums 35 = .ok (.iconst (-1), 1) := by decide +kernel
theorem dX0_fillSums_36 : decode cX0_fillSums 36 = .ok (.if_icmp .eq 29, 3) := by decide +kernel
theorem dX0_fillSums_39 : decode cX0_fillSums 39 = .ok (.aload_n 0, 1) := by decide +kernel
theorem dX0_fillSums_40 : decode cX0_fillSums 40 = .ok (.getfield 21, 3) := by decide +kernel
theorem dX0_fillSums_43 : decode cX0_fillSums 43 = .ok (.iload_n 1, 1) := by decide +kernel
theorem dX0_fillSums_44 : decode cX0_fillSums 44 = .ok (.iconst 1, 1) := by decide +kernel
theorem dX0_fillSums_45 : decode cX0_fillSums 45 = .ok (.iadd, 1) := by decide +kernel
theorem dX0_fillSums_46 : decode cX0_fillSums 46 = .ok (.bipush 33, 2) := by decide +kernel
theorem dX0_fillSums_48 : decode cX0_fillSums 48 = .ok (.imul, 1) := by decide +kernel
theorem dX0_fillSums_49 : decode cX0_fillSums 49 = .ok (.iload 5, 2) := by decide +kernel
theorem dX0_fillSums_51 : decode cX0_fillSums 51 = .ok (.iadd, 1) := by decide +kernel
theorem dX0_fillSums_52 : decode cX0_fillSums 52 = .ok (.iaload, 1) := by decide +kernel
theorem dX0_fillSums_53 : decode cX0_fillSums 53 = .ok (.aload_n 0, 1) := by decide +kernel
theorem dX0_fillSums_54 : decode cX0_fillSums 54 = .ok (.iload_n 1, 1) := by decide +kernel
theorem dX0_fillSums_55 : decode cX0_fillSums 55 = .ok (.iload 4, 2) := by decide +kernel
theorem dX0_fillSums_57 : decode cX0_fillSums 57 = .ok (.invokevirtual 76, 3) := by decide +kernel
theorem dX0_fillSums_60 : decode cX0_fillSums 60 = .ok (.iadd, 1) := by decide +kernel
theorem dX0_fillSums_61 : decode cX0_fillSums 61 = .ok (.istore 6, 2) := by decide +kernel
theorem dX0_fillSums_63 : decode cX0_fillSums 63 = .ok (.iconst 1, 1) := by decide +kernel
theorem dX0_fillSums_64 : decode cX0_fillSums 64 = .ok (.istore_n 2, 1) := by decide +kernel
theorem dX0_fillSums_65 : decode cX0_fillSums 65 = .ok (.aload_n 0, 1) := by decide +kernel
theorem dX0_fillSums_66 : decode cX0_fillSums 66 = .ok (.getfield 21, 3) := by decide +kernel
theorem dX0_fillSums_69 : decode cX0_fillSums 69 = .ok (.iload_n 1, 1) := by decide +kernel
theorem dX0_fillSums_70 : decode cX0_fillSums 70 = .ok (.bipush 33, 2) := by decide +kernel
theorem dX0_fillSums_72 : decode cX0_fillSums 72 = .ok (.imul, 1) := by decide +kernel
theorem dX0_fillSums_73 : decode cX0_fillSums 73 = .ok (.iload 4, 2) := by decide +kernel
theorem dX0_fillSums_75 : decode cX0_fillSums 75 = .ok (.iadd, 1) := by decide +kernel
theorem dX0_fillSums_76 : decode cX0_fillSums 76 = .ok (.iload 6, 2) := by decide +kernel
theorem dX0_fillSums_78 : decode cX0_fillSums 78 = .ok (.iastore, 1) := by decide +kernel
theorem dX0_fillSums_79 : decode cX0_fillSums 79 = .ok (.iinc 4 1, 3) := by decide +kernel
theorem dX0_fillSums_82 : decode cX0_fillSums 82 = .ok (.goto (-67), 3) := by decide +kernel
theorem dX0_fillSums_85 : decode cX0_fillSums 85 = .ok (.iload_n 2, 1) := by decide +kernel
theorem dX0_fillSums_86 : decode cX0_fillSums 86 = .ok (.ireturn, 1) := by decide +kernel
set_option maxRecDepth 20000 in
theorem ggX0_bestNext_X0_lastStepOf : GoodIn wsX0_bestNext wsX0_lastStepOf := goodIn_r _ [13, 14, 15, 16, 21, 22, 23, 24, 25, 26, 27, 28, 29, 30, 31, 32, 33, 34] (by decide +kernel) (by decide +kernel)
set_option maxRecDepth 20000 in
theorem gX0_bestNext_X0_lastStepOf : GoodIn wsX0_bestNext (wsV RX0 70 RX0 yX0_lastStepOf wsX0_lastStepOf) := goodIn_app (goodIn_of _ (by decide +kernel)) ggX0_bestNext_X0_lastStepOf
set_option maxRecDepth 20000 in
theorem ggX0_bestNext_X0_firstStepOf : GoodIn wsX0_bestNext wsX0_firstStepOf := goodIn_r _ [20, 15, 16, 14, 21, 22, 23, 24, 25, 26, 27, 28, 29, 30, 31, 32, 33, 34] (by decide +kernel) (by decide +kernel)
set_option maxRecDepth 20000 in
theorem gX0_bestNext_X0_firstStepOf : GoodIn wsX0_bestNext (wsV RX0 73 RX0 yX0_firstStepOf wsX0_firstStepOf) := goodIn_app (goodIn_of _ (by decide +kernel)) ggX0_bestNext_X0_firstStepOf
theorem dX0_bestNext_0 : decode cX0_bestNext 0 = .ok (.iload_n 1, 1) := by decide +kernel
theorem dX0_bestNext_1 : decode cX0_bestNext 1 = .ok (.iconst 1, 1) := by decide +kernel
theorem dX0_bestNext_2 : decode cX0_bestNext 2 = .ok (.iadd, 1) := by decide +kernel
theorem dX0_bestNext_3 : decode cX0_bestNext 3 = .ok (.bipush 33, 2) := by decide +kernel
theorem dX0_bestNext_5 : decode cX0_bestNext 5 = .ok (.imul, 1) := by decide +kernel
theorem dX0_bestNext_6 : decode cX0_bestNext 6 = .ok (.istore_n 3, 1) := by decide +kernel
theorem dX0_bestNext_7 : decode cX0_bestNext 7 = .ok (.iconst (-1), 1) := by decide +kernel
theorem dX0_bestNext_8 : decode cX0_bestNext 8 = .ok (.istore 4, 2) := by decide +kernel
theorem dX0_bestNext_10 : decode cX0_bestNext 10 = .ok (.aload_n 0, 1) := by decide +kernel
theorem dX0_bestNext_11 : decode cX0_bestNext 11 = .ok (.iload_n 1, 1) := by decide +kernel
theorem dX0_bestNext_12 : decode cX0_bestNext 12 = .ok (.iconst 1, 1) := by decide +kernel
theorem dX0_bestNext_13 : decode cX0_bestNext 13 = .ok (.iadd, 1) := by decide +kernel
theorem dX0_bestNext_14 : decode cX0_bestNext 14 = .ok (.invokevirtual 70, 3) := by decide +kernel
theorem dX0_bestNext_17 : decode cX0_bestNext 17 = .ok (.istore 5, 2) := by decide +kernel
theorem dX0_bestNext_19 : decode cX0_bestNext 19 = .ok (.iload_n 2, 1) := by decide +kernel
theorem dX0_bestNext_20 : decode cX0_bestNext 20 = .ok (.iconst 1, 1) := by decide +kernel
theorem dX0_bestNext_21 : decode cX0_bestNext 21 = .ok (.iadd, 1) := by decide +kernel
theorem dX0_bestNext_22 : decode cX0_bestNext 22 = .ok (.aload_n 0, 1) := by decide +kernel
theorem dX0_bestNext_23 : decode cX0_bestNext 23 = .ok (.iload_n 1, 1) := by decide +kernel
theorem dX0_bestNext_24 : decode cX0_bestNext 24 = .ok (.iconst 1, 1) := by decide +kernel
theorem dX0_bestNext_25 : decode cX0_bestNext 25 = .ok (.iadd, 1) := by decide +kernel
theorem dX0_bestNext_26 : decode cX0_bestNext 26 = .ok (.invokevirtual 73, 3) := by decide +kernel
theorem dX0_bestNext_29 : decode cX0_bestNext 29 = .ok (.invokestatic 79, 3) := by decide +kernel
theorem dX0_bestNext_32 : decode cX0_bestNext 32 = .ok (.istore 6, 2) := by decide +kernel
theorem dX0_bestNext_34 : decode cX0_bestNext 34 = .ok (.iload 6, 2) := by decide +kernel
theorem dX0_bestNext_36 : decode cX0_bestNext 36 = .ok (.iload 5, 2) := by decide +kernel
theorem dX0_bestNext_38 : decode cX0_bestNext 38 = .ok (.if_icmp .gt 106, 3) := by decide +kernel
theorem dX0_bestNext_41 : decode cX0_bestNext 41 = .ok (.aload_n 0, 1) := by decide +kernel
theorem dX0_bestNext_42 : decode cX0_bestNext 42 = .ok (.getfield 11, 3) := by decide +kernel
theorem dX0_bestNext_45 : decode cX0_bestNext 45 = .ok (.iload 6, 2) := by decide +kernel
theorem dX0_bestNext_47 : decode cX0_bestNext 47 = .ok (.iaload, 1) := by decide +kernel
theorem dX0_bestNext_48 : decode cX0_bestNext 48 = .ok (.aload_n 0, 1) := by decide +kernel
theorem dX0_bestNext_49 : decode cX0_bestNext 49 = .ok (.getfield 11, 3) := by decide +kernel
theorem dX0_bestNext_52 : decode cX0_bestNext 52 = .ok (.iload_n 2, 1) := by decide +kernel
theorem dX0_bestNext_53 : decode cX0_bestNext 53 = .ok (.iaload, 1) := by decide +kernel
theorem dX0_bestNext_54 : decode cX0_bestNext 54 = .ok (.isub, 1) := by decide +kernel
theorem dX0_bestNext_55 : decode cX0_bestNext 55 = .ok (.istore 7, 2) := by decide +kernel
theorem dX0_bestNext_57 : decode cX0_bestNext 57 = .ok (.iload 7, 2) := by decide +kernel
theorem dX0_bestNext_59 : decode cX0_bestNext 59 = .ok (.aload_n 0, 1) := by decide +kernel
theorem dX0_bestNext_60 : decode cX0_bestNext 60 = .ok (.getfield 18, 3) := by decide +kernel
theorem dX0_bestNext_63 : decode cX0_bestNext 63 = .ok (.iload_n 1, 1) := by decide +kernel
theorem dX0_bestNext_64 : decode cX0_bestNext 64 = .ok (.iaload, 1) := by decide +kernel
theorem dX0_bestNext_65 : decode cX0_bestNext 65 = .ok (.if_icmp .le 6, 3) := by decide +kernel
theorem dX0_bestNext_68 : decode cX0_bestNext 68 = .ok (.iload 4, 2) := by decide +kernel
theorem dX0_bestNext_70 : decode cX0_bestNext 70 = .ok (.ireturn, 1) := by decide +kernel
theorem dX0_bestNext_71 : decode cX0_bestNext 71 = .ok (.iload 7, 2) := by decide +kernel
theorem dX0_bestNext_73 : decode cX0_bestNext 73 = .ok (.aload_n 0, 1) := by decide +kernel
theorem dX0_bestNext_74 : decode cX0_bestNext 74 = .ok (.getfield 15, 3) := by decide +kernel
theorem dX0_bestNext_77 : decode cX0_bestNext 77 = .ok (.iload_n 1, 1) := by decide +kernel
theorem dX0_bestNext_78 : decode cX0_bestNext 78 = .ok (.iaload, 1) := by decide +kernel
theorem dX0_bestNext_79 : decode cX0_bestNext 79 = .ok (.if_icmp .lt 20, 3) := by decide +kernel
theorem dX0_bestNext_82 : decode cX0_bestNext 82 = .ok (.aload_n 0, 1) := by decide +kernel
theorem dX0_bestNext_83 : decode cX0_bestNext 83 = .ok (.getfield 21, 3) := by decide +kernel
theorem dX0_bestNext_86 : decode cX0_bestNext 86 = .ok (.iload_n 3, 1) := by decide +kernel
theorem dX0_bestNext_87 : decode cX0_bestNext 87 = .ok (.iload 6, 2) := by decide +kernel
theorem dX0_bestNext_89 : decode cX0_bestNext 89 = .ok (.iadd, 1) := by decide +kernel
theorem dX0_bestNext_90 : decode cX0_bestNext 90 = .ok (.iaload, 1) := by decide +kernel
theorem dX0_bestNext_91 : decode cX0_bestNext 91 = .ok (.iconst (-1), 1) := by decide +kernel
theorem dX0_bestNext_92 : decode cX0_bestNext 92 = .ok (.if_icmp .eq 7, 3) := by decide +kernel
theorem dX0_bestNext_95 : decode cX0_bestNext 95 = .ok (.iconst 1, 1) := by decide +kernel
theorem dX0_bestNext_96 : decode cX0_bestNext 96 = .ok (.goto 4, 3) := by decide +kernel
theorem dX0_bestNext_99 : decode cX0_bestNext 99 = .ok (.iconst 0, 1) := by decide +kernel
theorem dX0_bestNext_100 : decode cX0_bestNext 100 = .ok (.istore 8, 2) := by decide +kernel
theorem dX0_bestNext_102 : decode cX0_bestNext 102 = .ok (.iload 8, 2) := by decide +kernel
theorem dX0_bestNext_104 : decode cX0_bestNext 104 = .ok (.ifCond .eq 34, 3) := by decide +kernel
theorem dX0_bestNext_107 : decode cX0_bestNext 107 = .ok (.iload 4, 2) := by decide +kernel
theorem dX0_bestNext_109 : decode cX0_bestNext 109 = .ok (.iconst (-1), 1) := by decide +kernel
theorem dX0_bestNext_110 : decode cX0_bestNext 110 = .ok (.if_icmp .eq 24, 3) := by decide +kernel
theorem dX0_bestNext_113 : decode cX0_bestNext 113 = .ok (.aload_n 0, 1) := by decide +kernel
theorem dX0_bestNext_114 : decode cX0_bestNext 114 = .ok (.getfield 21, 3) := by decide +kernel
theorem dX0_bestNext_117 : decode cX0_bestNext 117 = .ok (.iload_n 3, 1) := by decide +kernel
theorem dX0_bestNext_118 : decode cX0_bestNext 118 = .ok (.iload 6, 2) := by decide +kernel
theorem dX0_bestNext_120 : decode cX0_bestNext 120 = .ok (.iadd, 1) := by decide +kernel
theorem dX0_bestNext_121 : decode cX0_bestNext 121 = .ok (.iaload, 1) := by decide +kernel
theorem dX0_bestNext_122 : decode cX0_bestNext 122 = .ok (.aload_n 0, 1) := by decide +kernel
theorem dX0_bestNext_123 : decode cX0_bestNext 123 = .ok (.getfield 21, 3) := by decide +kernel
theorem dX0_bestNext_126 : decode cX0_bestNext 126 = .ok (.iload_n 3, 1) := by decide +kernel
theorem dX0_bestNext_127 : decode cX0_bestNext 127 = .ok (.iload 4, 2) := by decide +kernel
theorem dX0_bestNext_129 : decode cX0_bestNext 129 = .ok (.iadd, 1) := by decide +kernel
theorem dX0_bestNext_130 : decode cX0_bestNext 130 = .ok (.iaload, 1) := by decide +kernel
theorem dX0_bestNext_131 : decode cX0_bestNext 131 = .ok (.if_icmp .ge 7, 3) := by decide +kernel
theorem dX0_bestNext_134 : decode cX0_bestNext 134 = .ok (.iload 6, 2) := by decide +kernel
theorem dX0_bestNext_136 : decode cX0_bestNext 136 = .ok (.istore 4, 2) := by decide +kernel
theorem dX0_bestNext_138 : decode cX0_bestNext 138 = .ok (.iinc 6 1, 3) := by decide +kernel
theorem dX0_bestNext_141 : decode cX0_bestNext 141 = .ok (.goto (-107), 3) := by decide +kernel
theorem dX0_bestNext_144 : decode cX0_bestNext 144 = .ok (.iload 4, 2) := by decide +kernel
theorem dX0_bestNext_146 : decode cX0_bestNext 146 = .ok (.ireturn, 1) := by decide +kernel
theorem dX0_firstStepOf_0 : decode cX0_firstStepOf 0 = .ok (.iload_n 1, 1) := by decide +kernel
theorem dX0_firstStepOf_1 : decode cX0_firstStepOf 1 = .ok (.aload_n 0, 1) := by decide +kernel
theorem dX0_firstStepOf_2 : decode cX0_firstStepOf 2 = .ok (.getfield 27, 3) := by decide +kernel
theorem dX0_firstStepOf_5 : decode cX0_firstStepOf 5 = .ok (.getfield 35, 3) := by decide +kernel
theorem dX0_firstStepOf_8 : decode cX0_firstStepOf 8 = .ok (.if_icmp .ge 7, 3) := by decide +kernel
theorem dX0_firstStepOf_11 : decode cX0_firstStepOf 11 = .ok (.iload_n 1, 1) := by decide +kernel
theorem dX0_firstStepOf_12 : decode cX0_firstStepOf 12 = .ok (.goto 7, 3) := by decide +kernel
theorem dX0_firstStepOf_15 : decode cX0_firstStepOf 15 = .ok (.aload_n 0, 1) := by decide +kernel
theorem dX0_firstStepOf_16 : decode cX0_firstStepOf 16 = .ok (.getfield 44, 3) := by decide +kernel
theorem dX0_firstStepOf_19 : decode cX0_firstStepOf 19 = .ok (.ireturn, 1) := by decide +kernel
theorem dX0_lastStepOf_0 : decode cX0_lastStepOf 0 = .ok (.iload_n 1, 1) := by decide +kernel
theorem dX0_lastStepOf_1 : decode cX0_lastStepOf 1 = .ok (.ifCond .ne 7, 3) := by decide +kernel
theorem dX0_lastStepOf_4 : decode cX0_lastStepOf 4 = .ok (.iconst 0, 1) := by decide +kernel
theorem dX0_lastStepOf_5 : decode cX0_lastStepOf 5 = .ok (.goto 17, 3) := by decide +kernel
theorem dX0_lastStepOf_8 : decode cX0_lastStepOf 8 = .ok (.aload_n 0, 1) := by decide +kernel
theorem dX0_lastStepOf_9 : decode cX0_lastStepOf 9 = .ok (.getfield 44, 3) := by decide +kernel
theorem dX0_lastStepOf_12 : decode cX0_lastStepOf 12 = .ok (.aload_n 0, 1) := by decide +kernel
theorem dX0_lastStepOf_13 : decode cX0_lastStepOf 13 = .ok (.getfield 27, 3) := by decide +kernel
theorem dX0_lastStepOf_16 : decode cX0_lastStepOf 16 = .ok (.getfield 35, 3) := by decide +kernel
theorem dX0_lastStepOf_19 : decode cX0_lastStepOf 19 = .ok (.iload_n 1, 1) := by decide +kernel
theorem dX0_lastStepOf_20 : decode cX0_lastStepOf 20 = .ok (.isub, 1) := by decide +kernel
theorem dX0_lastStepOf_21 : decode cX0_lastStepOf 21 = .ok (.isub, 1) := by decide +kernel
theorem dX0_lastStepOf_22 : decode cX0_lastStepOf 22 = .ok (.ireturn, 1) := by decide +kernel
theorem dX0_distance_0 : decode cX0_distance 0 = .ok (.aload_n 0, 1) := by decide +kernel
theorem dX0_distance_1 : decode cX0_distance 1 = .ok (.getfield 11, 3) := by decide +kernel
theorem dX0_distance_4 : decode cX0_distance 4 = .ok (.iload_n 2, 1) := by decide +kernel
theorem dX0_distance_5 : decode cX0_distance 5 = .ok (.iaload, 1) := by decide +kernel
theorem dX0_distance_6 : decode cX0_distance 6 = .ok (.aload_n 0, 1) := by decide +kernel
theorem dX0_distance_7 : decode cX0_distance 7 = .ok (.getfield 27, 3) := by decide +kernel
theorem dX0_distance_10 : decode cX0_distance 10 = .ok (.getfield 84, 3) := by decide +kernel
theorem dX0_distance_13 : decode cX0_distance 13 = .ok (.imul, 1) := by decide +kernel
theorem dX0_distance_14 : decode cX0_distance 14 = .ok (.aload_n 0, 1) := by decide +kernel
theorem dX0_distance_15 : decode cX0_distance 15 = .ok (.getfield 27, 3) := by decide +kernel
theorem dX0_distance_18 : decode cX0_distance 18 = .ok (.getfield 87, 3) := by decide +kernel
theorem dX0_distance_21 : decode cX0_distance 21 = .ok (.iload_n 1, 1) := by decide +kernel
theorem dX0_distance_22 : decode cX0_distance 22 = .ok (.iaload, 1) := by decide +kernel
theorem dX0_distance_23 : decode cX0_distance 23 = .ok (.aload_n 0, 1) := by decide +kernel
theorem dX0_distance_24 : decode cX0_distance 24 = .ok (.getfield 41, 3) := by decide +kernel
theorem dX0_distance_27 : decode cX0_distance 27 = .ok (.imul, 1) := by decide +kernel
theorem dX0_distance_28 : decode cX0_distance 28 = .ok (.isub, 1) := by decide +kernel
theorem dX0_distance_29 : decode cX0_distance 29 = .ok (.invokestatic 90, 3) := by decide +kernel
theorem dX0_distance_32 : decode cX0_distance 32 = .ok (.ireturn, 1) := by decide +kernel
set_option maxRecDepth 20000 in
theorem ggX1_init_X2_init : GoodIn wsX1_init wsX2_init := goodIn_r _ [9, 10, 2, 3, 11, 12, 13, 14, 15, 16, 17, 18, 19, 20, 21, 22, 23, 27, 28, 29, 30, 31, 32] (by decide +kernel) (by decide +kernel)
set_option maxRecDepth 20000 in
theorem gX1_init_X2_init_n17 : GoodIn wsX1_init (wsX2_init) := ggX1_init_X2_init
theorem dX1_init_0 : decode cX1_init 0 = .ok (.aload_n 0, 1) := by decide +kernel
theorem dX1_init_1 : decode cX1_init 1 = .ok (.invokespecial 3, 3) := by decide +kernel
theorem dX1_init_4 : decode cX1_init 4 = .ok (.aload_n 0, 1) := by decide +kernel
theorem dX1_init_5 : decode cX1_init 5 = .ok (.bipush 8, 2) := by decide +kernel
theorem dX1_init_7 : decode cX1_init 7 = .ok (.anewarray 9, 3) := by decide +kernel
theorem dX1_init_10 : decode cX1_init 10 = .ok (.putfield 11, 3) := by decide +kernel
theorem dX1_init_13 : decode cX1_init 13 = .ok (.iconst 0, 1) := by decide +kernel
theorem dX1_init_14 : decode cX1_init 14 = .ok (.istore_n 1, 1) := by decide +kernel
theorem dX1_init_15 : decode cX1_init 15 = .ok (.iload_n 1, 1) := by decide +kernel
theorem dX1_init_16 : decode cX1_init 16 = .ok (.bipush 8, 2) := by decide +kernel
theorem dX1_init_18 : decode cX1_init 18 = .ok (.if_icmp .ge 22, 3) := by decide +kernel
theorem dX1_init_21 : decode cX1_init 21 = .ok (.aload_n 0, 1) := by decide +kernel
theorem dX1_init_22 : decode cX1_init 22 = .ok (.getfield 11, 3) := by decide +kernel
theorem dX1_init_25 : decode cX1_init 25 = .ok (.iload_n 1, 1) := by decide +kernel
theorem dX1_init_26 : decode cX1_init 26 = .ok (.new 9, 3) := by decide +kernel
theorem dX1_init_29 : decode cX1_init 29 = .ok (.dup, 1) := by decide +kernel
theorem dX1_init_30 : decode cX1_init 30 = .ok (.invokespecial 17, 3) := by decide +kernel
theorem dX1_init_33 : decode cX1_init 33 = .ok (.aastore, 1) := by decide +kernel
theorem dX1_init_34 : decode cX1_init 34 = .ok (.iinc 1 1, 3) := by decide +kernel
theorem dX1_init_37 : decode cX1_init 37 = .ok (.goto (-22), 3) := by decide +kernel
theorem dX1_init_40 : decode cX1_init 40 = .ok (.return_, 1) := by decide +kernel
set_option maxRecDepth 20000 in
theorem ggX1_push_X2_copy : GoodIn wsX1_push wsX2_copy := goodIn_r _ [8, 9, 10, 11, 12, 13, 14, 15, 16, 17, 18, 22, 23, 24, 25, 26, 27] (by decide +kernel) (by decide +kernel)
set_option maxRecDepth 20000 in
theorem gX1_push_X2_copy : GoodIn wsX1_push (wsV RX1 22 RX2 yX2_copy wsX2_copy) := goodIn_app (goodIn_of _ (by decide +kernel)) ggX1_push_X2_copy
theorem dX1_push_0 : decode cX1_push 0 = .ok (.aload_n 0, 1) := by decide +kernel
theorem dX1_push_1 : decode cX1_push 1 = .ok (.aload_n 0, 1) := by decide +kernel
theorem dX1_push_2 : decode cX1_push 2 = .ok (.getfield 18, 3) := by decide +kernel
theorem dX1_push_5 : decode cX1_push 5 = .ok (.iconst 1, 1) := by decide +kernel
theorem dX1_push_6 : decode cX1_push 6 = .ok (.iadd, 1) := by decide +kernel
theorem dX1_push_7 : decode cX1_push 7 = .ok (.bipush 8, 2) := by decide +kernel
theorem dX1_push_9 : decode cX1_push 9 = .ok (.if_icmp .ge 12, 3) := by decide +kernel
theorem dX1_push_12 : decode cX1_push 12 = .ok (.aload_n 0, 1) := by decide +kernel
theorem dX1_push_13 : decode cX1_push 13 = .ok (.getfield 18, 3) := by decide +kernel
theorem dX1_push_16 : decode cX1_push 16 = .ok (.iconst 1, 1) := by decide +kernel
theorem dX1_push_17 : decode cX1_push 17 = .ok (.iadd, 1) := by decide +kernel
theorem dX1_push_18 : decode cX1_push 18 = .ok (.goto 4, 3) := by decide +kernel
theorem dX1_push_21 : decode cX1_push 21 = .ok (.iconst 0, 1) := by decide +kernel
theorem dX1_push_22 : decode cX1_push 22 = .ok (.putfield 18, 3) := by decide +kernel
theorem dX1_push_25 : decode cX1_push 25 = .ok (.aload_n 0, 1) := by decide +kernel
theorem dX1_push_26 : decode cX1_push 26 = .ok (.getfield 11, 3) := by decide +kernel
theorem dX1_push_29 : decode cX1_push 29 = .ok (.aload_n 0, 1) := by decide +kernel
theorem dX1_push_30 : decode cX1_push 30 = .ok (.getfield 18, 3) := by decide +kernel
theorem dX1_push_33 : decode cX1_push 33 = .ok (.aaload, 1) := by decide +kernel
theorem dX1_push_34 : decode cX1_push 34 = .ok (.aload_n 1, 1) := by decide +kernel
theorem dX1_push_35 : decode cX1_push 35 = .ok (.invokevirtual 22, 3) := by decide +kernel
theorem dX1_push_38 : decode cX1_push 38 = .ok (.aload_n 0, 1) := by decide +kernel
theorem dX1_push_39 : decode cX1_push 39 = .ok (.aload_n 0, 1) := by decide +kernel
theorem dX1_push_40 : decode cX1_push 40 = .ok (.getfield 26, 3) := by decide +kernel
theorem dX1_push_43 : decode cX1_push 43 = .ok (.bipush 8, 2) := by decide +kernel
theorem dX1_push_45 : decode cX1_push 45 = .ok (.if_icmp .ge 12, 3) := by decide +kernel
theorem dX1_push_48 : decode cX1_push 48 = .ok (.aload_n 0, 1) := by decide +kernel
theorem dX1_push_49 : decode cX1_push 49 = .ok (.getfield 26, 3) := by decide +kernel
theorem dX1_push_52 : decode cX1_push 52 = .ok (.iconst 1, 1) := by decide +kernel
theorem dX1_push_53 : decode cX1_push 53 = .ok (.iadd, 1) := by decide +kernel
theorem dX1_push_54 : decode cX1_push 54 = .ok (.goto 7, 3) := by decide +kernel
theorem dX1_push_57 : decode cX1_push 57 = .ok (.aload_n 0, 1) := by decide +kernel
theorem dX1_push_58 : decode cX1_push 58 = .ok (.getfield 26, 3) := by decide +kernel
theorem dX1_push_61 : decode cX1_push 61 = .ok (.putfield 26, 3) := by decide +kernel
theorem dX1_push_64 : decode cX1_push 64 = .ok (.return_, 1) := by decide +kernel
set_option maxRecDepth 20000 in
theorem ggX1_pop_X2_copy : GoodIn wsX1_pop wsX2_copy := goodIn_r _ [8, 9, 10, 11, 12, 13, 14, 15, 16, 17, 18, 22, 23, 24, 25, 26, 27] (by decide +kernel) (by decide +kernel)
set_option maxRecDepth 20000 in
theorem gX1_pop_X2_copy : GoodIn wsX1_pop (wsV RX1 22 RX2 yX2_copy wsX2_copy) := goodIn_app (goodIn_of _ (by decide +kernel)) ggX1_pop_X2_copy
theorem dX1_pop_0 : decode cX1_pop 0 = .ok (.aload_n 1, 1) := by decide +kernel
theorem dX1_pop_1 : decode cX1_pop 1 = .ok (.aload_n 0, 1) := by decide +kernel
theorem dX1_pop_2 : decode cX1_pop 2 = .ok (.getfield 11, 3) := by decide +kernel
theorem dX1_pop_5 : decode cX1_pop 5 = .ok (.aload_n 0, 1) := by decide +kernel
theorem dX1_pop_6 : decode cX1_pop 6 = .ok (.getfield 18, 3) := by decide +kernel
theorem dX1_pop_9 : decode cX1_pop 9 = .ok (.aaload, 1) := by decide +kernel
theorem dX1_pop_10 : decode cX1_pop 10 = .ok (.invokevirtual 22, 3) := by decide +kernel
theorem dX1_pop_13 : decode cX1_pop 13 = .ok (.aload_n 0, 1) := by decide +kernel
theorem dX1_pop_14 : decode cX1_pop 14 = .ok (.aload_n 0, 1) := by decide +kernel
theorem dX1_pop_15 : decode cX1_pop 15 = .ok (.getfield 18, 3) := by decide +kernel
theorem dX1_pop_18 : decode cX1_pop 18 = .ok (.ifCond .le 12, 3) := by decide +kernel
theorem dX1_pop_21 : decode cX1_pop 21 = .ok (.aload_n 0, 1) := by decide +kernel
theorem dX1_pop_22 : decode cX1_pop 22 = .ok (.getfield 18, 3) := by decide +kernel
theorem dX1_pop_25 : decode cX1_pop 25 = .ok (.iconst 1, 1) := by decide +kernel
theorem dX1_pop_26 : decode cX1_pop 26 = .ok (.isub, 1) := by decide +kernel
theorem dX1_pop_27 : decode cX1_pop 27 = .ok (.goto 5, 3) := by decide +kernel
theorem dX1_pop_30 : decode cX1_pop 30 = .ok (.bipush 7, 2) := by decide +kernel
theorem dX1_pop_32 : decode cX1_pop 32 = .ok (.putfield 18, 3) := by decide +kernel
theorem dX1_pop_35 : decode cX1_pop 35 = .ok (.aload_n 0, 1) := by decide +kernel
theorem dX1_pop_36 : decode cX1_pop 36 = .ok (.dup, 1) := by decide +kernel
theorem dX1_pop_37 : decode cX1_pop 37 = .ok (.getfield 26, 3) := by decide +kernel
theorem dX1_pop_40 : decode cX1_pop 40 = .ok (.iconst 1, 1) := by decide +kernel
theorem dX1_pop_41 : decode cX1_pop 41 = .ok (.isub, 1) := by decide +kernel
theorem dX1_pop_42 : decode cX1_pop 42 = .ok (.putfield 26, 3) := by decide +kernel
theorem dX1_pop_45 : decode cX1_pop 45 = .ok (.return_, 1) := by decide +kernel
theorem dX2_init_0 : decode cX2_init 0 = .ok (.aload_n 0, 1) := by decide +kernel
theorem dX2_init_1 : decode cX2_init 1 = .ok (.invokespecial 3, 3) := by decide +kernel
theorem dX2_init_4 : decode cX2_init 4 = .ok (.aload_n 0, 1) := by decide +kernel
theorem dX2_init_5 : decode cX2_init 5 = .ok (.bipush 16, 2) := by decide +kernel
theorem dX2_init_7 : decode cX2_init 7 = .ok (.putfield 9, 3) := by decide +kernel
theorem dX2_init_10 : decode cX2_init 10 = .ok (.aload_n 0, 1) := by decide +kernel
theorem dX2_init_11 : decode cX2_init 11 = .ok (.iconst 1, 1) := by decide +kernel
theorem dX2_init_12 : decode cX2_init 12 = .ok (.putfield 15, 3) := by decide +kernel
theorem dX2_init_15 : decode cX2_init 15 = .ok (.aload_n 0, 1) := by decide +kernel
theorem dX2_init_16 : decode cX2_init 16 = .ok (.bipush 64, 2) := by decide +kernel
theorem dX2_init_18 : decode cX2_init 18 = .ok (.newarray .int, 2) := by decide +kernel
theorem dX2_init_20 : decode cX2_init 20 = .ok (.putfield 18, 3) := by decide +kernel
theorem dX2_init_23 : decode cX2_init 23 = .ok (.aload_n 0, 1) := by decide +kernel
theorem dX2_init_24 : decode cX2_init 24 = .ok (.getstatic 22, 3) := by decide +kernel
theorem dX2_init_27 : decode cX2_init 27 = .ok (.invokevirtual 25, 3) := by decide +kernel
theorem dX2_init_30 : decode cX2_init 30 = .ok (.checkcast 26, 3) := by decide +kernel
theorem dX2_init_33 : decode cX2_init 33 = .ok (.putfield 30, 3) := by decide +kernel
theorem dX2_init_36 : decode cX2_init 36 = .ok (.aload_n 0, 1) := by decide +kernel
theorem dX2_init_37 : decode cX2_init 37 = .ok (.bipush 16, 2) := by decide +kernel
theorem dX2_init_39 : decode cX2_init 39 = .ok (.newarray .int, 2) := by decide +kernel
theorem dX2_init_41 : decode cX2_init 41 = .ok (.putfield 33, 3) := by decide +kernel
theorem dX2_init_44 : decode cX2_init 44 = .ok (.aload_n 0, 1) := by decide +kernel
theorem dX2_init_45 : decode cX2_init 45 = .ok (.bipush 16, 2) := by decide +kernel
theorem dX2_init_47 : decode cX2_init 47 = .ok (.newarray .int, 2) := by decide +kernel
theorem dX2_init_49 : decode cX2_init 49 = .ok (.putfield 36, 3) := by decide +kernel
theorem dX2_init_52 : decode cX2_init 52 = .ok (.return_, 1) := by decide +kernel
theorem dX2_copy_0 : decode cX2_copy 0 = .ok (.aload_n 0, 1) := by decide +kernel
theorem dX2_copy_1 : decode cX2_copy 1 = .ok (.aload_n 1, 1) := by decide +kernel
theorem dX2_copy_2 : decode cX2_copy 2 = .ok (.getfield 9, 3) := by decide +kernel
theorem dX2_copy_5 : decode cX2_copy 5 = .ok (.putfield 9, 3) := by decide +kernel
theorem dX2_copy_8 : decode cX2_copy 8 = .ok (.aload_n 0, 1) := by decide +kernel
theorem dX2_copy_9 : decode cX2_copy 9 = .ok (.aload_n 1, 1) := by decide +kernel
theorem dX2_copy_10 : decode cX2_copy 10 = .ok (.getfield 15, 3) := by decide +kernel
theorem dX2_copy_13 : decode cX2_copy 13 = .ok (.putfield 15, 3) := by decide +kernel
theorem dX2_copy_16 : decode cX2_copy 16 = .ok (.aload_n 1, 1) := by decide +kernel
theorem dX2_copy_17 : decode cX2_copy 17 = .ok (.getfield 18, 3) := by decide +kernel
theorem dX2_copy_20 : decode cX2_copy 20 = .ok (.iconst 0, 1) := by decide +kernel
theorem dX2_copy_21 : decode cX2_copy 21 = .ok (.aload_n 0, 1) := by decide +kernel
theorem dX2_copy_22 : decode cX2_copy 22 = .ok (.getfield 18, 3) := by decide +kernel
theorem dX2_copy_25 : decode cX2_copy 25 = .ok (.iconst 0, 1) := by decide +kernel
theorem dX2_copy_26 : decode cX2_copy 26 = .ok (.bipush 64, 2) := by decide +kernel
theorem dX2_copy_28 : decode cX2_copy 28 = .ok (.invokestatic 39, 3) := by decide +kernel
theorem dX2_copy_31 : decode cX2_copy 31 = .ok (.aload_n 1, 1) := by decide +kernel
theorem dX2_copy_32 : decode cX2_copy 32 = .ok (.getfield 30, 3) := by decide +kernel
theorem dX2_copy_35 : decode cX2_copy 35 = .ok (.iconst 0, 1) := by decide +kernel
theorem dX2_copy_36 : decode cX2_copy 36 = .ok (.aload_n 0, 1) := by decide +kernel
theorem dX2_copy_37 : decode cX2_copy 37 = .ok (.getfield 30, 3) := by decide +kernel
theorem dX2_copy_40 : decode cX2_copy 40 = .ok (.iconst 0, 1) := by decide +kernel
theorem dX2_copy_41 : decode cX2_copy 41 = .ok (.bipush 9, 2) := by decide +kernel
theorem dX2_copy_43 : decode cX2_copy 43 = .ok (.invokestatic 39, 3) := by decide +kernel
theorem dX2_copy_46 : decode cX2_copy 46 = .ok (.aload_n 1, 1) := by decide +kernel
theorem dX2_copy_47 : decode cX2_copy 47 = .ok (.getfield 33, 3) := by decide +kernel
theorem dX2_copy_50 : decode cX2_copy 50 = .ok (.iconst 0, 1) := by decide +kernel
theorem dX2_copy_51 : decode cX2_copy 51 = .ok (.aload_n 0, 1) := by decide +kernel
theorem dX2_copy_52 : decode cX2_copy 52 = .ok (.getfield 33, 3) := by decide +kernel
theorem dX2_copy_55 : decode cX2_copy 55 = .ok (.iconst 0, 1) := by decide +kernel
theorem dX2_copy_56 : decode cX2_copy 56 = .ok (.bipush 16, 2) := by decide +kernel
theorem dX2_copy_58 : decode cX2_copy 58 = .ok (.invokestatic 39, 3) := by decide +kernel
theorem dX2_copy_61 : decode cX2_copy 61 = .ok (.aload_n 1, 1) := by decide +kernel
theorem dX2_copy_62 : decode cX2_copy 62 = .ok (.getfield 36, 3) := by decide +kernel
theorem dX2_copy_65 : decode cX2_copy 65 = .ok (.iconst 0, 1) := by decide +kernel
theorem dX2_copy_66 : decode cX2_copy 66 = .ok (.aload_n 0, 1) := by decide +kernel
theorem dX2_copy_67 : decode cX2_copy 67 = .ok (.getfield 36, 3) := by decide +kernel
theorem dX2_copy_70 : decode cX2_copy 70 = .ok (.iconst 0, 1) := by decide +kernel
theorem dX2_copy_71 : decode cX2_copy 71 = .ok (.bipush 16, 2) := by decide +kernel
theorem dX2_copy_73 : decode cX2_copy 73 = .ok (.invokestatic 39, 3) := by decide +kernel
theorem dX2_copy_76 : decode cX2_copy 76 = .ok (.return_, 1) := by decide +kernel
set_option maxRecDepth 20000 in
theorem ggX2_clear_X2_resetSequence : GoodIn wsX2_clear wsX2_resetSequence := goodIn_r _ [8, 9, 10, 11, 12, 13, 14, 15] (by decide +kernel) (by decide +kernel)
set_option maxRecDepth 20000 in
theorem gX2_clear_X2_resetSequence : GoodIn wsX2_clear (wsV RX2 45 RX2 yX2_resetSequence wsX2_resetSequence) := goodIn_app (goodIn_of _ (by decide +kernel)) ggX2_clear_X2_resetSequence
theorem dX2_clear_0 : decode cX2_clear 0 = .ok (.aload_n 0, 1) := by decide +kernel
theorem dX2_clear_1 : decode cX2_clear 1 = .ok (.iload_n 1, 1) := by decide +kernel
theorem dX2_clear_2 : decode cX2_clear 2 = .ok (.putfield 9, 3) := by decide +kernel
theorem dX2_clear_5 : decode cX2_clear 5 = .ok (.iconst 0, 1) := by decide +kernel
theorem dX2_clear_6 : decode cX2_clear 6 = .ok (.istore_n 2, 1) := by decide +kernel
theorem dX2_clear_7 : decode cX2_clear 7 = .ok (.iload_n 2, 1) := by decide +kernel
theorem dX2_clear_8 : decode cX2_clear 8 = .ok (.bipush 64, 2) := by decide +kernel
theorem dX2_clear_10 : decode cX2_clear 10 = .ok (.if_icmp .ge 16, 3) := by decide +kernel
theorem dX2_clear_13 : decode cX2_clear 13 = .ok (.aload_n 0, 1) := by decide +kernel
theorem dX2_clear_14 : decode cX2_clear 14 = .ok (.getfield 18, 3) := by decide +kernel
theorem dX2_clear_17 : decode cX2_clear 17 = .ok (.iload_n 2, 1) := by decide +kernel
theorem dX2_clear_18 : decode cX2_clear 18 = .ok (.iconst 0, 1) := by decide +kernel
theorem dX2_clear_19 : decode cX2_clear 19 = .ok (.iastore, 1) := by decide +kernel
theorem dX2_clear_20 : decode cX2_clear 20 = .ok (.iinc 2 1, 3) := by decide +kernel
theorem dX2_clear_23 : decode cX2_clear 23 = .ok (.goto (-16), 3) := by decide +kernel
theorem dX2_clear_26 : decode cX2_clear 26 = .ok (.aload_n 0, 1) := by decide +kernel
theorem dX2_clear_27 : decode cX2_clear 27 = .ok (.iconst 1, 1) := by decide +kernel
theorem dX2_clear_28 : decode cX2_clear 28 = .ok (.putfield 15, 3) := by decide +kernel
theorem dX2_clear_31 : decode cX2_clear 31 = .ok (.aload_n 0, 1) := by decide +kernel
theorem dX2_clear_32 : decode cX2_clear 32 = .ok (.invokevirtual 45, 3) := by decide +kernel
theorem dX2_clear_35 : decode cX2_clear 35 = .ok (.return_, 1) := by decide +kernel
theorem dX2_resetSequence_0 : decode cX2_resetSequence 0 = .ok (.iconst 0, 1) := by decide +kernel
theorem dX2_resetSequence_1 : decode cX2_resetSequence 1 = .ok (.istore_n 1, 1) := by decide +kernel
theorem dX2_resetSequence_2 : decode cX2_resetSequence 2 = .ok (.iload_n 1, 1) := by decide +kernel
theorem dX2_resetSequence_3 : decode cX2_resetSequence 3 = .ok (.bipush 16, 2) := by decide +kernel
theorem dX2_resetSequence_5 : decode cX2_resetSequence 5 = .ok (.if_icmp .ge 16, 3) := by decide +kernel
theorem dX2_resetSequence_8 : decode cX2_resetSequence 8 = .ok (.aload_n 0, 1) := by decide +kernel
theorem dX2_resetSequence_9 : decode cX2_resetSequence 9 = .ok (.getfield 36, 3) := by decide +kernel
theorem dX2_resetSequence_12 : decode cX2_resetSequence 12 = .ok (.iload_n 1, 1) := by decide +kernel
theorem dX2_resetSequence_13 : decode cX2_resetSequence 13 = .ok (.iload_n 1, 1) := by decide +kernel
theorem dX2_resetSequence_14 : decode cX2_resetSequence 14 = .ok (.iastore, 1) := by decide +kernel
theorem dX2_resetSequence_15 : decode cX2_resetSequence 15 = .ok (.iinc 1 1, 3) := by decide +kernel
theorem dX2_resetSequence_18 : decode cX2_resetSequence 18 = .ok (.goto (-16), 3) := by decide +kernel
theorem dX2_resetSequence_21 : decode cX2_resetSequence 21 = .ok (.return_, 1) := by decide +kernel
theorem dX2_isFrame_0 : decode cX2_isFrame 0 = .ok (.iload_n 1, 1) := by decide +kernel
theorem dX2_isFrame_1 : decode cX2_isFrame 1 = .ok (.ifCond .lt 15, 3) := by decide +kernel
theorem dX2_isFrame_4 : decode cX2_isFrame 4 = .ok (.iload_n 1, 1) := by decide +kernel
theorem dX2_isFrame_5 : decode cX2_isFrame 5 = .ok (.aload_n 0, 1) := by decide +kernel
theorem dX2_isFrame_6 : decode cX2_isFrame 6 = .ok (.getfield 9, 3) := by decide +kernel
theorem dX2_isFrame_9 : decode cX2_isFrame 9 = .ok (.if_icmp .ge 7, 3) := by decide +kernel
theorem dX2_isFrame_12 : decode cX2_isFrame 12 = .ok (.iconst 1, 1) := by decide +kernel
theorem dX2_isFrame_13 : decode cX2_isFrame 13 = .ok (.goto 4, 3) := by decide +kernel
theorem dX2_isFrame_16 : decode cX2_isFrame 16 = .ok (.iconst 0, 1) := by decide +kernel
theorem dX2_isFrame_17 : decode cX2_isFrame 17 = .ok (.ireturn, 1) := by decide +kernel
theorem dX2_isSlice_0 : decode cX2_isSlice 0 = .ok (.iload_n 1, 1) := by decide +kernel
theorem dX2_isSlice_1 : decode cX2_isSlice 1 = .ok (.ifCond .lt 15, 3) := by decide +kernel
theorem dX2_isSlice_4 : decode cX2_isSlice 4 = .ok (.iload_n 1, 1) := by decide +kernel
theorem dX2_isSlice_5 : decode cX2_isSlice 5 = .ok (.aload_n 0, 1) := by decide +kernel
theorem dX2_isSlice_6 : decode cX2_isSlice 6 = .ok (.getfield 15, 3) := by decide +kernel
theorem dX2_isSlice_9 : decode cX2_isSlice 9 = .ok (.if_icmp .ge 7, 3) := by decide +kernel
theorem dX2_isSlice_12 : decode cX2_isSlice 12 = .ok (.iconst 1, 1) := by decide +kernel
theorem dX2_isSlice_13 : decode cX2_isSlice 13 = .ok (.goto 4, 3) := by decide +kernel
theorem dX2_isSlice_16 : decode cX2_isSlice 16 = .ok (.iconst 0, 1) := by decide +kernel
theorem dX2_isSlice_17 : decode cX2_isSlice 17 = .ok (.ireturn, 1) := by decide +kernel
theorem dX2_isFree_0 : decode cX2_isFree 0 = .ok (.aload_n 0, 1) := by decide +kernel
theorem dX2_isFree_1 : decode cX2_isFree 1 = .ok (.getfield 30, 3) := by decide +kernel
theorem dX2_isFree_4 : decode cX2_isFree 4 = .ok (.bipush 7, 2) := by decide +kernel
theorem dX2_isFree_6 : decode cX2_isFree 6 = .ok (.iaload, 1) := by decide +kernel
theorem dX2_isFree_7 : decode cX2_isFree 7 = .ok (.ifCond .ne 7, 3) := by decide +kernel
theorem dX2_isFree_10 : decode cX2_isFree 10 = .ok (.iconst 1, 1) := by decide +kernel
theorem dX2_isFree_11 : decode cX2_isFree 11 = .ok (.goto 4, 3) := by decide +kernel
theorem dX2_isFree_14 : decode cX2_isFree 14 = .ok (.iconst 0, 1) := by decide +kernel
theorem dX2_isFree_15 : decode cX2_isFree 15 = .ok (.ireturn, 1) := by decide +kernel
theorem dX2_endFrame_0 : decode cX2_endFrame 0 = .ok (.iload_n 1, 1) := by decide +kernel
theorem dX2_endFrame_1 : decode cX2_endFrame 1 = .ok (.iconst 1, 1) := by decide +kernel
theorem dX2_endFrame_2 : decode cX2_endFrame 2 = .ok (.iadd, 1) := by decide +kernel
theorem dX2_endFrame_3 : decode cX2_endFrame 3 = .ok (.aload_n 0, 1) := by decide +kernel
theorem dX2_endFrame_4 : decode cX2_endFrame 4 = .ok (.getfield 15, 3) := by decide +kernel
theorem dX2_endFrame_7 : decode cX2_endFrame 7 = .ok (.if_icmp .ge 14, 3) := by decide +kernel
theorem dX2_endFrame_10 : decode cX2_endFrame 10 = .ok (.aload_n 0, 1) := by decide +kernel
theorem dX2_endFrame_11 : decode cX2_endFrame 11 = .ok (.getfield 33, 3) := by decide +kernel
theorem dX2_endFrame_14 : decode cX2_endFrame 14 = .ok (.iload_n 1, 1) := by decide +kernel
theorem dX2_endFrame_15 : decode cX2_endFrame 15 = .ok (.iconst 1, 1) := by decide +kernel
theorem dX2_endFrame_16 : decode cX2_endFrame 16 = .ok (.iadd, 1) := by decide +kernel
theorem dX2_endFrame_17 : decode cX2_endFrame 17 = .ok (.iaload, 1) := by decide +kernel
theorem dX2_endFrame_18 : decode cX2_endFrame 18 = .ok (.goto 7, 3) := by decide +kernel
theorem dX2_endFrame_21 : decode cX2_endFrame 21 = .ok (.aload_n 0, 1) := by decide +kernel
theorem dX2_endFrame_22 : decode cX2_endFrame 22 = .ok (.getfield 9, 3) := by decide +kernel
theorem dX2_endFrame_25 : decode cX2_endFrame 25 = .ok (.ireturn, 1) := by decide +kernel
set_option maxRecDepth 20000 in
theorem ggX2_lengthOf_X2_endFrame : GoodIn wsX2_lengthOf wsX2_endFrame := goodIn_r _ [7, 8, 1, 9, 10, 11, 12, 13, 14, 15] (by decide +kernel) (by decide +kernel)
set_option maxRecDepth 20000 in
theorem gX2_lengthOf_X2_endFrame : GoodIn wsX2_lengthOf (wsV RX2 48 RX2 yX2_endFrame wsX2_endFrame) := goodIn_app (goodIn_of _ (by decide +kernel)) ggX2_lengthOf_X2_endFrame
theorem dX2_lengthOf_0 : decode cX2_lengthOf 0 = .ok (.aload_n 0, 1) := by decide +kernel
theorem dX2_lengthOf_1 : decode cX2_lengthOf 1 = .ok (.iload_n 1, 1) := by decide +kernel
theorem dX2_lengthOf_2 : decode cX2_lengthOf 2 = .ok (.invokevirtual 48, 3) := by decide +kernel
theorem dX2_lengthOf_5 : decode cX2_lengthOf 5 = .ok (.aload_n 0, 1) := by decide +kernel
theorem dX2_lengthOf_6 : decode cX2_lengthOf 6 = .ok (.getfield 33, 3) := by decide +kernel
theorem dX2_lengthOf_9 : decode cX2_lengthOf 9 = .ok (.iload_n 1, 1) := by decide +kernel
theorem dX2_lengthOf_10 : decode cX2_lengthOf 10 = .ok (.iaload, 1) := by decide +kernel
theorem dX2_lengthOf_11 : decode cX2_lengthOf 11 = .ok (.isub, 1) := by decide +kernel
theorem dX2_lengthOf_12 : decode cX2_lengthOf 12 = .ok (.aload_n 0, 1) := by decide +kernel
theorem dX2_lengthOf_13 : decode cX2_lengthOf 13 = .ok (.getfield 30, 3) := by decide +kernel
theorem dX2_lengthOf_16 : decode cX2_lengthOf 16 = .ok (.iconst 0, 1) := by decide +kernel
theorem dX2_lengthOf_17 : decode cX2_lengthOf 17 = .ok (.iaload, 1) := by decide +kernel
theorem dX2_lengthOf_18 : decode cX2_lengthOf 18 = .ok (.imul, 1) := by decide +kernel
theorem dX2_lengthOf_19 : decode cX2_lengthOf 19 = .ok (.ireturn, 1) := by decide +kernel
theorem dX2_leastBudget_0 : decode cX2_leastBudget 0 = .ok (.iload_n 1, 1) := by decide +kernel
theorem dX2_leastBudget_1 : decode cX2_leastBudget 1 = .ok (.aload_n 0, 1) := by decide +kernel
theorem dX2_leastBudget_2 : decode cX2_leastBudget 2 = .ok (.getfield 30, 3) := by decide +kernel
theorem dX2_leastBudget_5 : decode cX2_leastBudget 5 = .ok (.iconst 3, 1) := by decide +kernel
theorem dX2_leastBudget_6 : decode cX2_leastBudget 6 = .ok (.iaload, 1) := by decide +kernel
theorem dX2_leastBudget_7 : decode cX2_leastBudget 7 = .ok (.imul, 1) := by decide +kernel
theorem dX2_leastBudget_8 : decode cX2_leastBudget 8 = .ok (.bipush 100, 2) := by decide +kernel
theorem dX2_leastBudget_10 : decode cX2_leastBudget 10 = .ok (.idiv, 1) := by decide +kernel
theorem dX2_leastBudget_11 : decode cX2_leastBudget 11 = .ok (.ireturn, 1) := by decide +kernel
theorem dX2_mostBudget_0 : decode cX2_mostBudget 0 = .ok (.iload_n 1, 1) := by decide +kernel
theorem dX2_mostBudget_1 : decode cX2_mostBudget 1 = .ok (.aload_n 0, 1) := by decide +kernel
theorem dX2_mostBudget_2 : decode cX2_mostBudget 2 = .ok (.getfield 30, 3) := by decide +kernel
theorem dX2_mostBudget_5 : decode cX2_mostBudget 5 = .ok (.iconst 4, 1) := by decide +kernel
theorem dX2_mostBudget_6 : decode cX2_mostBudget 6 = .ok (.iaload, 1) := by decide +kernel
theorem dX2_mostBudget_7 : decode cX2_mostBudget 7 = .ok (.imul, 1) := by decide +kernel
theorem dX2_mostBudget_8 : decode cX2_mostBudget 8 = .ok (.bipush 100, 2) := by decide +kernel
theorem dX2_mostBudget_10 : decode cX2_mostBudget 10 = .ok (.idiv, 1) := by decide +kernel
theorem dX2_mostBudget_11 : decode cX2_mostBudget 11 = .ok (.ireturn, 1) := by decide +kernel
set_option maxRecDepth 20000 in
theorem ggX2_loudestFrame_X2_endFrame : GoodIn wsX2_loudestFrame wsX2_endFrame := goodIn_r _ [7, 8, 1, 9, 10, 11, 12, 13, 14, 15] (by decide +kernel) (by decide +kernel)
set_option maxRecDepth 20000 in
theorem gX2_loudestFrame_X2_endFrame : GoodIn wsX2_loudestFrame (wsV RX2 48 RX2 yX2_endFrame wsX2_endFrame) := goodIn_app (goodIn_of _ (by decide +kernel)) ggX2_loudestFrame_X2_endFrame
theorem dX2_loudestFrame_0 : decode cX2_loudestFrame 0 = .ok (.aload_n 0, 1) := by decide +kernel
theorem dX2_loudestFrame_1 : decode cX2_loudestFrame 1 = .ok (.getfield 33, 3) := by decide +kernel
theorem dX2_loudestFrame_4 : decode cX2_loudestFrame 4 = .ok (.iload_n 1, 1) := by decide +kernel
theorem dX2_loudestFrame_5 : decode cX2_loudestFrame 5 = .ok (.iaload, 1) := by decide +kernel
theorem dX2_loudestFrame_6 : decode cX2_loudestFrame 6 = .ok (.istore_n 2, 1) := by decide +kernel
theorem dX2_loudestFrame_7 : decode cX2_loudestFrame 7 = .ok (.aload_n 0, 1) := by decide +kernel
theorem dX2_loudestFrame_8 : decode cX2_loudestFrame 8 = .ok (.iload_n 1, 1) := by decide +kernel
theorem dX2_loudestFrame_9 : decode cX2_loudestFrame 9 = .ok (.invokevirtual 48, 3) := by decide +kernel
theorem dX2_loudestFrame_12 : decode cX2_loudestFrame 12 = .ok (.istore_n 3, 1) := by decide +kernel
theorem dX2_loudestFrame_13 : decode cX2_loudestFrame 13 = .ok (.iload_n 2, 1) := by decide +kernel
theorem dX2_loudestFrame_14 : decode cX2_loudestFrame 14 = .ok (.iconst 1, 1) := by decide +kernel
theorem dX2_loudestFrame_15 : decode cX2_loudestFrame 15 = .ok (.iadd, 1) := by decide +kernel
theorem dX2_loudestFrame_16 : decode cX2_loudestFrame 16 = .ok (.istore 4, 2) := by decide +kernel
theorem dX2_loudestFrame_18 : decode cX2_loudestFrame 18 = .ok (.iload 4, 2) := by decide +kernel
theorem dX2_loudestFrame_20 : decode cX2_loudestFrame 20 = .ok (.iload_n 3, 1) := by decide +kernel
theorem dX2_loudestFrame_21 : decode cX2_loudestFrame 21 = .ok (.if_icmp .ge 28, 3) := by decide +kernel
theorem dX2_loudestFrame_24 : decode cX2_loudestFrame 24 = .ok (.aload_n 0, 1) := by decide +kernel
theorem dX2_loudestFrame_25 : decode cX2_loudestFrame 25 = .ok (.getfield 18, 3) := by decide +kernel
theorem dX2_loudestFrame_28 : decode cX2_loudestFrame 28 = .ok (.iload 4, 2) := by decide +kernel
theorem dX2_loudestFrame_30 : decode cX2_loudestFrame 30 = .ok (.iaload, 1) := by decide +kernel
theorem dX2_loudestFrame_31 : decode cX2_loudestFrame 31 = .ok (.aload_n 0, 1) := by decide +kernel
theorem dX2_loudestFrame_32 : decode cX2_loudestFrame 32 = .ok (.getfield 18, 3) := by decide +kernel
theorem dX2_loudestFrame_35 : decode cX2_loudestFrame 35 = .ok (.iload_n 2, 1) := by decide +kernel
theorem dX2_loudestFrame_36 : decode cX2_loudestFrame 36 = .ok (.iaload, 1) := by decide +kernel
theorem dX2_loudestFrame_37 : decode cX2_loudestFrame 37 = .ok (.if_icmp .le 6, 3) := by decide +kernel
theorem dX2_loudestFrame_40 : decode cX2_loudestFrame 40 = .ok (.iload 4, 2) := by decide +kernel
theorem dX2_loudestFrame_42 : decode cX2_loudestFrame 42 = .ok (.istore_n 2, 1) := by decide +kernel
theorem dX2_loudestFrame_43 : decode cX2_loudestFrame 43 = .ok (.iinc 4 1, 3) := by decide +kernel
theorem dX2_loudestFrame_46 : decode cX2_loudestFrame 46 = .ok (.goto (-28), 3) := by decide +kernel
theorem dX2_loudestFrame_49 : decode cX2_loudestFrame 49 = .ok (.iload_n 2, 1) := by decide +kernel
theorem dX2_loudestFrame_50 : decode cX2_loudestFrame 50 = .ok (.ireturn, 1) := by decide +kernel
theorem dX2_placeOf_0 : decode cX2_placeOf 0 = .ok (.iconst 0, 1) := by decide +kernel
theorem dX2_placeOf_1 : decode cX2_placeOf 1 = .ok (.istore_n 2, 1) := by decide +kernel
theorem dX2_placeOf_2 : decode cX2_placeOf 2 = .ok (.iload_n 2, 1) := by decide +kernel
theorem dX2_placeOf_3 : decode cX2_placeOf 3 = .ok (.aload_n 0, 1) := by decide +kernel
theorem dX2_placeOf_4 : decode cX2_placeOf 4 = .ok (.getfield 15, 3) := by decide +kernel
theorem dX2_placeOf_7 : decode cX2_placeOf 7 = .ok (.iconst 1, 1) := by decide +kernel
theorem dX2_placeOf_8 : decode cX2_placeOf 8 = .ok (.isub, 1) := by decide +kernel
theorem dX2_placeOf_9 : decode cX2_placeOf 9 = .ok (.if_icmp .ge 19, 3) := by decide +kernel
theorem dX2_placeOf_12 : decode cX2_placeOf 12 = .ok (.aload_n 0, 1) := by decide +kernel
theorem dX2_placeOf_13 : decode cX2_placeOf 13 = .ok (.getfield 36, 3) := by decide +kernel
theorem dX2_placeOf_16 : decode cX2_placeOf 16 = .ok (.iload_n 2, 1) := by decide +kernel
theorem dX2_placeOf_17 : decode cX2_placeOf 17 = .ok (.iaload, 1) := by decide +kernel
theorem dX2_placeOf_18 : decode cX2_placeOf 18 = .ok (.iload_n 1, 1) := by decide +kernel
theorem dX2_placeOf_19 : decode cX2_placeOf 19 = .ok (.if_icmp .eq 9, 3) := by decide +kernel
theorem dX2_placeOf_22 : decode cX2_placeOf 22 = .ok (.iinc 2 1, 3) := by decide +kernel
theorem dX2_placeOf_25 : decode cX2_placeOf 25 = .ok (.goto (-23), 3) := by decide +kernel
theorem dX2_placeOf_28 : decode cX2_placeOf 28 = .ok (.iload_n 2, 1) := by decide +kernel
theorem dX2_placeOf_29 : decode cX2_placeOf 29 = .ok (.ireturn, 1) := by decide +kernel
theorem dX2_exchange_0 : decode cX2_exchange 0 = .ok (.aload_n 0, 1) := by decide +kernel
theorem dX2_exchange_1 : decode cX2_exchange 1 = .ok (.getfield 36, 3) := by decide +kernel
theorem dX2_exchange_4 : decode cX2_exchange 4 = .ok (.iload_n 1, 1) := by decide +kernel
theorem dX2_exchange_5 : decode cX2_exchange 5 = .ok (.iaload, 1) := by decide +kernel
theorem dX2_exchange_6 : decode cX2_exchange 6 = .ok (.istore_n 3, 1) := by decide +kernel
theorem dX2_exchange_7 : decode cX2_exchange 7 = .ok (.aload_n 0, 1) := by decide +kernel
theorem dX2_exchange_8 : decode cX2_exchange 8 = .ok (.getfield 36, 3) := by decide +kernel
theorem dX2_exchange_11 : decode cX2_exchange 11 = .ok (.iload_n 1, 1) := by decide +kernel
theorem dX2_exchange_12 : decode cX2_exchange 12 = .ok (.aload_n 0, 1) := by decide +kernel
theorem dX2_exchange_13 : decode cX2_exchange 13 = .ok (.getfield 36, 3) := by decide +kernel
theorem dX2_exchange_16 : decode cX2_exchange 16 = .ok (.iload_n 2, 1) := by decide +kernel
theorem dX2_exchange_17 : decode cX2_exchange 17 = .ok (.iaload, 1) := by decide +kernel
theorem dX2_exchange_18 : decode cX2_exchange 18 = .ok (.iastore, 1) := by decide +kernel
theorem dX2_exchange_19 : decode cX2_exchange 19 = .ok (.aload_n 0, 1) := by decide +kernel
theorem dX2_exchange_20 : decode cX2_exchange 20 = .ok (.getfield 36, 3) := by decide +kernel
theorem dX2_exchange_23 : decode cX2_exchange 23 = .ok (.iload_n 2, 1) := by decide +kernel
theorem dX2_exchange_24 : decode cX2_exchange 24 = .ok (.iload_n 3, 1) := by decide +kernel
theorem dX2_exchange_25 : decode cX2_exchange 25 = .ok (.iastore, 1) := by decide +kernel
theorem dX2_exchange_26 : decode cX2_exchange 26 = .ok (.return_, 1) := by decide +kernel
theorem dX2_marksBefore_0 : decode cX2_marksBefore 0 = .ok (.iconst 0, 1) := by decide +kernel
theorem dX2_marksBefore_1 : decode cX2_marksBefore 1 = .ok (.istore_n 2, 1) := by decide +kernel
theorem dX2_marksBefore_2 : decode cX2_marksBefore 2 = .ok (.iload_n 2, 1) := by decide +kernel
theorem dX2_marksBefore_3 : decode cX2_marksBefore 3 = .ok (.aload_n 0, 1) := by decide +kernel
theorem dX2_marksBefore_4 : decode cX2_marksBefore 4 = .ok (.getfield 15, 3) := by decide +kernel
theorem dX2_marksBefore_7 : decode cX2_marksBefore 7 = .ok (.if_icmp .ge 19, 3) := by decide +kernel
theorem dX2_marksBefore_10 : decode cX2_marksBefore 10 = .ok (.aload_n 0, 1) := by decide +kernel
theorem dX2_marksBefore_11 : decode cX2_marksBefore 11 = .ok (.getfield 33, 3) := by decide +kernel
theorem dX2_marksBefore_14 : decode cX2_marksBefore 14 = .ok (.iload_n 2, 1) := by decide +kernel
theorem dX2_marksBefore_15 : decode cX2_marksBefore 15 = .ok (.iaload, 1) := by decide +kernel
theorem dX2_marksBefore_16 : decode cX2_marksBefore 16 = .ok (.iload_n 1, 1) := by decide +kernel
theorem dX2_marksBefore_17 : decode cX2_marksBefore 17 = .ok (.if_icmp .ge 9, 3) := by decide +kernel
theorem dX2_marksBefore_20 : decode cX2_marksBefore 20 = .ok (.iinc 2 1, 3) := by decide +kernel
theorem dX2_marksBefore_23 : decode cX2_marksBefore 23 = .ok (.goto (-21), 3) := by decide +kernel
theorem dX2_marksBefore_26 : decode cX2_marksBefore 26 = .ok (.iload_n 2, 1) := by decide +kernel
theorem dX2_marksBefore_27 : decode cX2_marksBefore 27 = .ok (.ireturn, 1) := by decide +kernel
set_option maxRecDepth 20000 in
theorem ggX2_insertMark_X2_resetSequence : GoodIn wsX2_insertMark wsX2_resetSequence := goodIn_r _ [7, 8, 9, 10, 11, 12, 13, 14] (by decide +kernel) (by decide +kernel)
set_option maxRecDepth 20000 in
theorem gX2_insertMark_X2_resetSequence : GoodIn wsX2_insertMark (wsV RX2 45 RX2 yX2_resetSequence wsX2_resetSequence) := goodIn_app (goodIn_of _ (by decide +kernel)) ggX2_insertMark_X2_resetSequence
theorem dX2_insertMark_0 : decode cX2_insertMark 0 = .ok (.aload_n 0, 1) := by decide +kernel
theorem dX2_insertMark_1 : decode cX2_insertMark 1 = .ok (.getfield 15, 3) := by decide +kernel
theorem dX2_insertMark_4 : decode cX2_insertMark 4 = .ok (.istore_n 3, 1) := by decide +kernel
theorem dX2_insertMark_5 : decode cX2_insertMark 5 = .ok (.iload_n 3, 1) := by decide +kernel
theorem dX2_insertMark_6 : decode cX2_insertMark 6 = .ok (.iload_n 1, 1) := by decide +kernel
theorem dX2_insertMark_7 : decode cX2_insertMark 7 = .ok (.if_icmp .le 23, 3) := by decide +kernel
theorem dX2_insertMark_10 : decode cX2_insertMark 10 = .ok (.aload_n 0, 1) := by decide +kernel
theorem dX2_insertMark_11 : decode cX2_insertMark 11 = .ok (.getfield 33, 3) := by decide +kernel
theorem dX2_insertMark_14 : decode cX2_insertMark 14 = .ok (.iload_n 3, 1) := by decide +kernel
theorem dX2_insertMark_15 : decode cX2_insertMark 15 = .ok (.aload_n 0, 1) := by decide +kernel
theorem dX2_insertMark_16 : decode cX2_insertMark 16 = .ok (.getfield 33, 3) := by decide +kernel
theorem dX2_insertMark_19 : decode cX2_insertMark 19 = .ok (.iload_n 3, 1) := by decide +kernel
theorem dX2_insertMark_20 : decode cX2_insertMark 20 = .ok (.iconst 1, 1) := by decide +kernel
theorem dX2_insertMark_21 : decode cX2_insertMark 21 = .ok (.isub, 1) := by decide +kernel
theorem dX2_insertMark_22 : decode cX2_insertMark 22 = .ok (.iaload, 1) := by decide +kernel
theorem dX2_insertMark_23 : decode cX2_insertMark 23 = .ok (.iastore, 1) := by decide +kernel
theorem dX2_insertMark_24 : decode cX2_insertMark 24 = .ok (.iinc 3 (-1), 3) := by decide +kernel
theorem dX2_insertMark_27 : decode cX2_insertMark 27 = .ok (.goto (-22), 3) := by decide +kernel
theorem dX2_insertMark_30 : decode cX2_insertMark 30 = .ok (.aload_n 0, 1) := by decide +kernel
theorem dX2_insertMark_31 : decode cX2_insertMark 31 = .ok (.getfield 33, 3) := by decide +kernel
theorem dX2_insertMark_34 : decode cX2_insertMark 34 = .ok (.iload_n 1, 1) := by decide +kernel
theorem dX2_insertMark_35 : decode cX2_insertMark 35 = .ok (.iload_n 2, 1) := by decide +kernel
theorem dX2_insertMark_36 : decode cX2_insertMark 36 = .ok (.iastore, 1) := by decide +kernel
theorem dX2_insertMark_37 : decode cX2_insertMark 37 = .ok (.aload_n 0, 1) := by decide +kernel
theorem dX2_insertMark_38 : decode cX2_insertMark 38 = .ok (.dup, 1) := by decide +kernel
theorem dX2_insertMark_39 : decode cX2_insertMark 39 = .ok (.getfield 15, 3) := by decide +kernel
theorem dX2_insertMark_42 : decode cX2_insertMark 42 = .ok (.iconst 1, 1) := by decide +kernel
theorem dX2_insertMark_43 : decode cX2_insertMark 43 = .ok (.iadd, 1) := by decide +kernel
theorem dX2_insertMark_44 : decode cX2_insertMark 44 = .ok (.putfield 15, 3) := by decide +kernel
theorem dX2_insertMark_47 : decode cX2_insertMark 47 = .ok (.aload_n 0, 1) := by decide +kernel
theorem dX2_insertMark_48 : decode cX2_insertMark 48 = .ok (.invokevirtual 45, 3) := by decide +kernel
theorem dX2_insertMark_51 : decode cX2_insertMark 51 = .ok (.return_, 1) := by decide +kernel
set_option maxRecDepth 20000 in
theorem ggX2_removeMark_X2_resetSequence : GoodIn wsX2_removeMark wsX2_resetSequence := goodIn_r _ [7, 8, 9, 10, 11, 12, 13, 14] (by decide +kernel) (by decide +kernel)
set_option maxRecDepth 20000 in
theorem gX2_removeMark_X2_resetSequence : GoodIn wsX2_removeMark (wsV RX2 45 RX2 yX2_resetSequence wsX2_resetSequence) := goodIn_app (goodIn_of _ (by decide +kernel)) ggX2_removeMark_X2_resetSequence
theorem dX2_removeMark_0 : decode cX2_removeMark 0 = .ok (.iload_n 1, 1) := by decide +kernel
theorem dX2_removeMark_1 : decode cX2_removeMark 1 = .ok (.istore_n 2, 1) := by decide +kernel
theorem dX2_removeMark_2 : decode cX2_removeMark 2 = .ok (.iload_n 2, 1) := by decide +kernel
theorem dX2_removeMark_3 : decode cX2_removeMark 3 = .ok (.aload_n 0, 1) := by decide +kernel
theorem dX2_removeMark_4 : decode cX2_removeMark 4 = .ok (.getfield 15, 3) := by decide +kernel
theorem dX2_removeMark_7 : decode cX2_removeMark 7 = .ok (.iconst 1, 1) := by decide +kernel
theorem dX2_removeMark_8 : decode cX2_removeMark 8 = .ok (.isub, 1) := by decide +kernel
theorem dX2_removeMark_9 : decode cX2_removeMark 9 = .ok (.if_icmp .ge 23, 3) := by decide +kernel
theorem dX2_removeMark_12 : decode cX2_removeMark 12 = .ok (.aload_n 0, 1) := by decide +kernel
theorem dX2_removeMark_13 : decode cX2_removeMark 13 = .ok (.getfield 33, 3) := by decide +kernel
theorem dX2_removeMark_16 : decode cX2_removeMark 16 = .ok (.iload_n 2, 1) := by decide +kernel
theorem dX2_removeMark_17 : decode cX2_removeMark 17 = .ok (.aload_n 0, 1) := by decide +kernel
theorem dX2_removeMark_18 : decode cX2_removeMark 18 = .ok (.getfield 33, 3) := by decide +kernel
theorem dX2_removeMark_21 : decode cX2_removeMark 21 = .ok (.iload_n 2, 1) := by decide +kernel
theorem dX2_removeMark_22 : decode cX2_removeMark 22 = .ok (.iconst 1, 1) := by decide +kernel
theorem dX2_removeMark_23 : decode cX2_removeMark 23 = .ok (.iadd, 1) := by decide +kernel
theorem dX2_removeMark_24 : decode cX2_removeMark 24 = .ok (.iaload, 1) := by decide +kernel
theorem dX2_removeMark_25 : decode cX2_removeMark 25 = .ok (.iastore, 1) := by decide +kernel
theorem dX2_removeMark_26 : decode cX2_removeMark 26 = .ok (.iinc 2 1, 3) := by decide +kernel
theorem dX2_removeMark_29 : decode cX2_removeMark 29 = .ok (.goto (-27), 3) := by decide +kernel
theorem dX2_removeMark_32 : decode cX2_removeMark 32 = .ok (.aload_n 0, 1) := by decide +kernel
theorem dX2_removeMark_33 : decode cX2_removeMark 33 = .ok (.dup, 1) := by decide +kernel
theorem dX2_removeMark_34 : decode cX2_removeMark 34 = .ok (.getfield 15, 3) := by decide +kernel
theorem dX2_removeMark_37 : decode cX2_removeMark 37 = .ok (.iconst 1, 1) := by decide +kernel
theorem dX2_removeMark_38 : decode cX2_removeMark 38 = .ok (.isub, 1) := by decide +kernel
theorem dX2_removeMark_39 : decode cX2_removeMark 39 = .ok (.putfield 15, 3) := by decide +kernel
theorem dX2_removeMark_42 : decode cX2_removeMark 42 = .ok (.aload_n 0, 1) := by decide +kernel
theorem dX2_removeMark_43 : decode cX2_removeMark 43 = .ok (.invokevirtual 45, 3) := by decide +kernel
theorem dX2_removeMark_46 : decode cX2_removeMark 46 = .ok (.return_, 1) := by decide +kernel
theorem dX2_findRises_0 : decode cX2_findRises 0 = .ok (.aload_n 2, 1) := by decide +kernel
theorem dX2_findRises_1 : decode cX2_findRises 1 = .ok (.iconst 0, 1) := by decide +kernel
theorem dX2_findRises_2 : decode cX2_findRises 2 = .ok (.iconst 0, 1) := by decide +kernel
theorem dX2_findRises_3 : decode cX2_findRises 3 = .ok (.iastore, 1) := by decide +kernel
theorem dX2_findRises_4 : decode cX2_findRises 4 = .ok (.iconst 1, 1) := by decide +kernel
theorem dX2_findRises_5 : decode cX2_findRises 5 = .ok (.istore_n 3, 1) := by decide +kernel
theorem dX2_findRises_6 : decode cX2_findRises 6 = .ok (.iconst 1, 1) := by decide +kernel
theorem dX2_findRises_7 : decode cX2_findRises 7 = .ok (.istore 4, 2) := by decide +kernel
theorem dX2_findRises_9 : decode cX2_findRises 9 = .ok (.iload 4, 2) := by decide +kernel
theorem dX2_findRises_11 : decode cX2_findRises 11 = .ok (.aload_n 0, 1) := by decide +kernel
theorem dX2_findRises_12 : decode cX2_findRises 12 = .ok (.getfield 9, 3) := by decide +kernel
theorem dX2_findRises_15 : decode cX2_findRises 15 = .ok (.if_icmp .ge 65, 3) := by decide +kernel
theorem dX2_findRises_18 : decode cX2_findRises 18 = .ok (.iload_n 3, 1) := by decide +kernel
theorem dX2_findRises_19 : decode cX2_findRises 19 = .ok (.bipush 16, 2) := by decide +kernel
theorem dX2_findRises_21 : decode cX2_findRises 21 = .ok (.if_icmp .ge 59, 3) := by decide +kernel
theorem dX2_findRises_24 : decode cX2_findRises 24 = .ok (.aload_n 0, 1) := by decide +kernel
theorem dX2_findRises_25 : decode cX2_findRises 25 = .ok (.getfield 18, 3) := by decide +kernel
theorem dX2_findRises_28 : decode cX2_findRises 28 = .ok (.iload 4, 2) := by decide +kernel
theorem dX2_findRises_30 : decode cX2_findRises 30 = .ok (.iaload, 1) := by decide +kernel
theorem dX2_findRises_31 : decode cX2_findRises 31 = .ok (.aload_n 0, 1) := by decide +kernel
theorem dX2_findRises_32 : decode cX2_findRises 32 = .ok (.getfield 18, 3) := by decide +kernel
theorem dX2_findRises_35 : decode cX2_findRises 35 = .ok (.iload 4, 2) := by decide +kernel
theorem dX2_findRises_37 : decode cX2_findRises 37 = .ok (.iconst 1, 1) := by decide +kernel
theorem dX2_findRises_38 : decode cX2_findRises 38 = .ok (.isub, 1) := by decide +kernel
theorem dX2_findRises_39 : decode cX2_findRises 39 = .ok (.iaload, 1) := by decide +kernel
theorem dX2_findRises_40 : decode cX2_findRises 40 = .ok (.isub, 1) := by decide +kernel
theorem dX2_findRises_41 : decode cX2_findRises 41 = .ok (.istore 5, 2) := by decide +kernel
theorem dX2_findRises_43 : decode cX2_findRises 43 = .ok (.iload 5, 2) := by decide +kernel
theorem dX2_findRises_45 : decode cX2_findRises 45 = .ok (.iload_n 1, 1) := by decide +kernel
theorem dX2_findRises_46 : decode cX2_findRises 46 = .ok (.if_icmp .lt 28, 3) := by decide +kernel
theorem dX2_findRises_49 : decode cX2_findRises 49 = .ok (.iload 4, 2) := by decide +kernel
theorem dX2_findRises_51 : decode cX2_findRises 51 = .ok (.aload_n 2, 1) := by decide +kernel
theorem dX2_findRises_52 : decode cX2_findRises 52 = .ok (.iload_n 3, 1) := by decide +kernel
theorem dX2_findRises_53 : decode cX2_findRises 53 = .ok (.iconst 1, 1) := by decide +kernel
theorem dX2_findRises_54 : decode cX2_findRises 54 = .ok (.isub, 1) := by decide +kernel
theorem dX2_findRises_55 : decode cX2_findRises 55 = .ok (.iaload, 1) := by decide +kernel
theorem dX2_findRises_56 : decode cX2_findRises 56 = .ok (.isub, 1) := by decide +kernel
theorem dX2_findRises_57 : decode cX2_findRises 57 = .ok (.aload_n 0, 1) := by decide +kernel
theorem dX2_findRises_58 : decode cX2_findRises 58 = .ok (.getfield 30, 3) := by decide +kernel
theorem dX2_findRises_61 : decode cX2_findRises 61 = .ok (.iconst 2, 1) := by decide +kernel
theorem dX2_findRises_62 : decode cX2_findRises 62 = .ok (.iaload, 1) := by decide +kernel
theorem dX2_findRises_63 : decode cX2_findRises 63 = .ok (.if_icmp .lt 11, 3) := by decide +kernel
theorem dX2_findRises_66 : decode cX2_findRises 66 = .ok (.aload_n 2, 1) := by decide +kernel
theorem dX2_findRises_67 : decode cX2_findRises 67 = .ok (.iload_n 3, 1) := by decide +kernel
theorem dX2_findRises_68 : decode cX2_findRises 68 = .ok (.iload 4, 2) := by decide +kernel
theorem dX2_findRises_70 : decode cX2_findRises 70 = .ok (.iastore, 1) := by decide +kernel
theorem dX2_findRises_71 : decode cX2_findRises 71 = .ok (.iinc 3 1, 3) := by decide +kernel
theorem dX2_findRises_74 : decode cX2_findRises 74 = .ok (.iinc 4 1, 3) := by decide +kernel
theorem dX2_findRises_77 : decode cX2_findRises 77 = .ok (.goto (-68), 3) := by decide +kernel
theorem dX2_findRises_80 : decode cX2_findRises 80 = .ok (.iload_n 3, 1) := by decide +kernel
theorem dX2_findRises_81 : decode cX2_findRises 81 = .ok (.ireturn, 1) := by decide +kernel
theorem dX3_init_0 : decode cX3_init 0 = .ok (.aload_n 0, 1) := by decide +kernel
theorem dX3_init_1 : decode cX3_init 1 = .ok (.invokespecial 3, 3) := by decide +kernel
theorem dX3_init_4 : decode cX3_init 4 = .ok (.aload_n 0, 1) := by decide +kernel
theorem dX3_init_5 : decode cX3_init 5 = .ok (.bipush 16, 2) := by decide +kernel
theorem dX3_init_7 : decode cX3_init 7 = .ok (.newarray .int, 2) := by decide +kernel
theorem dX3_init_9 : decode cX3_init 9 = .ok (.putfield 9, 3) := by decide +kernel
theorem dX3_init_12 : decode cX3_init 12 = .ok (.aload_n 0, 1) := by decide +kernel
theorem dX3_init_13 : decode cX3_init 13 = .ok (.bipush 16, 2) := by decide +kernel
theorem dX3_init_15 : decode cX3_init 15 = .ok (.newarray .long, 2) := by decide +kernel
theorem dX3_init_17 : decode cX3_init 17 = .ok (.putfield 15, 3) := by decide +kernel
theorem dX3_init_20 : decode cX3_init 20 = .ok (.aload_n 0, 1) := by decide +kernel
theorem dX3_init_21 : decode cX3_init 21 = .ok (.aload_n 1, 1) := by decide +kernel
theorem dX3_init_22 : decode cX3_init 22 = .ok (.putfield 19, 3) := by decide +kernel
theorem dX3_init_25 : decode cX3_init 25 = .ok (.aload_n 0, 1) := by decide +kernel
theorem dX3_init_26 : decode cX3_init 26 = .ok (.aload_n 2, 1) := by decide +kernel
theorem dX3_init_27 : decode cX3_init 27 = .ok (.putfield 23, 3) := by decide +kernel
theorem dX3_init_30 : decode cX3_init 30 = .ok (.return_, 1) := by decide +kernel
set_option maxRecDepth 20000 in
theorem ggX3_lay_X2_isFree : GoodIn wsX3_lay wsX2_isFree := goodIn_r _ [9, 10, 104, 105, 106, 107, 108, 109] (by decide +kernel) (by decide +kernel)
set_option maxRecDepth 20000 in
theorem gX3_lay_X2_isFree : GoodIn wsX3_lay (wsV RX3 27 RX2 yX2_isFree wsX2_isFree) := goodIn_app (goodIn_of _ (by decide +kernel)) ggX3_lay_X2_isFree
set_option maxRecDepth 20000 in
theorem ggX3_lay_X3_shareFreely : GoodIn wsX3_lay wsX3_shareFreely := goodIn_r _ [15, 1, 16, 17, 3, 4, 18, 19, 20, 21, 8, 22, 23, 10, 24, 25, 26, 27, 28, 29, 30, 31, 32, 14, 33, 34, 100, 101, 102, 103, 104, 105, 106, 107, 108, 109] (by decide +kernel) (by decide +kernel)
set_option maxRecDepth 20000 in
theorem gX3_lay_X3_shareFreely : GoodIn wsX3_lay (wsV RX3 33 RX3 yX3_shareFreely wsX3_shareFreely) := goodIn_app (goodIn_of _ (by decide +kernel)) ggX3_lay_X3_shareFreely
set_option maxRecDepth 20000 in
theorem ggX3_lay_X0_draw : GoodIn wsX3_lay wsX0_draw := goodIn_r _ [39, 40, 41, 42, 43, 44, 45, 46, 38, 47, 48, 49, 50, 51, 52, 53, 54, 55, 56, 57, 58, 20, 21, 8, 22, 23, 10, 24, 25, 26, 27, 28, 29, 59, 60, 61, 62, 63, 64, 65, 66, 67, 68, 69, 70, 71, 72, 73, 74, 75, 76, 77, 78, 79, 80, 81, 82, 83, 84, 85, 86, 87, 88, 89, 90, 91, 92, 93, 94, 95, 110, 111, 112, 113, 114, 115, 116, 117, 104, 105, 106, 107, 108, 109] (by decide +kernel) (by decide +kernel)
set_option maxRecDepth 20000 in
theorem gX3_lay_X0_draw : GoodIn wsX3_lay (wsV RX3 36 RX0 yX0_draw wsX0_draw) := goodIn_app (goodIn_of _ (by decide +kernel)) ggX3_lay_X0_draw
set_option maxRecDepth 20000 in
theorem ggX3_lay_X0_budgetOf : GoodIn wsX3_lay wsX0_budgetOf := goodIn_r _ [99, 55, 42, 110, 111, 112, 113, 114, 115, 116, 117] (by decide +kernel) (by decide +kernel)
set_option maxRecDepth 20000 in
theorem gX3_lay_X0_budgetOf : GoodIn wsX3_lay (wsV RX3 45 RX0 yX0_budgetOf wsX0_budgetOf) := goodIn_app (goodIn_of _ (by decide +kernel)) ggX3_lay_X0_budgetOf
theorem dX3_lay_0 : decode cX3_lay 0 = .ok (.aload_n 0, 1) := by decide +kernel
theorem dX3_lay_1 : decode cX3_lay 1 = .ok (.getfield 19, 3) := by decide +kernel
theorem dX3_lay_4 : decode cX3_lay 4 = .ok (.invokevirtual 27, 3) := by decide +kernel
theorem dX3_lay_7 : decode cX3_lay 7 = .ok (.ifCond .eq 9, 3) := by decide +kernel
theorem dX3_lay_10 : decode cX3_lay 10 = .ok (.aload_n 0, 1) := by decide +kernel
theorem dX3_lay_11 : decode cX3_lay 11 = .ok (.invokevirtual 33, 3) := by decide +kernel
theorem dX3_lay_14 : decode cX3_lay 14 = .ok (.iconst 1, 1) := by decide +kernel
theorem dX3_lay_15 : decode cX3_lay 15 = .ok (.ireturn, 1) := by decide +kernel
theorem dX3_lay_16 : decode cX3_lay 16 = .ok (.aload_n 0, 1) := by decide +kernel
theorem dX3_lay_17 : decode cX3_lay 17 = .ok (.getfield 23, 3) := by decide +kernel
theorem dX3_lay_20 : decode cX3_lay 20 = .ok (.invokevirtual 36, 3) := by decide +kernel
theorem dX3_lay_23 : decode cX3_lay 23 = .ok (.ifCond .ne 5, 3) := by decide +kernel
theorem dX3_lay_26 : decode cX3_lay 26 = .ok (.iconst 0, 1) := by decide +kernel
theorem dX3_lay_27 : decode cX3_lay 27 = .ok (.ireturn, 1) := by decide +kernel
theorem dX3_lay_28 : decode cX3_lay 28 = .ok (.iconst 0, 1) := by decide +kernel
theorem dX3_lay_29 : decode cX3_lay 29 = .ok (.istore_n 1, 1) := by decide +kernel
theorem dX3_lay_30 : decode cX3_lay 30 = .ok (.iload_n 1, 1) := by decide +kernel
theorem dX3_lay_31 : decode cX3_lay 31 = .ok (.aload_n 0, 1) := by decide +kernel
theorem dX3_lay_32 : decode cX3_lay 32 = .ok (.getfield 19, 3) := by decide +kernel
theorem dX3_lay_35 : decode cX3_lay 35 = .ok (.getfield 41, 3) := by decide +kernel
theorem dX3_lay_38 : decode cX3_lay 38 = .ok (.if_icmp .ge 23, 3) := by decide +kernel
theorem dX3_lay_41 : decode cX3_lay 41 = .ok (.aload_n 0, 1) := by decide +kernel
theorem dX3_lay_42 : decode cX3_lay 42 = .ok (.getfield 9, 3) := by decide +kernel
theorem dX3_lay_45 : decode cX3_lay 45 = .ok (.iload_n 1, 1) := by decide +kernel
theorem dX3_lay_46 : decode cX3_lay 46 = .ok (.aload_n 0, 1) := by decide +kernel
theorem dX3_lay_47 : decode cX3_lay 47 = .ok (.getfield 23, 3) := by decide +kernel
theorem dX3_lay_50 : decode cX3_lay 50 = .ok (.iload_n 1, 1) := by decide +kernel
theorem dX3_lay_51 : decode cX3_lay 51 = .ok (.invokevirtual 45, 3) := by decide +kernel
theorem dX3_lay_54 : decode cX3_lay 54 = .ok (.iastore, 1) := by decide +kernel
theorem dX3_lay_55 : decode cX3_lay 55 = .ok (.iinc 1 1, 3) := by decide +kernel
theorem dX3_lay_58 : decode cX3_lay 58 = .ok (.goto (-28), 3) := by decide +kernel
theorem dX3_lay_61 : decode cX3_lay 61 = .ok (.iconst 1, 1) := by decide +kernel
theorem dX3_lay_62 : decode cX3_lay 62 = .ok (.ireturn, 1) := by decide +kernel
set_option maxRecDepth 20000 in
theorem ggX3_shareFreely_X2_lengthOf : GoodIn wsX3_shareFreely wsX2_lengthOf := goodIn_r _ [11, 12, 13, 14, 15, 16, 10, 17, 18, 19, 30, 31, 32, 33, 34, 35] (by decide +kernel) (by decide +kernel)
set_option maxRecDepth 20000 in
theorem gX3_shareFreely_X2_lengthOf : GoodIn wsX3_shareFreely (wsV RX3 55 RX2 yX2_lengthOf wsX2_lengthOf) := goodIn_app (goodIn_of _ (by decide +kernel)) ggX3_shareFreely_X2_lengthOf
set_option maxRecDepth 20000 in
theorem ggX3_shareFreely_X3_giveOne : GoodIn wsX3_shareFreely wsX3_giveOne := goodIn_r _ [24, 1, 4, 6, 5, 25, 26, 27, 28, 29, 30, 31, 32, 33, 34, 35] (by decide +kernel) (by decide +kernel)
set_option maxRecDepth 20000 in
theorem gX3_shareFreely_X3_giveOne : GoodIn wsX3_shareFreely (wsV RX3 58 RX3 yX3_giveOne wsX3_giveOne) := goodIn_app (goodIn_of _ (by decide +kernel)) ggX3_shareFreely_X3_giveOne
theorem dX3_shareFreely_0 : decode cX3_shareFreely 0 = .ok (.aload_n 0, 1) := by decide +kernel
theorem dX3_shareFreely_1 : decode cX3_shareFreely 1 = .ok (.getfield 19, 3) := by decide +kernel
theorem dX3_shareFreely_4 : decode cX3_shareFreely 4 = .ok (.getfield 49, 3) := by decide +kernel
theorem dX3_shareFreely_7 : decode cX3_shareFreely 7 = .ok (.iconst 5, 1) := by decide +kernel
theorem dX3_shareFreely_8 : decode cX3_shareFreely 8 = .ok (.iaload, 1) := by decide +kernel
theorem dX3_shareFreely_9 : decode cX3_shareFreely 9 = .ok (.i2l, 1) := by decide +kernel
theorem dX3_shareFreely_10 : decode cX3_shareFreely 10 = .ok (.lstore_n 1, 1) := by decide +kernel
theorem dX3_shareFreely_11 : decode cX3_shareFreely 11 = .ok (.aload_n 0, 1) := by decide +kernel
theorem dX3_shareFreely_12 : decode cX3_shareFreely 12 = .ok (.getfield 19, 3) := by decide +kernel
theorem dX3_shareFreely_15 : decode cX3_shareFreely 15 = .ok (.getfield 52, 3) := by decide +kernel
theorem dX3_shareFreely_18 : decode cX3_shareFreely 18 = .ok (.i2l, 1) := by decide +kernel
theorem dX3_shareFreely_19 : decode cX3_shareFreely 19 = .ok (.aload_n 0, 1) := by decide +kernel
theorem dX3_shareFreely_20 : decode cX3_shareFreely 20 = .ok (.getfield 19, 3) := by decide +kernel
theorem dX3_shareFreely_23 : decode cX3_shareFreely 23 = .ok (.getfield 49, 3) := by decide +kernel
theorem dX3_shareFreely_26 : decode cX3_shareFreely 26 = .ok (.iconst 0, 1) := by decide +kernel
theorem dX3_shareFreely_27 : decode cX3_shareFreely 27 = .ok (.iaload, 1) := by decide +kernel
theorem dX3_shareFreely_28 : decode cX3_shareFreely 28 = .ok (.i2l, 1) := by decide +kernel
theorem dX3_shareFreely_29 : decode cX3_shareFreely 29 = .ok (.lmul, 1) := by decide +kernel
theorem dX3_shareFreely_30 : decode cX3_shareFreely 30 = .ok (.lstore_n 3, 1) := by decide +kernel
theorem dX3_shareFreely_31 : decode cX3_shareFreely 31 = .ok (.aload_n 0, 1) := by decide +kernel
theorem dX3_shareFreely_32 : decode cX3_shareFreely 32 = .ok (.getfield 19, 3) := by decide +kernel
theorem dX3_shareFreely_35 : decode cX3_shareFreely 35 = .ok (.getfield 49, 3) := by decide +kernel
theorem dX3_shareFreely_38 : decode cX3_shareFreely 38 = .ok (.iconst 5, 1) := by decide +kernel
theorem dX3_shareFreely_39 : decode cX3_shareFreely 39 = .ok (.iaload, 1) := by decide +kernel
theorem dX3_shareFreely_40 : decode cX3_shareFreely 40 = .ok (.istore 5, 2) := by decide +kernel
theorem dX3_shareFreely_42 : decode cX3_shareFreely 42 = .ok (.iconst 0, 1) := by decide +kernel
theorem dX3_shareFreely_43 : decode cX3_shareFreely 43 = .ok (.istore 6, 2) := by decide +kernel
theorem dX3_shareFreely_45 : decode cX3_shareFreely 45 = .ok (.iload 6, 2) := by decide +kernel
theorem dX3_shareFreely_47 : decode cX3_shareFreely 47 = .ok (.aload_n 0, 1) := by decide +kernel
theorem dX3_shareFreely_48 : decode cX3_shareFreely 48 = .ok (.getfield 19, 3) := by decide +kernel
theorem dX3_shareFreely_51 : decode cX3_shareFreely 51 = .ok (.getfield 41, 3) := by decide +kernel
theorem dX3_shareFreely_54 : decode cX3_shareFreely 54 = .ok (.if_icmp .ge 58, 3) := by decide +kernel
theorem dX3_shareFreely_57 : decode cX3_shareFreely 57 = .ok (.aload_n 0, 1) := by decide +kernel
theorem dX3_shareFreely_58 : decode cX3_shareFreely 58 = .ok (.getfield 19, 3) := by decide +kernel
theorem dX3_shareFreely_61 : decode cX3_shareFreely 61 = .ok (.iload 6, 2) := by decide +kernel
theorem dX3_shareFreely_63 : decode cX3_shareFreely 63 = .ok (.invokevirtual 55, 3) := by decide +kernel
theorem dX3_shareFreely_66 : decode cX3_shareFreely 66 = .ok (.i2l, 1) := by decide +kernel
theorem dX3_shareFreely_67 : decode cX3_shareFreely 67 = .ok (.lload_n 1, 1) := by decide +kernel
theorem dX3_shareFreely_68 : decode cX3_shareFreely 68 = .ok (.lmul, 1) := by decide +kernel
theorem dX3_shareFreely_69 : decode cX3_shareFreely 69 = .ok (.lstore 7, 2) := by decide +kernel
theorem dX3_shareFreely_71 : decode cX3_shareFreely 71 = .ok (.aload_n 0, 1) := by decide +kernel
theorem dX3_shareFreely_72 : decode cX3_shareFreely 72 = .ok (.getfield 9, 3) := by decide +kernel
theorem dX3_shareFreely_75 : decode cX3_shareFreely 75 = .ok (.iload 6, 2) := by decide +kernel
theorem dX3_shareFreely_77 : decode cX3_shareFreely 77 = .ok (.lload 7, 2) := by decide +kernel
theorem dX3_shareFreely_79 : decode cX3_shareFreely 79 = .ok (.lload_n 3, 1) := by decide +kernel
theorem dX3_shareFreely_80 : decode cX3_shareFreely 80 = .ok (.ldiv, 1) := by decide +kernel
theorem dX3_shareFreely_81 : decode cX3_shareFreely 81 = .ok (.l2i, 1) := by decide +kernel
theorem dX3_shareFreely_82 : decode cX3_shareFreely 82 = .ok (.iastore, 1) := by decide +kernel
theorem dX3_shareFreely_83 : decode cX3_shareFreely 83 = .ok (.aload_n 0, 1) := by decide +kernel
theorem dX3_shareFreely_84 : decode cX3_shareFreely 84 = .ok (.getfield 15, 3) := by decide +kernel
theorem dX3_shareFreely_87 : decode cX3_shareFreely 87 = .ok (.iload 6, 2) := by decide +kernel
theorem dX3_shareFreely_89 : decode cX3_shareFreely 89 = .ok (.lload 7, 2) := by decide +kernel
theorem dX3_shareFreely_91 : decode cX3_shareFreely 91 = .ok (.lload_n 3, 1) := by decide +kernel
theorem dX3_shareFreely_92 : decode cX3_shareFreely 92 = .ok (.lrem, 1) := by decide +kernel
theorem dX3_shareFreely_93 : decode cX3_shareFreely 93 = .ok (.lastore, 1) := by decide +kernel
theorem dX3_shareFreely_94 : decode cX3_shareFreely 94 = .ok (.iload 5, 2) := by decide +kernel
theorem dX3_shareFreely_96 : decode cX3_shareFreely 96 = .ok (.aload_n 0, 1) := by decide +kernel
theorem dX3_shareFreely_97 : decode cX3_shareFreely 97 = .ok (.getfield 9, 3) := by decide +kernel
theorem dX3_shareFreely_100 : decode cX3_shareFreely 100 = .ok (.iload 6, 2) := by decide +kernel
theorem dX3_shareFreely_102 : decode cX3_shareFreely 102 = .ok (.iaload, 1) := by decide +kernel
theorem dX3_shareFreely_103 : decode cX3_shareFreely 103 = .ok (.isub, 1) := by decide +kernel
theorem dX3_shareFreely_104 : decode cX3_shareFreely 104 = .ok (.istore 5, 2) := by decide +kernel
theorem dX3_shareFreely_106 : decode cX3_shareFreely 106 = .ok (.iinc 6 1, 3) := by decide +kernel
theorem dX3_shareFreely_109 : decode cX3_shareFreely 109 = .ok (.goto (-64), 3) := by decide +kernel
theorem dX3_shareFreely_112 : decode cX3_shareFreely 112 = .ok (.iload 5, 2) := by decide +kernel
theorem dX3_shareFreely_114 : decode cX3_shareFreely 114 = .ok (.ifCond .le 13, 3) := by decide +kernel
theorem dX3_shareFreely_117 : decode cX3_shareFreely 117 = .ok (.aload_n 0, 1) := by decide +kernel
theorem dX3_shareFreely_118 : decode cX3_shareFreely 118 = .ok (.invokevirtual 58, 3) := by decide +kernel
theorem dX3_shareFreely_121 : decode cX3_shareFreely 121 = .ok (.iinc 5 (-1), 3) := by decide +kernel
theorem dX3_shareFreely_124 : decode cX3_shareFreely 124 = .ok (.goto (-12), 3) := by decide +kernel
theorem dX3_shareFreely_127 : decode cX3_shareFreely 127 = .ok (.return_, 1) := by decide +kernel
theorem dX3_giveOne_0 : decode cX3_giveOne 0 = .ok (.iconst 0, 1) := by decide +kernel
theorem dX3_giveOne_1 : decode cX3_giveOne 1 = .ok (.istore_n 1, 1) := by decide +kernel
theorem dX3_giveOne_2 : decode cX3_giveOne 2 = .ok (.iconst 1, 1) := by decide +kernel
theorem dX3_giveOne_3 : decode cX3_giveOne 3 = .ok (.istore_n 2, 1) := by decide +kernel
theorem dX3_giveOne_4 : decode cX3_giveOne 4 = .ok (.iload_n 2, 1) := by decide +kernel
theorem dX3_giveOne_5 : decode cX3_giveOne 5 = .ok (.aload_n 0, 1) := by decide +kernel
theorem dX3_giveOne_6 : decode cX3_giveOne 6 = .ok (.getfield 19, 3) := by decide +kernel
theorem dX3_giveOne_9 : decode cX3_giveOne 9 = .ok (.getfield 41, 3) := by decide +kernel
theorem dX3_giveOne_12 : decode cX3_giveOne 12 = .ok (.if_icmp .ge 27, 3) := by decide +kernel
theorem dX3_giveOne_15 : decode cX3_giveOne 15 = .ok (.aload_n 0, 1) := by decide +kernel
theorem dX3_giveOne_16 : decode cX3_giveOne 16 = .ok (.getfield 15, 3) := by decide +kernel
theorem dX3_giveOne_19 : decode cX3_giveOne 19 = .ok (.iload_n 2, 1) := by decide +kernel
theorem dX3_giveOne_20 : decode cX3_giveOne 20 = .ok (.laload, 1) := by decide +kernel
theorem dX3_giveOne_21 : decode cX3_giveOne 21 = .ok (.aload_n 0, 1) := by decide +kernel
theorem dX3_giveOne_22 : decode cX3_giveOne 22 = .ok (.getfield 15, 3) := by decide +kernel
theorem dX3_giveOne_25 : decode cX3_giveOne 25 = .ok (.iload_n 1, 1) := by decide +kernel
theorem dX3_giveOne_26 : decode cX3_giveOne 26 = .ok (.laload, 1) := by decide +kernel
theorem dX3_giveOne_27 : decode cX3_giveOne 27 = .ok (.lcmp, 1) := by decide +kernel
theorem dX3_giveOne_28 : decode cX3_giveOne 28 = .ok (.ifCond .le 5, 3) := by decide +kernel
theorem dX3_giveOne_31 : decode cX3_giveOne 31 = .ok (.iload_n 2, 1) := by decide +kernel
theorem dX3_giveOne_32 : decode cX3_giveOne 32 = .ok (.istore_n 1, 1) := by decide +kernel
theorem dX3_giveOne_33 : decode cX3_giveOne 33 = .ok (.iinc 2 1, 3) := by decide +kernel
theorem dX3_giveOne_36 : decode cX3_giveOne 36 = .ok (.goto (-32), 3) := by decide +kernel
theorem dX3_giveOne_39 : decode cX3_giveOne 39 = .ok (.aload_n 0, 1) := by decide +kernel
theorem dX3_giveOne_40 : decode cX3_giveOne 40 = .ok (.getfield 9, 3) := by decide +kernel
theorem dX3_giveOne_43 : decode cX3_giveOne 43 = .ok (.iload_n 1, 1) := by decide +kernel
theorem dX3_giveOne_44 : decode cX3_giveOne 44 = .ok (.dup2, 1) := by decide +kernel
theorem dX3_giveOne_45 : decode cX3_giveOne 45 = .ok (.iaload, 1) := by decide +kernel
theorem dX3_giveOne_46 : decode cX3_giveOne 46 = .ok (.iconst 1, 1) := by decide +kernel
theorem dX3_giveOne_47 : decode cX3_giveOne 47 = .ok (.iadd, 1) := by decide +kernel
theorem dX3_giveOne_48 : decode cX3_giveOne 48 = .ok (.iastore, 1) := by decide +kernel
theorem dX3_giveOne_49 : decode cX3_giveOne 49 = .ok (.aload_n 0, 1) := by decide +kernel
theorem dX3_giveOne_50 : decode cX3_giveOne 50 = .ok (.getfield 15, 3) := by decide +kernel
theorem dX3_giveOne_53 : decode cX3_giveOne 53 = .ok (.iload_n 1, 1) := by decide +kernel
theorem dX3_giveOne_54 : decode cX3_giveOne 54 = .ok (.ldc2_w 61, 3) := by decide +kernel
theorem dX3_giveOne_57 : decode cX3_giveOne 57 = .ok (.lastore, 1) := by decide +kernel
theorem dX3_giveOne_58 : decode cX3_giveOne 58 = .ok (.return_, 1) := by decide +kernel
set_option maxRecDepth 20000 in
theorem ggX3_countBeyondLimits_X2_lengthOf : GoodIn wsX3_countBeyondLimits wsX2_lengthOf := goodIn_r _ [8, 9, 10, 11, 12, 13, 7, 14, 15, 16, 29, 30, 31, 32, 33, 34] (by decide +kernel) (by decide +kernel)
set_option maxRecDepth 20000 in
theorem gX3_countBeyondLimits_X2_lengthOf : GoodIn wsX3_countBeyondLimits (wsV RX3 55 RX2 yX2_lengthOf wsX2_lengthOf) := goodIn_app (goodIn_of _ (by decide +kernel)) ggX3_countBeyondLimits_X2_lengthOf
set_option maxRecDepth 20000 in
theorem ggX3_countBeyondLimits_X2_leastBudget : GoodIn wsX3_countBeyondLimits wsX2_leastBudget := goodIn_r _ [20, 10, 29, 30, 31, 32, 33, 34] (by decide +kernel) (by decide +kernel)
set_option maxRecDepth 20000 in
theorem gX3_countBeyondLimits_X2_leastBudget : GoodIn wsX3_countBeyondLimits (wsV RX3 63 RX2 yX2_leastBudget wsX2_leastBudget) := goodIn_app (goodIn_of _ (by decide +kernel)) ggX3_countBeyondLimits_X2_leastBudget
set_option maxRecDepth 20000 in
theorem ggX3_countBeyondLimits_X2_mostBudget : GoodIn wsX3_countBeyondLimits wsX2_mostBudget := goodIn_r _ [24, 10, 29, 30, 31, 32, 33, 34] (by decide +kernel) (by decide +kernel)
set_option maxRecDepth 20000 in
theorem gX3_countBeyondLimits_X2_mostBudget : GoodIn wsX3_countBeyondLimits (wsV RX3 66 RX2 yX2_mostBudget wsX2_mostBudget) := goodIn_app (goodIn_of _ (by decide +kernel)) ggX3_countBeyondLimits_X2_mostBudget
theorem dX3_countBeyondLimits_0 : decode cX3_countBeyondLimits 0 = .ok (.iconst 0, 1) := by decide +kernel
theorem dX3_countBeyondLimits_1 : decode cX3_countBeyondLimits 1 = .ok (.istore_n 1, 1) := by decide +kernel
theorem dX3_countBeyondLimits_2 : decode cX3_countBeyondLimits 2 = .ok (.iconst 0, 1) := by decide +kernel
theorem dX3_countBeyondLimits_3 : decode cX3_countBeyondLimits 3 = .ok (.istore_n 2, 1) := by decide +kernel
theorem dX3_countBeyondLimits_4 : decode cX3_countBeyondLimits 4 = .ok (.iload_n 2, 1) := by decide +kernel
theorem dX3_countBeyondLimits_5 : decode cX3_countBeyondLimits 5 = .ok (.aload_n 0, 1) := by decide +kernel
theorem dX3_countBeyondLimits_6 : decode cX3_countBeyondLimits 6 = .ok (.getfield 19, 3) := by decide +kernel
theorem dX3_countBeyondLimits_9 : decode cX3_countBeyondLimits 9 = .ok (.getfield 41, 3) := by decide +kernel
theorem dX3_countBeyondLimits_12 : decode cX3_countBeyondLimits 12 = .ok (.if_icmp .ge 67, 3) := by decide +kernel
theorem dX3_countBeyondLimits_15 : decode cX3_countBeyondLimits 15 = .ok (.aload_n 0, 1) := by decide +kernel
theorem dX3_countBeyondLimits_16 : decode cX3_countBeyondLimits 16 = .ok (.getfield 19, 3) := by decide +kernel
theorem dX3_countBeyondLimits_19 : decode cX3_countBeyondLimits 19 = .ok (.iload_n 2, 1) := by decide +kernel
theorem dX3_countBeyondLimits_20 : decode cX3_countBeyondLimits 20 = .ok (.invokevirtual 55, 3) := by decide +kernel
theorem dX3_countBeyondLimits_23 : decode cX3_countBeyondLimits 23 = .ok (.istore_n 3, 1) := by decide +kernel
theorem dX3_countBeyondLimits_24 : decode cX3_countBeyondLimits 24 = .ok (.aload_n 0, 1) := by decide +kernel
theorem dX3_countBeyondLimits_25 : decode cX3_countBeyondLimits 25 = .ok (.getfield 9, 3) := by decide +kernel
theorem dX3_countBeyondLimits_28 : decode cX3_countBeyondLimits 28 = .ok (.iload_n 2, 1) := by decide +kernel
theorem dX3_countBeyondLimits_29 : decode cX3_countBeyondLimits 29 = .ok (.iaload, 1) := by decide +kernel
theorem dX3_countBeyondLimits_30 : decode cX3_countBeyondLimits 30 = .ok (.aload_n 0, 1) := by decide +kernel
theorem dX3_countBeyondLimits_31 : decode cX3_countBeyondLimits 31 = .ok (.getfield 19, 3) := by decide +kernel
theorem dX3_countBeyondLimits_34 : decode cX3_countBeyondLimits 34 = .ok (.iload_n 3, 1) := by decide +kernel
theorem dX3_countBeyondLimits_35 : decode cX3_countBeyondLimits 35 = .ok (.invokevirtual 63, 3) := by decide +kernel
theorem dX3_countBeyondLimits_38 : decode cX3_countBeyondLimits 38 = .ok (.if_icmp .ge 7, 3) := by decide +kernel
theorem dX3_countBeyondLimits_41 : decode cX3_countBeyondLimits 41 = .ok (.iconst 1, 1) := by decide +kernel
theorem dX3_countBeyondLimits_42 : decode cX3_countBeyondLimits 42 = .ok (.goto 4, 3) := by decide +kernel
theorem dX3_countBeyondLimits_45 : decode cX3_countBeyondLimits 45 = .ok (.iconst 0, 1) := by decide +kernel
theorem dX3_countBeyondLimits_46 : decode cX3_countBeyondLimits 46 = .ok (.istore 4, 2) := by decide +kernel
theorem dX3_countBeyondLimits_48 : decode cX3_countBeyondLimits 48 = .ok (.iload 4, 2) := by decide +kernel
theorem dX3_countBeyondLimits_50 : decode cX3_countBeyondLimits 50 = .ok (.ifCond .ne 20, 3) := by decide +kernel
theorem dX3_countBeyondLimits_53 : decode cX3_countBeyondLimits 53 = .ok (.aload_n 0, 1) := by decide +kernel
theorem dX3_countBeyondLimits_54 : decode cX3_countBeyondLimits 54 = .ok (.getfield 9, 3) := by decide +kernel
theorem dX3_countBeyondLimits_57 : decode cX3_countBeyondLimits 57 = .ok (.iload_n 2, 1) := by decide +kernel
theorem dX3_countBeyondLimits_58 : decode cX3_countBeyondLimits 58 = .ok (.iaload, 1) := by decide +kernel
theorem dX3_countBeyondLimits_59 : decode cX3_countBeyondLimits 59 = .ok (.aload_n 0, 1) := by decide +kernel
theorem dX3_countBeyondLimits_60 : decode cX3_countBeyondLimits 60 = .ok (.getfield 19, 3) := by decide +kernel
theorem dX3_countBeyondLimits_63 : decode cX3_countBeyondLimits 63 = .ok (.iload_n 3, 1) := by decide +kernel
theorem dX3_countBeyondLimits_64 : decode cX3_countBeyondLimits 64 = .ok (.invokevirtual 66, 3) := by decide +kernel
theorem dX3_countBeyondLimits_67 : decode cX3_countBeyondLimits 67 = .ok (.if_icmp .le 6, 3) := by decide +kernel
theorem dX3_countBeyondLimits_70 : decode cX3_countBeyondLimits 70 = .ok (.iinc 1 1, 3) := by decide +kernel
theorem dX3_countBeyondLimits_73 : decode cX3_countBeyondLimits 73 = .ok (.iinc 2 1, 3) := by decide +kernel
theorem dX3_countBeyondLimits_76 : decode cX3_countBeyondLimits 76 = .ok (.goto (-72), 3) := by decide +kernel
theorem dX3_countBeyondLimits_79 : decode cX3_countBeyondLimits 79 = .ok (.iload_n 1, 1) := by decide +kernel
theorem dX3_countBeyondLimits_80 : decode cX3_countBeyondLimits 80 = .ok (.ireturn, 1) := by decide +kernel
set_option maxRecDepth 20000 in
theorem ggX3_sumFades_X3_fadeAt : GoodIn wsX3_sumFades wsX3_fadeAt := goodIn_r _ [7, 1, 2, 8, 9, 10, 11, 12, 13, 14, 15, 16, 17, 18, 19, 20, 21, 22, 23, 24] (by decide +kernel) (by decide +kernel)
set_option maxRecDepth 20000 in
theorem gX3_sumFades_X3_fadeAt : GoodIn wsX3_sumFades (wsV RX3 69 RX3 yX3_fadeAt wsX3_fadeAt) := goodIn_app (goodIn_of _ (by decide +kernel)) ggX3_sumFades_X3_fadeAt
theorem dX3_sumFades_0 : decode cX3_sumFades 0 = .ok (.iconst 0, 1) := by decide +kernel
theorem dX3_sumFades_1 : decode cX3_sumFades 1 = .ok (.istore_n 1, 1) := by decide +kernel
theorem dX3_sumFades_2 : decode cX3_sumFades 2 = .ok (.iconst 0, 1) := by decide +kernel
theorem dX3_sumFades_3 : decode cX3_sumFades 3 = .ok (.istore_n 2, 1) := by decide +kernel
theorem dX3_sumFades_4 : decode cX3_sumFades 4 = .ok (.iload_n 2, 1) := by decide +kernel
theorem dX3_sumFades_5 : decode cX3_sumFades 5 = .ok (.aload_n 0, 1) := by decide +kernel
theorem dX3_sumFades_6 : decode cX3_sumFades 6 = .ok (.getfield 19, 3) := by decide +kernel
theorem dX3_sumFades_9 : decode cX3_sumFades 9 = .ok (.getfield 41, 3) := by decide +kernel
theorem dX3_sumFades_12 : decode cX3_sumFades 12 = .ok (.if_icmp .ge 17, 3) := by decide +kernel
theorem dX3_sumFades_15 : decode cX3_sumFades 15 = .ok (.iload_n 1, 1) := by decide +kernel
theorem dX3_sumFades_16 : decode cX3_sumFades 16 = .ok (.aload_n 0, 1) := by decide +kernel
theorem dX3_sumFades_17 : decode cX3_sumFades 17 = .ok (.iload_n 2, 1) := by decide +kernel
theorem dX3_sumFades_18 : decode cX3_sumFades 18 = .ok (.invokevirtual 69, 3) := by decide +kernel
theorem dX3_sumFades_21 : decode cX3_sumFades 21 = .ok (.iadd, 1) := by decide +kernel
theorem dX3_sumFades_22 : decode cX3_sumFades 22 = .ok (.istore_n 1, 1) := by decide +kernel
theorem dX3_sumFades_23 : decode cX3_sumFades 23 = .ok (.iinc 2 1, 3) := by decide +kernel
theorem dX3_sumFades_26 : decode cX3_sumFades 26 = .ok (.goto (-22), 3) := by decide +kernel
theorem dX3_sumFades_29 : decode cX3_sumFades 29 = .ok (.iload_n 1, 1) := by decide +kernel
theorem dX3_sumFades_30 : decode cX3_sumFades 30 = .ok (.ireturn, 1) := by decide +kernel
theorem dX3_fadeAt_0 : decode cX3_fadeAt 0 = .ok (.iload_n 1, 1) := by decide +kernel
theorem dX3_fadeAt_1 : decode cX3_fadeAt 1 = .ok (.iconst 1, 1) := by decide +kernel
theorem dX3_fadeAt_2 : decode cX3_fadeAt 2 = .ok (.iadd, 1) := by decide +kernel
theorem dX3_fadeAt_3 : decode cX3_fadeAt 3 = .ok (.aload_n 0, 1) := by decide +kernel
theorem dX3_fadeAt_4 : decode cX3_fadeAt 4 = .ok (.getfield 19, 3) := by decide +kernel
theorem dX3_fadeAt_7 : decode cX3_fadeAt 7 = .ok (.getfield 41, 3) := by decide +kernel
theorem dX3_fadeAt_10 : decode cX3_fadeAt 10 = .ok (.if_icmp .ge 9, 3) := by decide +kernel
theorem dX3_fadeAt_13 : decode cX3_fadeAt 13 = .ok (.iload_n 1, 1) := by decide +kernel
theorem dX3_fadeAt_14 : decode cX3_fadeAt 14 = .ok (.iconst 1, 1) := by decide +kernel
theorem dX3_fadeAt_15 : decode cX3_fadeAt 15 = .ok (.iadd, 1) := by decide +kernel
theorem dX3_fadeAt_16 : decode cX3_fadeAt 16 = .ok (.goto 4, 3) := by decide +kernel
theorem dX3_fadeAt_19 : decode cX3_fadeAt 19 = .ok (.iconst 0, 1) := by decide +kernel
theorem dX3_fadeAt_20 : decode cX3_fadeAt 20 = .ok (.istore_n 2, 1) := by decide +kernel
theorem dX3_fadeAt_21 : decode cX3_fadeAt 21 = .ok (.aload_n 0, 1) := by decide +kernel
theorem dX3_fadeAt_22 : decode cX3_fadeAt 22 = .ok (.getfield 9, 3) := by decide +kernel
theorem dX3_fadeAt_25 : decode cX3_fadeAt 25 = .ok (.aload_n 0, 1) := by decide +kernel
theorem dX3_fadeAt_26 : decode cX3_fadeAt 26 = .ok (.getfield 19, 3) := by decide +kernel
theorem dX3_fadeAt_29 : decode cX3_fadeAt 29 = .ok (.getfield 72, 3) := by decide +kernel
theorem dX3_fadeAt_32 : decode cX3_fadeAt 32 = .ok (.iload_n 1, 1) := by decide +kernel
theorem dX3_fadeAt_33 : decode cX3_fadeAt 33 = .ok (.iaload, 1) := by decide +kernel
theorem dX3_fadeAt_34 : decode cX3_fadeAt 34 = .ok (.iaload, 1) := by decide +kernel
theorem dX3_fadeAt_35 : decode cX3_fadeAt 35 = .ok (.iconst 4, 1) := by decide +kernel
theorem dX3_fadeAt_36 : decode cX3_fadeAt 36 = .ok (.idiv, 1) := by decide +kernel
theorem dX3_fadeAt_37 : decode cX3_fadeAt 37 = .ok (.istore_n 3, 1) := by decide +kernel
theorem dX3_fadeAt_38 : decode cX3_fadeAt 38 = .ok (.aload_n 0, 1) := by decide +kernel
theorem dX3_fadeAt_39 : decode cX3_fadeAt 39 = .ok (.getfield 9, 3) := by decide +kernel
theorem dX3_fadeAt_42 : decode cX3_fadeAt 42 = .ok (.aload_n 0, 1) := by decide +kernel
theorem dX3_fadeAt_43 : decode cX3_fadeAt 43 = .ok (.getfield 19, 3) := by decide +kernel
theorem dX3_fadeAt_46 : decode cX3_fadeAt 46 = .ok (.getfield 72, 3) := by decide +kernel
theorem dX3_fadeAt_49 : decode cX3_fadeAt 49 = .ok (.iload_n 2, 1) := by decide +kernel
theorem dX3_fadeAt_50 : decode cX3_fadeAt 50 = .ok (.iaload, 1) := by decide +kernel
theorem dX3_fadeAt_51 : decode cX3_fadeAt 51 = .ok (.iaload, 1) := by decide +kernel
theorem dX3_fadeAt_52 : decode cX3_fadeAt 52 = .ok (.iconst 4, 1) := by decide +kernel
theorem dX3_fadeAt_53 : decode cX3_fadeAt 53 = .ok (.idiv, 1) := by decide +kernel
theorem dX3_fadeAt_54 : decode cX3_fadeAt 54 = .ok (.istore 4, 2) := by decide +kernel
theorem dX3_fadeAt_56 : decode cX3_fadeAt 56 = .ok (.aload_n 0, 1) := by decide +kernel
theorem dX3_fadeAt_57 : decode cX3_fadeAt 57 = .ok (.getfield 19, 3) := by decide +kernel
theorem dX3_fadeAt_60 : decode cX3_fadeAt 60 = .ok (.getfield 49, 3) := by decide +kernel
theorem dX3_fadeAt_63 : decode cX3_fadeAt 63 = .ok (.bipush 8, 2) := by decide +kernel
theorem dX3_fadeAt_65 : decode cX3_fadeAt 65 = .ok (.iaload, 1) := by decide +kernel
theorem dX3_fadeAt_66 : decode cX3_fadeAt 66 = .ok (.iload_n 3, 1) := by decide +kernel
theorem dX3_fadeAt_67 : decode cX3_fadeAt 67 = .ok (.iload 4, 2) := by decide +kernel
theorem dX3_fadeAt_69 : decode cX3_fadeAt 69 = .ok (.invokestatic 75, 3) := by decide +kernel
theorem dX3_fadeAt_72 : decode cX3_fadeAt 72 = .ok (.invokestatic 75, 3) := by decide +kernel
theorem dX3_fadeAt_75 : decode cX3_fadeAt 75 = .ok (.ireturn, 1) := by decide +kernel
set_option maxRecDepth 20000 in
theorem ggX3_beginOf_X2_placeOf : GoodIn wsX3_beginOf wsX2_placeOf := goodIn_r _ [8, 9, 10, 15, 16, 17, 18, 19, 20] (by decide +kernel) (by decide +kernel)
set_option maxRecDepth 20000 in
theorem gX3_beginOf_X2_placeOf : GoodIn wsX3_beginOf (wsV RX3 81 RX2 yX2_placeOf wsX2_placeOf) := goodIn_app (goodIn_of _ (by decide +kernel)) ggX3_beginOf_X2_placeOf
theorem dX3_beginOf_0 : decode cX3_beginOf 0 = .ok (.iconst 0, 1) := by decide +kernel
theorem dX3_beginOf_1 : decode cX3_beginOf 1 = .ok (.istore_n 2, 1) := by decide +kernel
theorem dX3_beginOf_2 : decode cX3_beginOf 2 = .ok (.aload_n 0, 1) := by decide +kernel
theorem dX3_beginOf_3 : decode cX3_beginOf 3 = .ok (.getfield 19, 3) := by decide +kernel
theorem dX3_beginOf_6 : decode cX3_beginOf 6 = .ok (.iload_n 1, 1) := by decide +kernel
theorem dX3_beginOf_7 : decode cX3_beginOf 7 = .ok (.invokevirtual 81, 3) := by decide +kernel
theorem dX3_beginOf_10 : decode cX3_beginOf 10 = .ok (.istore_n 3, 1) := by decide +kernel
theorem dX3_beginOf_11 : decode cX3_beginOf 11 = .ok (.iconst 0, 1) := by decide +kernel
theorem dX3_beginOf_12 : decode cX3_beginOf 12 = .ok (.istore 4, 2) := by decide +kernel
theorem dX3_beginOf_14 : decode cX3_beginOf 14 = .ok (.iload 4, 2) := by decide +kernel
theorem dX3_beginOf_16 : decode cX3_beginOf 16 = .ok (.iload_n 3, 1) := by decide +kernel
theorem dX3_beginOf_17 : decode cX3_beginOf 17 = .ok (.if_icmp .ge 27, 3) := by decide +kernel
theorem dX3_beginOf_20 : decode cX3_beginOf 20 = .ok (.iload_n 2, 1) := by decide +kernel
theorem dX3_beginOf_21 : decode cX3_beginOf 21 = .ok (.aload_n 0, 1) := by decide +kernel
theorem dX3_beginOf_22 : decode cX3_beginOf 22 = .ok (.getfield 9, 3) := by decide +kernel
theorem dX3_beginOf_25 : decode cX3_beginOf 25 = .ok (.aload_n 0, 1) := by decide +kernel
theorem dX3_beginOf_26 : decode cX3_beginOf 26 = .ok (.getfield 19, 3) := by decide +kernel
theorem dX3_beginOf_29 : decode cX3_beginOf 29 = .ok (.getfield 72, 3) := by decide +kernel
theorem dX3_beginOf_32 : decode cX3_beginOf 32 = .ok (.iload 4, 2) := by decide +kernel
theorem dX3_beginOf_34 : decode cX3_beginOf 34 = .ok (.iaload, 1) := by decide +kernel
theorem dX3_beginOf_35 : decode cX3_beginOf 35 = .ok (.iaload, 1) := by decide +kernel
theorem dX3_beginOf_36 : decode cX3_beginOf 36 = .ok (.iadd, 1) := by decide +kernel
theorem dX3_beginOf_37 : decode cX3_beginOf 37 = .ok (.istore_n 2, 1) := by decide +kernel
theorem dX3_beginOf_38 : decode cX3_beginOf 38 = .ok (.iinc 4 1, 3) := by decide +kernel
theorem dX3_beginOf_41 : decode cX3_beginOf 41 = .ok (.goto (-27), 3) := by decide +kernel
theorem dX3_beginOf_44 : decode cX3_beginOf 44 = .ok (.iload_n 2, 1) := by decide +kernel
theorem dX3_beginOf_45 : decode cX3_beginOf 45 = .ok (.ireturn, 1) := by decide +kernel
set_option maxRecDepth 20000 in
theorem ggX3_originOf_X3_loopSample : GoodIn wsX3_originOf wsX3_loopSample := goodIn_r _ [10, 1, 5, 11, 12, 13, 14, 15, 16, 17, 18, 19, 20, 21, 22, 23, 33, 34, 35, 36, 37, 38, 39, 40, 41, 42] (by decide +kernel) (by decide +kernel)
set_option maxRecDepth 20000 in
theorem gX3_originOf_X3_loopSample : GoodIn wsX3_originOf (wsV RX3 87 RX3 yX3_loopSample wsX3_loopSample) := goodIn_app (goodIn_of _ (by decide +kernel)) ggX3_originOf_X3_loopSample
set_option maxRecDepth 20000 in
theorem ggX3_originOf_X3_fadeAt : GoodIn wsX3_originOf wsX3_fadeAt := goodIn_r _ [27, 1, 28, 5, 2, 4, 29, 30, 31, 32, 33, 34, 35, 36, 37, 38, 39, 40, 41, 42] (by decide +kernel) (by decide +kernel)
set_option maxRecDepth 20000 in
theorem gX3_originOf_X3_fadeAt : GoodIn wsX3_originOf (wsV RX3 69 RX3 yX3_fadeAt wsX3_fadeAt) := goodIn_app (goodIn_of _ (by decide +kernel)) ggX3_originOf_X3_fadeAt
theorem dX3_originOf_0 : decode cX3_originOf 0 = .ok (.aload_n 0, 1) := by decide +kernel
theorem dX3_originOf_1 : decode cX3_originOf 1 = .ok (.getfield 19, 3) := by decide +kernel
theorem dX3_originOf_4 : decode cX3_originOf 4 = .ok (.getfield 72, 3) := by decide +kernel
theorem dX3_originOf_7 : decode cX3_originOf 7 = .ok (.iload_n 1, 1) := by decide +kernel
theorem dX3_originOf_8 : decode cX3_originOf 8 = .ok (.iaload, 1) := by decide +kernel
theorem dX3_originOf_9 : decode cX3_originOf 9 = .ok (.istore 4, 2) := by decide +kernel
theorem dX3_originOf_11 : decode cX3_originOf 11 = .ok (.iload_n 3, 1) := by decide +kernel
theorem dX3_originOf_12 : decode cX3_originOf 12 = .ok (.ifCond .ne 6, 3) := by decide +kernel
theorem dX3_originOf_15 : decode cX3_originOf 15 = .ok (.iload 4, 2) := by decide +kernel
theorem dX3_originOf_17 : decode cX3_originOf 17 = .ok (.ireturn, 1) := by decide +kernel
theorem dX3_originOf_18 : decode cX3_originOf 18 = .ok (.iload_n 3, 1) := by decide +kernel
theorem dX3_originOf_19 : decode cX3_originOf 19 = .ok (.iconst 1, 1) := by decide +kernel
theorem dX3_originOf_20 : decode cX3_originOf 20 = .ok (.if_icmp .ne 32, 3) := by decide +kernel
theorem dX3_originOf_23 : decode cX3_originOf 23 = .ok (.aload_n 0, 1) := by decide +kernel
theorem dX3_originOf_24 : decode cX3_originOf 24 = .ok (.getfield 19, 3) := by decide +kernel
theorem dX3_originOf_27 : decode cX3_originOf 27 = .ok (.getfield 84, 3) := by decide +kernel
theorem dX3_originOf_30 : decode cX3_originOf 30 = .ok (.iload 4, 2) := by decide +kernel
theorem dX3_originOf_32 : decode cX3_originOf 32 = .ok (.iaload, 1) := by decide +kernel
theorem dX3_originOf_33 : decode cX3_originOf 33 = .ok (.aload_n 0, 1) := by decide +kernel
theorem dX3_originOf_34 : decode cX3_originOf 34 = .ok (.getfield 19, 3) := by decide +kernel
theorem dX3_originOf_37 : decode cX3_originOf 37 = .ok (.getfield 49, 3) := by decide +kernel
theorem dX3_originOf_40 : decode cX3_originOf 40 = .ok (.iconst 0, 1) := by decide +kernel
theorem dX3_originOf_41 : decode cX3_originOf 41 = .ok (.iaload, 1) := by decide +kernel
theorem dX3_originOf_42 : decode cX3_originOf 42 = .ok (.imul, 1) := by decide +kernel
theorem dX3_originOf_43 : decode cX3_originOf 43 = .ok (.aload_n 0, 1) := by decide +kernel
theorem dX3_originOf_44 : decode cX3_originOf 44 = .ok (.iload 4, 2) := by decide +kernel
theorem dX3_originOf_46 : decode cX3_originOf 46 = .ok (.iload_n 2, 1) := by decide +kernel
theorem dX3_originOf_47 : decode cX3_originOf 47 = .ok (.invokevirtual 87, 3) := by decide +kernel
theorem dX3_originOf_50 : decode cX3_originOf 50 = .ok (.iadd, 1) := by decide +kernel
theorem dX3_originOf_51 : decode cX3_originOf 51 = .ok (.ireturn, 1) := by decide +kernel
theorem dX3_originOf_52 : decode cX3_originOf 52 = .ok (.iload_n 2, 1) := by decide +kernel
theorem dX3_originOf_53 : decode cX3_originOf 53 = .ok (.aload_n 0, 1) := by decide +kernel
theorem dX3_originOf_54 : decode cX3_originOf 54 = .ok (.getfield 9, 3) := by decide +kernel
theorem dX3_originOf_57 : decode cX3_originOf 57 = .ok (.iload 4, 2) := by decide +kernel
theorem dX3_originOf_59 : decode cX3_originOf 59 = .ok (.iaload, 1) := by decide +kernel
theorem dX3_originOf_60 : decode cX3_originOf 60 = .ok (.aload_n 0, 1) := by decide +kernel
theorem dX3_originOf_61 : decode cX3_originOf 61 = .ok (.iload_n 1, 1) := by decide +kernel
theorem dX3_originOf_62 : decode cX3_originOf 62 = .ok (.invokevirtual 69, 3) := by decide +kernel
theorem dX3_originOf_65 : decode cX3_originOf 65 = .ok (.isub, 1) := by decide +kernel
theorem dX3_originOf_66 : decode cX3_originOf 66 = .ok (.if_icmp .lt 7, 3) := by decide +kernel
theorem dX3_originOf_69 : decode cX3_originOf 69 = .ok (.iconst 1, 1) := by decide +kernel
theorem dX3_originOf_70 : decode cX3_originOf 70 = .ok (.goto 4, 3) := by decide +kernel
theorem dX3_originOf_73 : decode cX3_originOf 73 = .ok (.iconst 0, 1) := by decide +kernel
theorem dX3_originOf_74 : decode cX3_originOf 74 = .ok (.ireturn, 1) := by decide +kernel
set_option maxRecDepth 20000 in
theorem ggX3_loopSample_X2_lengthOf : GoodIn wsX3_loopSample wsX2_lengthOf := goodIn_r _ [7, 8, 9, 10, 11, 12, 6, 13, 14, 15, 20, 21, 22, 23, 24, 25] (by decide +kernel) (by decide +kernel)
set_option maxRecDepth 20000 in
theorem gX3_loopSample_X2_lengthOf : GoodIn wsX3_loopSample (wsV RX3 55 RX2 yX2_lengthOf wsX2_lengthOf) := goodIn_app (goodIn_of _ (by decide +kernel)) ggX3_loopSample_X2_lengthOf
theorem dX3_loopSample_0 : decode cX3_loopSample 0 = .ok (.iload_n 2, 1) := by decide +kernel
theorem dX3_loopSample_1 : decode cX3_loopSample 1 = .ok (.i2l, 1) := by decide +kernel
theorem dX3_loopSample_2 : decode cX3_loopSample 2 = .ok (.aload_n 0, 1) := by decide +kernel
theorem dX3_loopSample_3 : decode cX3_loopSample 3 = .ok (.getfield 19, 3) := by decide +kernel
theorem dX3_loopSample_6 : decode cX3_loopSample 6 = .ok (.iload_n 1, 1) := by decide +kernel
theorem dX3_loopSample_7 : decode cX3_loopSample 7 = .ok (.invokevirtual 55, 3) := by decide +kernel
theorem dX3_loopSample_10 : decode cX3_loopSample 10 = .ok (.i2l, 1) := by decide +kernel
theorem dX3_loopSample_11 : decode cX3_loopSample 11 = .ok (.lmul, 1) := by decide +kernel
theorem dX3_loopSample_12 : decode cX3_loopSample 12 = .ok (.lstore_n 3, 1) := by decide +kernel
theorem dX3_loopSample_13 : decode cX3_loopSample 13 = .ok (.aload_n 0, 1) := by decide +kernel
theorem dX3_loopSample_14 : decode cX3_loopSample 14 = .ok (.getfield 9, 3) := by decide +kernel
theorem dX3_loopSample_17 : decode cX3_loopSample 17 = .ok (.iload_n 1, 1) := by decide +kernel
theorem dX3_loopSample_18 : decode cX3_loopSample 18 = .ok (.iaload, 1) := by decide +kernel
theorem dX3_loopSample_19 : decode cX3_loopSample 19 = .ok (.ifCond .le 16, 3) := by decide +kernel
theorem dX3_loopSample_22 : decode cX3_loopSample 22 = .ok (.lload_n 3, 1) := by decide +kernel
theorem dX3_loopSample_23 : decode cX3_loopSample 23 = .ok (.aload_n 0, 1) := by decide +kernel
theorem dX3_loopSample_24 : decode cX3_loopSample 24 = .ok (.getfield 9, 3) := by decide +kernel
theorem dX3_loopSample_27 : decode cX3_loopSample 27 = .ok (.iload_n 1, 1) := by decide +kernel
theorem dX3_loopSample_28 : decode cX3_loopSample 28 = .ok (.iaload, 1) := by decide +kernel
theorem dX3_loopSample_29 : decode cX3_loopSample 29 = .ok (.i2l, 1) := by decide +kernel
theorem dX3_loopSample_30 : decode cX3_loopSample 30 = .ok (.ldiv, 1) := by decide +kernel
theorem dX3_loopSample_31 : decode cX3_loopSample 31 = .ok (.l2i, 1) := by decide +kernel
theorem dX3_loopSample_32 : decode cX3_loopSample 32 = .ok (.goto 4, 3) := by decide +kernel
theorem dX3_loopSample_35 : decode cX3_loopSample 35 = .ok (.iconst 0, 1) := by decide +kernel
theorem dX3_loopSample_36 : decode cX3_loopSample 36 = .ok (.ireturn, 1) := by decide +kernel
end
section
/-! Java's numbers as whole numbers: an int is iI z, a long is lI z, for a whole number z; a row of ints is aI f for f over whole numbers -/
def iI (z : Int) : Int32 := Int32.ofInt z
def lI (z : Int) : Int64 := Int64.ofInt z
def aI (f : Int → Int) : Nat → Int32 := fun k => iI (f (k : Int))
def aL (f : Int → Int) : Nat → Int64 := fun k => lI (f (k : Int))
def ups (f : Int → Int) (i v : Int) : Int → Int := fun j => if j = i then v else f j
theorem ups_s (f : Int → Int) (i v : Int) : ups f i v i = v := if_pos rfl
theorem ups_n (f : Int → Int) {i j : Int} (v : Int) (h : j ≠ i) : ups f i v j = f j := if_neg h
theorem iI_add (a b : Int) : iI a + iI b = iI (a + b) := (Int32.ofInt_add a b).symm
theorem iI_sub (a b : Int) : iI a - iI b = iI (a - b) := (Int32.ofInt_sub a b).symm
theorem iI_mul (a b : Int) : iI a * iI b = iI (a * b) := (Int32.ofInt_mul a b).symm
theorem iI_neg (a : Int) : -iI a = iI (-a) := (Int32.ofInt_neg a).symm
theorem lI_add (a b : Int) : lI a + lI b = lI (a + b) := (Int64.ofInt_add a b).symm
theorem lI_sub (a b : Int) : lI a - lI b = lI (a - b) := (Int64.ofInt_sub a b).symm
theorem lI_mul (a b : Int) : lI a * lI b = lI (a * b) := (Int64.ofInt_mul a b).symm
theorem lI_neg (a : Int) : -lI a = lI (-a) := (Int64.ofInt_neg a).symm
theorem iI_toInt {a : Int} (h : -2147483648 ≤ a ∧ a < 2147483648) : (iI a).toInt = a := Int32.toInt_ofInt_of_le (by omega) (by omega)
theorem lI_toInt {a : Int} (h : -9223372036854775808 ≤ a ∧ a < 9223372036854775808) : (lI a).toInt = a := Int64.toInt_ofInt_of_le (by omega) (by omega)
theorem iI_of (x : Int32) : iI x.toInt = x := Int32.ofInt_toInt x
theorem iI_rng (x : Int32) : -2147483648 ≤ x.toInt ∧ x.toInt < 2147483648 := ⟨by have := Int32.le_toInt x; omega, by have := Int32.toInt_lt x; omega⟩
theorem iI_lt {a b : Int} (h : -2147483648 ≤ a ∧ a < 2147483648 ∧ -2147483648 ≤ b ∧ b < 2147483648) : iI a < iI b ↔ a < b := by
  rw [Int32.lt_iff_toInt_lt, iI_toInt ⟨h.1, h.2.1⟩, iI_toInt h.2.2]
theorem iI_le {a b : Int} (h : -2147483648 ≤ a ∧ a < 2147483648 ∧ -2147483648 ≤ b ∧ b < 2147483648) : iI a ≤ iI b ↔ a ≤ b := by
  rw [Int32.le_iff_toInt_le, iI_toInt ⟨h.1, h.2.1⟩, iI_toInt h.2.2]
theorem iI_eq {a b : Int} (h : -2147483648 ≤ a ∧ a < 2147483648 ∧ -2147483648 ≤ b ∧ b < 2147483648) : iI a = iI b ↔ a = b := by
  rw [← Int32.toInt_inj, iI_toInt ⟨h.1, h.2.1⟩, iI_toInt h.2.2]
theorem lI_lt {a b : Int} (h : -9223372036854775808 ≤ a ∧ a < 9223372036854775808 ∧ -9223372036854775808 ≤ b ∧ b < 9223372036854775808) : lI a < lI b ↔ a < b := by
  rw [Int64.lt_iff_toInt_lt, lI_toInt ⟨h.1, h.2.1⟩, lI_toInt h.2.2]
theorem lI_eq {a b : Int} (h : -9223372036854775808 ≤ a ∧ a < 9223372036854775808 ∧ -9223372036854775808 ≤ b ∧ b < 9223372036854775808) : lI a = lI b ↔ a = b := by
  rw [← Int64.toInt_inj, lI_toInt ⟨h.1, h.2.1⟩, lI_toInt h.2.2]
theorem iI_div {a b : Int} (h : 0 ≤ a ∧ a < 2147483648 ∧ 0 < b ∧ b < 2147483648) : iI a / iI b = iI (a / b) := by
  apply Int32.toInt_inj.mp
  have hd : 0 ≤ a / b := Int.ediv_nonneg h.1 (by omega)
  have hd2 : a / b ≤ a := Int.ediv_le_self b h.1
  have e1 : (iI a).toInt = a := iI_toInt ⟨by omega, by omega⟩
  have e2 : (iI b).toInt = b := iI_toInt ⟨by omega, by omega⟩
  rw [Int32.toInt_div_of_ne_right _ _ (fun q => by rw [q] at e2; have : ((-1 : Int32)).toInt = -1 := rfl; omega), e1, e2, Int.tdiv_eq_ediv_of_nonneg h.1, iI_toInt ⟨by omega, by omega⟩]
theorem lI_div {a b : Int} (h : 0 ≤ a ∧ a < 9223372036854775808 ∧ 0 < b ∧ b < 9223372036854775808) : lI a / lI b = lI (a / b) := by
  apply Int64.toInt_inj.mp
  have hd : 0 ≤ a / b := Int.ediv_nonneg h.1 (by omega)
  have hd2 : a / b ≤ a := Int.ediv_le_self b h.1
  have e1 : (lI a).toInt = a := lI_toInt ⟨by omega, by omega⟩
  have e2 : (lI b).toInt = b := lI_toInt ⟨by omega, by omega⟩
  rw [Int64.toInt_div_of_ne_right _ _ (fun q => by rw [q] at e2; have : ((-1 : Int64)).toInt = -1 := rfl; omega), e1, e2, Int.tdiv_eq_ediv_of_nonneg h.1, lI_toInt ⟨by omega, by omega⟩]
theorem iI_rem {a b : Int} (h : 0 ≤ a ∧ a < 2147483648 ∧ 0 < b ∧ b < 2147483648) : iI a - iI a / iI b * iI b = iI (a % b) := by
  rw [iI_div h, iI_mul, iI_sub]
  congr 1
  have := Int.mul_ediv_add_emod a b
  have e := Int.mul_comm (a / b) b
  omega
theorem lI_rem {a b : Int} (h : 0 ≤ a ∧ a < 9223372036854775808 ∧ 0 < b ∧ b < 9223372036854775808) : lI a - lI a / lI b * lI b = lI (a % b) := by
  rw [lI_div h, lI_mul, lI_sub]
  congr 1
  have := Int.mul_ediv_add_emod a b
  have e := Int.mul_comm (a / b) b
  omega
theorem iI_l {a : Int} (h : -2147483648 ≤ a ∧ a < 2147483648) : (iI a).toInt64 = lI a := by
  apply Int64.toInt_inj.mp
  rw [Int32.toInt_toInt64, iI_toInt h, lI_toInt ⟨by omega, by omega⟩]
theorem lI_i (a : Int) : (lI a).toInt32 = iI a := Int64.toInt32_ofInt
theorem iI_in {i : Int} {n : Nat} (hn : n < 2147483648) (h : 0 ≤ i ∧ i < (n : Int)) : vp_in (iI i) n := by
  rw [vp_in_iff, iI_toInt ⟨by omega, by omega⟩]
  exact h
theorem iI_cl {i : Int} (h : 0 ≤ i ∧ i < 2147483648) : (((iI i).toNatClampNeg : Nat) : Int) = i := by
  show (((iI i).toInt.toNat : Nat) : Int) = i
  rw [iI_toInt ⟨by omega, by omega⟩]
  omega
theorem aI_at (f : Int → Int) {i : Int} (h : 0 ≤ i ∧ i < 2147483648) : aI f (iI i).toNatClampNeg = iI (f i) := by
  unfold aI
  rw [iI_cl h]
theorem aL_at (f : Int → Int) {i : Int} (h : 0 ≤ i ∧ i < 2147483648) : aL f (iI i).toNatClampNeg = lI (f i) := by
  unfold aL
  rw [iI_cl h]
theorem aI_up (f : Int → Int) {i : Int} (v : Int) (h : 0 ≤ i ∧ i < 2147483648) : upd (aI f) (iI i).toNatClampNeg (iI v) = aI (ups f i v) := by
  funext k
  have e := iI_cl h
  unfold upd aI ups
  by_cases hk : k = (iI i).toNatClampNeg
  · rw [if_pos hk, if_pos (by omega)]
  · rw [if_neg hk, if_neg (by omega)]
theorem aL_up (f : Int → Int) {i : Int} (v : Int) (h : 0 ≤ i ∧ i < 2147483648) : vp_updL (aL f) (iI i).toNatClampNeg (lI v) = aL (ups f i v) := by
  funext k
  have e := iI_cl h
  unfold vp_updL aL ups
  by_cases hk : k = (iI i).toNatClampNeg
  · rw [if_pos hk, if_pos (by omega)]
  · rw [if_neg hk, if_neg (by omega)]
section TROWS
variable {p : Program} {l : Launch} {e : Env} {R : Room} {s : State} {m : MethodId} {args : Array Value} {below : List Frame} {meth : Method} {c : Code} {H : Heap} {locs : List Loc} {cells slots : Nat} {Q : State → Prop}
variable {cc : ByteArray} {pc : Nat} {ls : Array Slot} {rest : List Value}
theorem zt_iadd (hx : p.tables.exec = Jvm.exec) (hb : c.code = cc) {a b : Int} (hdg : decode cc pc = .ok (.iadd, 1)) (k : W p l e R s m args below meth c H locs cells slots Q (F0 m (pc + 1) ls (.int (iI (a + b)) :: rest))) : W p l e R s m args below meth c H locs cells slots Q (F0 m pc ls (.int (iI b) :: .int (iI a) :: rest)) := lv_iadd hx hb hdg (by rw [iI_add]; exact k)
theorem zt_isub (hx : p.tables.exec = Jvm.exec) (hb : c.code = cc) {a b : Int} (hdg : decode cc pc = .ok (.isub, 1)) (k : W p l e R s m args below meth c H locs cells slots Q (F0 m (pc + 1) ls (.int (iI (a - b)) :: rest))) : W p l e R s m args below meth c H locs cells slots Q (F0 m pc ls (.int (iI b) :: .int (iI a) :: rest)) := lv_isub hx hb hdg (by rw [iI_sub]; exact k)
theorem zt_imul (hx : p.tables.exec = Jvm.exec) (hb : c.code = cc) {a b : Int} (hdg : decode cc pc = .ok (.imul, 1)) (k : W p l e R s m args below meth c H locs cells slots Q (F0 m (pc + 1) ls (.int (iI (a * b)) :: rest))) : W p l e R s m args below meth c H locs cells slots Q (F0 m pc ls (.int (iI b) :: .int (iI a) :: rest)) := lv_imul hx hb hdg (by rw [iI_mul]; exact k)
theorem zt_idiv (hx : p.tables.exec = Jvm.exec) (hb : c.code = cc) {a b : Int} (h : 0 ≤ a ∧ a < 2147483648 ∧ 0 < b ∧ b < 2147483648) (hdg : decode cc pc = .ok (.idiv, 1)) (k : W p l e R s m args below meth c H locs cells slots Q (F0 m (pc + 1) ls (.int (iI (a / b)) :: rest))) : W p l e R s m args below meth c H locs cells slots Q (F0 m pc ls (.int (iI b) :: .int (iI a) :: rest)) :=
  lv_idiv hx hb hdg (fun q => by rw [show (0 : Int32) = iI 0 from rfl, iI_eq ⟨by omega, by omega, by omega, by omega⟩] at q; omega) (by rw [iI_div h]; exact k)
theorem zt_irem (hx : p.tables.exec = Jvm.exec) (hb : c.code = cc) {a b : Int} (h : 0 ≤ a ∧ a < 2147483648 ∧ 0 < b ∧ b < 2147483648) (hdg : decode cc pc = .ok (.irem, 1)) (k : W p l e R s m args below meth c H locs cells slots Q (F0 m (pc + 1) ls (.int (iI (a % b)) :: rest))) : W p l e R s m args below meth c H locs cells slots Q (F0 m pc ls (.int (iI b) :: .int (iI a) :: rest)) :=
  lv_irem hx hb hdg (fun q => by rw [show (0 : Int32) = iI 0 from rfl, iI_eq ⟨by omega, by omega, by omega, by omega⟩] at q; omega) (by rw [iI_rem h]; exact k)
theorem zt_ladd (hx : p.tables.exec = Jvm.exec) (hb : c.code = cc) {a b : Int} (hdg : decode cc pc = .ok (.ladd, 1)) (k : W p l e R s m args below meth c H locs cells slots Q (F0 m (pc + 1) ls (.long (lI (a + b)) :: rest))) : W p l e R s m args below meth c H locs cells slots Q (F0 m pc ls (.long (lI b) :: .long (lI a) :: rest)) := lv_ladd hx hb hdg (by rw [lI_add]; exact k)
theorem zt_lsub (hx : p.tables.exec = Jvm.exec) (hb : c.code = cc) {a b : Int} (hdg : decode cc pc = .ok (.lsub, 1)) (k : W p l e R s m args below meth c H locs cells slots Q (F0 m (pc + 1) ls (.long (lI (a - b)) :: rest))) : W p l e R s m args below meth c H locs cells slots Q (F0 m pc ls (.long (lI b) :: .long (lI a) :: rest)) := lv_lsub hx hb hdg (by rw [lI_sub]; exact k)
theorem zt_lmul (hx : p.tables.exec = Jvm.exec) (hb : c.code = cc) {a b : Int} (hdg : decode cc pc = .ok (.lmul, 1)) (k : W p l e R s m args below meth c H locs cells slots Q (F0 m (pc + 1) ls (.long (lI (a * b)) :: rest))) : W p l e R s m args below meth c H locs cells slots Q (F0 m pc ls (.long (lI b) :: .long (lI a) :: rest)) := lv_lmul hx hb hdg (by rw [lI_mul]; exact k)
theorem zt_lneg (hx : p.tables.exec = Jvm.exec) (hb : c.code = cc) {a : Int} (hdg : decode cc pc = .ok (.lneg, 1)) (k : W p l e R s m args below meth c H locs cells slots Q (F0 m (pc + 1) ls (.long (lI (-a)) :: rest))) : W p l e R s m args below meth c H locs cells slots Q (F0 m pc ls (.long (lI a) :: rest)) := lv_lneg hx hb hdg (by first | (rw [lI_neg]; exact k) | (rw [Int64.zero_sub, lI_neg]; exact k))
theorem zt_ldiv (hx : p.tables.exec = Jvm.exec) (hb : c.code = cc) {a b : Int} (h : 0 ≤ a ∧ a < 9223372036854775808 ∧ 0 < b ∧ b < 9223372036854775808) (hdg : decode cc pc = .ok (.ldiv, 1)) (k : W p l e R s m args below meth c H locs cells slots Q (F0 m (pc + 1) ls (.long (lI (a / b)) :: rest))) : W p l e R s m args below meth c H locs cells slots Q (F0 m pc ls (.long (lI b) :: .long (lI a) :: rest)) :=
  lv_ldiv hx hb hdg (fun q => by rw [show (0 : Int64) = lI 0 from rfl, lI_eq ⟨by omega, by omega, by omega, by omega⟩] at q; omega) (by rw [lI_div h]; exact k)
theorem zt_lrem (hx : p.tables.exec = Jvm.exec) (hb : c.code = cc) {a b : Int} (h : 0 ≤ a ∧ a < 9223372036854775808 ∧ 0 < b ∧ b < 9223372036854775808) (hdg : decode cc pc = .ok (.lrem, 1)) (k : W p l e R s m args below meth c H locs cells slots Q (F0 m (pc + 1) ls (.long (lI (a % b)) :: rest))) : W p l e R s m args below meth c H locs cells slots Q (F0 m pc ls (.long (lI b) :: .long (lI a) :: rest)) :=
  lv_lrem hx hb hdg (fun q => by rw [show (0 : Int64) = lI 0 from rfl, lI_eq ⟨by omega, by omega, by omega, by omega⟩] at q; omega) (by rw [lI_rem h]; exact k)
theorem zt_i2l (hx : p.tables.exec = Jvm.exec) (hb : c.code = cc) {a : Int} (h : -2147483648 ≤ a ∧ a < 2147483648) (hdg : decode cc pc = .ok (.i2l, 1)) (k : W p l e R s m args below meth c H locs cells slots Q (F0 m (pc + 1) ls (.long (lI a) :: rest))) : W p l e R s m args below meth c H locs cells slots Q (F0 m pc ls (.int (iI a) :: rest)) := lv_i2l hx hb hdg (iI_l h) k
theorem zt_l2i (hx : p.tables.exec = Jvm.exec) (hb : c.code = cc) {a : Int} (hdg : decode cc pc = .ok (.l2i, 1)) (k : W p l e R s m args below meth c H locs cells slots Q (F0 m (pc + 1) ls (.int (iI a) :: rest))) : W p l e R s m args below meth c H locs cells slots Q (F0 m pc ls (.long (lI a) :: rest)) := lv_l2i hx hb hdg (lI_i a) k
/-- the number on top by another name for it -/
theorem zt_nm {a b : Int} (h : a = b) (k : W p l e R s m args below meth c H locs cells slots Q (F0 m pc ls (.int (iI b) :: rest))) : W p l e R s m args below meth c H locs cells slots Q (F0 m pc ls (.int (iI a) :: rest)) := h ▸ k
theorem zt_nml {a b : Int} (h : a = b) (k : W p l e R s m args below meth c H locs cells slots Q (F0 m pc ls (.long (lI b) :: rest))) : W p l e R s m args below meth c H locs cells slots Q (F0 m pc ls (.long (lI a) :: rest)) := h ▸ k
theorem zt_icmp_lt (hx : p.tables.exec = Jvm.exec) (hb : c.code = cc) {a b : Int} {off : Int} {tgt : Nat} (h : -2147483648 ≤ a ∧ a < 2147483648 ∧ -2147483648 ≤ b ∧ b < 2147483648) (hdg : decode cc pc = .ok (.if_icmp .lt off, 3)) (ht : (pc : Int) + off = (tgt : Int)) (kt : a < b → W p l e R s m args below meth c H locs cells slots Q (F0 m tgt ls rest)) (kf : b ≤ a → W p l e R s m args below meth c H locs cells slots Q (F0 m (pc + 3) ls rest)) : W p l e R s m args below meth c H locs cells slots Q (F0 m pc ls (.int (iI b) :: .int (iI a) :: rest)) :=
  lv_icmp_lt hx hb hdg ht (fun q => kt ((iI_lt h).mp q)) (fun q => kf (by have := mt (iI_lt h).mpr q; omega))
theorem zt_icmp_ge (hx : p.tables.exec = Jvm.exec) (hb : c.code = cc) {a b : Int} {off : Int} {tgt : Nat} (h : -2147483648 ≤ a ∧ a < 2147483648 ∧ -2147483648 ≤ b ∧ b < 2147483648) (hdg : decode cc pc = .ok (.if_icmp .ge off, 3)) (ht : (pc : Int) + off = (tgt : Int)) (kt : b ≤ a → W p l e R s m args below meth c H locs cells slots Q (F0 m tgt ls rest)) (kf : a < b → W p l e R s m args below meth c H locs cells slots Q (F0 m (pc + 3) ls rest)) : W p l e R s m args below meth c H locs cells slots Q (F0 m pc ls (.int (iI b) :: .int (iI a) :: rest)) :=
  lv_icmp_ge hx hb hdg ht (fun q => kt ((iI_le ⟨h.2.2.1, h.2.2.2, h.1, h.2.1⟩).mp q)) (fun q => kf (by have := mt (iI_le ⟨h.2.2.1, h.2.2.2, h.1, h.2.1⟩).mpr q; omega))
theorem zt_icmp_gt (hx : p.tables.exec = Jvm.exec) (hb : c.code = cc) {a b : Int} {off : Int} {tgt : Nat} (h : -2147483648 ≤ a ∧ a < 2147483648 ∧ -2147483648 ≤ b ∧ b < 2147483648) (hdg : decode cc pc = .ok (.if_icmp .gt off, 3)) (ht : (pc : Int) + off = (tgt : Int)) (kt : b < a → W p l e R s m args below meth c H locs cells slots Q (F0 m tgt ls rest)) (kf : a ≤ b → W p l e R s m args below meth c H locs cells slots Q (F0 m (pc + 3) ls rest)) : W p l e R s m args below meth c H locs cells slots Q (F0 m pc ls (.int (iI b) :: .int (iI a) :: rest)) :=
  lv_icmp_gt hx hb hdg ht (fun q => kt ((iI_lt ⟨h.2.2.1, h.2.2.2, h.1, h.2.1⟩).mp q)) (fun q => kf (by have := mt (iI_lt ⟨h.2.2.1, h.2.2.2, h.1, h.2.1⟩).mpr q; omega))
theorem zt_icmp_le (hx : p.tables.exec = Jvm.exec) (hb : c.code = cc) {a b : Int} {off : Int} {tgt : Nat} (h : -2147483648 ≤ a ∧ a < 2147483648 ∧ -2147483648 ≤ b ∧ b < 2147483648) (hdg : decode cc pc = .ok (.if_icmp .le off, 3)) (ht : (pc : Int) + off = (tgt : Int)) (kt : a ≤ b → W p l e R s m args below meth c H locs cells slots Q (F0 m tgt ls rest)) (kf : b < a → W p l e R s m args below meth c H locs cells slots Q (F0 m (pc + 3) ls rest)) : W p l e R s m args below meth c H locs cells slots Q (F0 m pc ls (.int (iI b) :: .int (iI a) :: rest)) :=
  lv_icmp_le hx hb hdg ht (fun q => kt ((iI_le h).mp q)) (fun q => kf (by have := mt (iI_le h).mpr q; omega))
theorem zt_icmp_eq (hx : p.tables.exec = Jvm.exec) (hb : c.code = cc) {a b : Int} {off : Int} {tgt : Nat} (h : -2147483648 ≤ a ∧ a < 2147483648 ∧ -2147483648 ≤ b ∧ b < 2147483648) (hdg : decode cc pc = .ok (.if_icmp .eq off, 3)) (ht : (pc : Int) + off = (tgt : Int)) (kt : a = b → W p l e R s m args below meth c H locs cells slots Q (F0 m tgt ls rest)) (kf : a ≠ b → W p l e R s m args below meth c H locs cells slots Q (F0 m (pc + 3) ls rest)) : W p l e R s m args below meth c H locs cells slots Q (F0 m pc ls (.int (iI b) :: .int (iI a) :: rest)) :=
  lv_icmp_eq hx hb hdg ht (fun q => kt ((iI_eq h).mp q)) (fun q => kf (mt (iI_eq h).mpr q))
theorem zt_icmp_ne (hx : p.tables.exec = Jvm.exec) (hb : c.code = cc) {a b : Int} {off : Int} {tgt : Nat} (h : -2147483648 ≤ a ∧ a < 2147483648 ∧ -2147483648 ≤ b ∧ b < 2147483648) (hdg : decode cc pc = .ok (.if_icmp .ne off, 3)) (ht : (pc : Int) + off = (tgt : Int)) (kt : a ≠ b → W p l e R s m args below meth c H locs cells slots Q (F0 m tgt ls rest)) (kf : a = b → W p l e R s m args below meth c H locs cells slots Q (F0 m (pc + 3) ls rest)) : W p l e R s m args below meth c H locs cells slots Q (F0 m pc ls (.int (iI b) :: .int (iI a) :: rest)) :=
  lv_icmp_ne hx hb hdg ht (fun q => kt (mt (iI_eq h).mpr q)) (fun q => kf ((iI_eq h).mp q))
theorem zt_if_eq (hx : p.tables.exec = Jvm.exec) (hb : c.code = cc) {a : Int} {off : Int} {tgt : Nat} (h : -2147483648 ≤ a ∧ a < 2147483648) (hdg : decode cc pc = .ok (.ifCond .eq off, 3)) (ht : (pc : Int) + off = (tgt : Int)) (kt : a = 0 → W p l e R s m args below meth c H locs cells slots Q (F0 m tgt ls rest)) (kf : a ≠ 0 → W p l e R s m args below meth c H locs cells slots Q (F0 m (pc + 3) ls rest)) : W p l e R s m args below meth c H locs cells slots Q (F0 m pc ls (.int (iI a) :: rest)) :=
  lv_if_eq hx hb hdg ht (fun q => kt ((iI_eq (b := 0) ⟨h.1, h.2, by omega, by omega⟩).mp q)) (fun q => kf (mt (iI_eq (b := 0) ⟨h.1, h.2, by omega, by omega⟩).mpr q))
theorem zt_if_ne (hx : p.tables.exec = Jvm.exec) (hb : c.code = cc) {a : Int} {off : Int} {tgt : Nat} (h : -2147483648 ≤ a ∧ a < 2147483648) (hdg : decode cc pc = .ok (.ifCond .ne off, 3)) (ht : (pc : Int) + off = (tgt : Int)) (kt : a ≠ 0 → W p l e R s m args below meth c H locs cells slots Q (F0 m tgt ls rest)) (kf : a = 0 → W p l e R s m args below meth c H locs cells slots Q (F0 m (pc + 3) ls rest)) : W p l e R s m args below meth c H locs cells slots Q (F0 m pc ls (.int (iI a) :: rest)) :=
  lv_if_ne hx hb hdg ht (fun q => kt (mt (iI_eq (b := 0) ⟨h.1, h.2, by omega, by omega⟩).mpr q)) (fun q => kf ((iI_eq (b := 0) ⟨h.1, h.2, by omega, by omega⟩).mp q))
theorem zt_if_lt (hx : p.tables.exec = Jvm.exec) (hb : c.code = cc) {a : Int} {off : Int} {tgt : Nat} (h : -2147483648 ≤ a ∧ a < 2147483648) (hdg : decode cc pc = .ok (.ifCond .lt off, 3)) (ht : (pc : Int) + off = (tgt : Int)) (kt : a < 0 → W p l e R s m args below meth c H locs cells slots Q (F0 m tgt ls rest)) (kf : 0 ≤ a → W p l e R s m args below meth c H locs cells slots Q (F0 m (pc + 3) ls rest)) : W p l e R s m args below meth c H locs cells slots Q (F0 m pc ls (.int (iI a) :: rest)) :=
  lv_if_lt hx hb hdg ht (fun q => kt ((iI_lt (b := 0) ⟨h.1, h.2, by omega, by omega⟩).mp q)) (fun q => kf (by have := mt (iI_lt (b := 0) ⟨h.1, h.2, by omega, by omega⟩).mpr q; omega))
theorem zt_if_ge (hx : p.tables.exec = Jvm.exec) (hb : c.code = cc) {a : Int} {off : Int} {tgt : Nat} (h : -2147483648 ≤ a ∧ a < 2147483648) (hdg : decode cc pc = .ok (.ifCond .ge off, 3)) (ht : (pc : Int) + off = (tgt : Int)) (kt : 0 ≤ a → W p l e R s m args below meth c H locs cells slots Q (F0 m tgt ls rest)) (kf : a < 0 → W p l e R s m args below meth c H locs cells slots Q (F0 m (pc + 3) ls rest)) : W p l e R s m args below meth c H locs cells slots Q (F0 m pc ls (.int (iI a) :: rest)) :=
  lv_if_ge hx hb hdg ht (fun q => kt ((iI_le (a := 0) (b := a) ⟨by omega, by omega, h.1, h.2⟩).mp q)) (fun q => kf (by have := mt (iI_le (a := 0) (b := a) ⟨by omega, by omega, h.1, h.2⟩).mpr q; omega))
theorem zt_if_gt (hx : p.tables.exec = Jvm.exec) (hb : c.code = cc) {a : Int} {off : Int} {tgt : Nat} (h : -2147483648 ≤ a ∧ a < 2147483648) (hdg : decode cc pc = .ok (.ifCond .gt off, 3)) (ht : (pc : Int) + off = (tgt : Int)) (kt : 0 < a → W p l e R s m args below meth c H locs cells slots Q (F0 m tgt ls rest)) (kf : a ≤ 0 → W p l e R s m args below meth c H locs cells slots Q (F0 m (pc + 3) ls rest)) : W p l e R s m args below meth c H locs cells slots Q (F0 m pc ls (.int (iI a) :: rest)) :=
  lv_if_gt hx hb hdg ht (fun q => kt ((iI_lt (a := 0) (b := a) ⟨by omega, by omega, h.1, h.2⟩).mp q)) (fun q => kf (by have := mt (iI_lt (a := 0) (b := a) ⟨by omega, by omega, h.1, h.2⟩).mpr q; omega))
theorem zt_if_le (hx : p.tables.exec = Jvm.exec) (hb : c.code = cc) {a : Int} {off : Int} {tgt : Nat} (h : -2147483648 ≤ a ∧ a < 2147483648) (hdg : decode cc pc = .ok (.ifCond .le off, 3)) (ht : (pc : Int) + off = (tgt : Int)) (kt : a ≤ 0 → W p l e R s m args below meth c H locs cells slots Q (F0 m tgt ls rest)) (kf : 0 < a → W p l e R s m args below meth c H locs cells slots Q (F0 m (pc + 3) ls rest)) : W p l e R s m args below meth c H locs cells slots Q (F0 m pc ls (.int (iI a) :: rest)) :=
  lv_if_le hx hb hdg ht (fun q => kt ((iI_le (b := 0) ⟨h.1, h.2, by omega, by omega⟩).mp q)) (fun q => kf (by have := mt (iI_le (b := 0) ⟨h.1, h.2, by omega, by omega⟩).mpr q; omega))
/-- a truth value, 1 or 0, and a jump on it -/
theorem zt_ifb_eq (hx : p.tables.exec = Jvm.exec) (hb : c.code = cc) {P : Prop} {v : Int} (hv : (P ∧ v = 1) ∨ (¬ P ∧ v = 0)) {off : Int} {tgt : Nat} (hdg : decode cc pc = .ok (.ifCond .eq off, 3)) (ht : (pc : Int) + off = (tgt : Int)) (kt : ¬ P → W p l e R s m args below meth c H locs cells slots Q (F0 m tgt ls rest)) (kf : P → W p l e R s m args below meth c H locs cells slots Q (F0 m (pc + 3) ls rest)) : W p l e R s m args below meth c H locs cells slots Q (F0 m pc ls (.int (iI v) :: rest)) :=
  zt_if_eq hx hb (by omega) hdg ht (fun q => kt (hv.elim (fun h => absurd q (by omega)) (fun h => h.1))) (fun q => kf (hv.elim (fun h => h.1) (fun h => absurd h.2 q)))
theorem zt_ifb_ne (hx : p.tables.exec = Jvm.exec) (hb : c.code = cc) {P : Prop} {v : Int} (hv : (P ∧ v = 1) ∨ (¬ P ∧ v = 0)) {off : Int} {tgt : Nat} (hdg : decode cc pc = .ok (.ifCond .ne off, 3)) (ht : (pc : Int) + off = (tgt : Int)) (kt : P → W p l e R s m args below meth c H locs cells slots Q (F0 m tgt ls rest)) (kf : ¬ P → W p l e R s m args below meth c H locs cells slots Q (F0 m (pc + 3) ls rest)) : W p l e R s m args below meth c H locs cells slots Q (F0 m pc ls (.int (iI v) :: rest)) :=
  zt_if_ne hx hb (by omega) hdg ht (fun q => kt (hv.elim (fun h => h.1) (fun h => absurd h.2 q))) (fun q => kf (hv.elim (fun h => absurd q (by omega)) (fun h => h.1)))
theorem lI_cmp {a b : Int} (h : -9223372036854775808 ≤ a ∧ a < 9223372036854775808 ∧ -9223372036854775808 ≤ b ∧ b < 9223372036854775808) : (b < a ∧ lg_cmp (lI a) (lI b) = iI 1) ∨ (a = b ∧ lg_cmp (lI a) (lI b) = iI 0) ∨ (a < b ∧ lg_cmp (lI a) (lI b) = iI (-1)) := by
  have h1 : lI b < lI a ↔ b < a := lI_lt ⟨h.2.2.1, h.2.2.2, h.1, h.2.1⟩
  have h2 : lI a = lI b ↔ a = b := lI_eq h
  have h3 : lI a < lI b ↔ a < b := lI_lt h
  rcases Int.lt_trichotomy a b with q | q | q
  · exact Or.inr (Or.inr ⟨q, by simp [lg_cmp, h1, h2, h3, q, Int.not_lt.mpr (Int.le_of_lt q), Int.ne_of_lt q]; rfl⟩)
  · exact Or.inr (Or.inl ⟨q, by subst q; simp [lg_cmp]; try rfl⟩)
  · exact Or.inl ⟨q, by simp [lg_cmp, h1, h2, h3, q]; rfl⟩
/-- lcmp, then: what stands on the stack is d, a number with the order of a and b -/
theorem zt_lcmp (hx : p.tables.exec = Jvm.exec) (hb : c.code = cc) {a b : Int} (h : -9223372036854775808 ≤ a ∧ a < 9223372036854775808 ∧ -9223372036854775808 ≤ b ∧ b < 9223372036854775808) (hdg : decode cc pc = .ok (.lcmp, 1)) (k : ∀ d : Int, (-1 ≤ d ∧ d ≤ 1 ∧ (0 < d ↔ b < a) ∧ (d < 0 ↔ a < b)) → W p l e R s m args below meth c H locs cells slots Q (F0 m (pc + 1) ls (.int (iI d) :: rest))) : W p l e R s m args below meth c H locs cells slots Q (F0 m pc ls (.long (lI b) :: .long (lI a) :: rest)) := by
  refine W.lcmp hx hb hdg ?_
  rcases lI_cmp h with ⟨q, e⟩ | ⟨q, e⟩ | ⟨q, e⟩
  · rw [e]; exact k 1 (by omega)
  · rw [e]; exact k 0 (by omega)
  · rw [e]; exact k (-1) (by omega)
end TROWS
end
section
/-! a world that a function lays out: what it holds (σ: by component and place) names the cells (wf σ); contracts over it, calls with it, ends of methods -/
abbrev gW (G : va_G) (tys : List (ClassId × FieldType)) (A : Nat → Prop) (wf : (Nat → Int → Int) → va_W) (σ : Nat → Int → Int) (U : State) : Prop := va_P G vwCl (wf σ) U.heap ∧ va_K G vwCl tys U ∧ va_D A (wf σ)
def st (σ : Nat → Int → Int) (c : Nat) (i v : Int) : Nat → Int → Int := fun d => bif Nat.beq d c then ups (σ c) i v else σ d
def sc (σ : Nat → Int → Int) (c : Nat) (f : Int → Int) : Nat → Int → Int := fun d => bif Nat.beq d c then f else σ d
theorem st_s (σ : Nat → Int → Int) (c : Nat) (i v : Int) : st σ c i v c = ups (σ c) i v := by unfold st; rw [Nat.beq_refl]; rfl
theorem st_d (σ : Nat → Int → Int) {c d : Nat} (i v : Int) (h : d ≠ c) : st σ c i v d = σ d := by
  unfold st
  cases q : Nat.beq d c
  · rfl
  · exact absurd (Nat.eq_of_beq_eq_true q) h
theorem st_a (σ : Nat → Int → Int) (c d : Nat) (i v k : Int) : st σ c i v d k = if d = c ∧ k = i then v else σ d k := by
  by_cases h : d = c
  · subst h
    rw [st_s]
    unfold ups
    by_cases h2 : k = i
    · rw [if_pos h2, if_pos ⟨rfl, h2⟩]
    · rw [if_neg h2, if_neg (fun q => h2 q.2)]
  · rw [st_d _ _ _ h, if_neg (fun q => h q.1)]
theorem sc_s (σ : Nat → Int → Int) (c : Nat) (f : Int → Int) : sc σ c f c = f := by unfold sc; rw [Nat.beq_refl]; rfl
theorem sc_d (σ : Nat → Int → Int) {c d : Nat} (f : Int → Int) (h : d ≠ c) : sc σ c f d = σ d := by
  unfold sc
  cases q : Nat.beq d c
  · rfl
  · exact absurd (Nat.eq_of_beq_eq_true q) h
/-- rows that agree where they are, are one row -/
theorem arrV_ext (cA : ClassId) {n : Nat} {f g : Nat → Value} (h : ∀ k, k < n → f k = g k) : arrV cA n f = arrV cA n g := by
  unfold arrV
  have e : (fun j : Fin n => f j.val) = (fun j : Fin n => g j.val) := funext fun j => h j.val j.isLt
  rw [e]
theorem at_I {D : va_G} {cl : List vw_C} {b n : Nat} {cA : ClassId} {f g : Int → Int} (h : ∀ k : Int, 0 ≤ k → k < (n : Int) → f k = g k) (H : Heap) (hp : va_at D cl (b, .inl (cA, n, .inl (aI f))) H) : va_at D cl (b, .inl (cA, n, .inl (aI g))) H := by
  have e : vp_cell cA (n, .inl (aI f)) = vp_cell cA (n, .inl (aI g)) := by
    rw [vp_cell_i, vp_cell_i]
    exact arrV_ext cA fun k hk => by show Value.int (iI (f k)) = Value.int (iI (g k)); rw [h k (by omega) (by omega)]
  show H[b]? = some (vp_cell cA (n, .inl (aI g)))
  rw [← e]
  exact hp
theorem at_L {D : va_G} {cl : List vw_C} {b n : Nat} {cA : ClassId} {f g : Int → Int} (h : ∀ k : Int, 0 ≤ k → k < (n : Int) → f k = g k) (H : Heap) (hp : va_at D cl (b, .inl (cA, n, .inr (.inl (aL f)))) H) : va_at D cl (b, .inl (cA, n, .inr (.inl (aL g)))) H := by
  have e : vp_cell cA (n, .inr (.inl (aL f))) = vp_cell cA (n, .inr (.inl (aL g))) := by
    rw [vp_cell_l, vp_cell_l]
    exact arrV_ext cA fun k hk => by show Value.long (lI (f k)) = Value.long (lI (g k)); rw [h k (by omega) (by omega)]
  show H[b]? = some (vp_cell cA (n, .inr (.inl (aL g))))
  rw [← e]
  exact hp
/-- a world said by other words, cell by cell -/
def leW (D : va_G) (cl : List vw_C) : va_W → va_W → Prop
  | [], [] => True
  | x :: xs, y :: ys => (x.1 = y.1 ∧ ∀ H, va_at D cl x H → va_at D cl y H) ∧ leW D cl xs ys
  | _, _ => False
theorem leW_at {D : va_G} {cl : List vw_C} : ∀ {ws ws' : va_W}, leW D cl ws ws' → ∀ (k : Nat) (q : Nat × va_E), ws'[k]? = some q → ∃ q0, ws[k]? = some q0 ∧ q0.1 = q.1 ∧ ∀ H, va_at D cl q0 H → va_at D cl q H
  | [], [], _, k, q, hq => by simp at hq
  | [], y :: ys, h, k, q, hq => h.elim
  | x :: xs, [], h, k, q, hq => h.elim
  | x :: xs, y :: ys, h, 0, q, hq => by
    rw [List.getElem?_cons_zero] at hq
    cases hq
    exact ⟨x, List.getElem?_cons_zero, h.1⟩
  | x :: xs, y :: ys, h, k + 1, q, hq => by
    rw [List.getElem?_cons_succ] at hq
    obtain ⟨q0, h1, h2⟩ := leW_at h.2 k q hq
    exact ⟨q0, by rw [List.getElem?_cons_succ]; exact h1, h2⟩
theorem leW_P {D : va_G} {cl : List vw_C} {ws ws' : va_W} {H : Heap} (h : leW D cl ws ws') (hP : va_P D cl ws H) : va_P D cl ws' H := fun k q hq => by
  obtain ⟨q0, h1, -, h2⟩ := leW_at h k q hq
  exact h2 H (hP k q0 h1)
theorem leW_D {D : va_G} {cl : List vw_C} {A : Nat → Prop} {ws ws' : va_W} (h : leW D cl ws ws') (hD : va_D A ws) : va_D A ws' := by
  refine ⟨fun i j x y hi hj hxy => ?_, fun k q hq => ?_⟩
  · obtain ⟨x0, h1, h2, -⟩ := leW_at h i x hi
    obtain ⟨y0, h3, h4, -⟩ := leW_at h j y hj
    exact hD.1 i j x0 y0 h1 h3 (h2.trans (hxy.trans h4.symm))
  · obtain ⟨q0, h1, h2, -⟩ := leW_at h k q hq
    rw [← h2]
    exact hD.2 k q0 h1
theorem leW_r {D : va_G} {cl : List vw_C} {x y : Nat × va_E} {xs ys : va_W} (h : leW D cl xs ys) (h1 : x.1 = y.1) (h2 : ∀ H, va_at D cl x H → va_at D cl y H) : leW D cl (x :: xs) (y :: ys) := ⟨⟨h1, h2⟩, h⟩
theorem leW_k {D : va_G} {cl : List vw_C} {x : Nat × va_E} {xs ys : va_W} (h : leW D cl xs ys) : leW D cl (x :: xs) (x :: ys) := ⟨⟨rfl, fun _ q => q⟩, h⟩
theorem leW_0 {D : va_G} {cl : List vw_C} : leW D cl [] [] := trivial
theorem leW_i {D : va_G} {cl : List vw_C} {b n : Nat} {cA : ClassId} {f g : Int → Int} {xs ys : va_W} (h : leW D cl xs ys) (hf : ∀ k : Int, 0 ≤ k → k < (n : Int) → f k = g k) : leW D cl ((b, .inl (cA, n, .inl (aI f))) :: xs) ((b, .inl (cA, n, .inl (aI g))) :: ys) := ⟨⟨rfl, at_I hf⟩, h⟩
theorem leW_l {D : va_G} {cl : List vw_C} {b n : Nat} {cA : ClassId} {f g : Int → Int} {xs ys : va_W} (h : leW D cl xs ys) (hf : ∀ k : Int, 0 ≤ k → k < (n : Int) → f k = g k) : leW D cl ((b, .inl (cA, n, .inr (.inl (aL f)))) :: xs) ((b, .inl (cA, n, .inr (.inl (aL g)))) :: ys) := ⟨⟨rfl, at_L hf⟩, h⟩
/-- an object whose fields are the same values -/
theorem leW_o {D : va_G} {cl : List vw_C} {b ci : Nat} {fs gs : List Value} {xs ys : va_W} (h : leW D cl xs ys) (hf : fs = gs) : leW D cl ((b, .inr (ci, fs)) :: xs) ((b, .inr (ci, gs)) :: ys) := by subst hf; exact leW_k h
theorem nar_b {P : Prop} {v : Int} (h : (P ∧ v = 1) ∨ (¬ P ∧ v = 0)) : narrow .boolean (.int (iI v)) = .int (iI v) := by
  rcases h with ⟨-, rfl⟩ | ⟨-, rfl⟩ <;> rfl
section GROWS
variable {p : Program} {l : Launch} {e : Env} {R : Room} {s : State} {m : MethodId} {args : Array Value} {below : List Frame} {meth : Method} {c : Code} {H : Heap} {locs : List Loc} {cells slots : Nat} {Q : State → Prop}
variable {cc : ByteArray} {pc : Nat} {ls : Array Slot} {rest : List Value} {G : va_G} {tys : List (ClassId × FieldType)} {A A0 : Nat → Prop} {wf : (Nat → Int → Int) → va_W} {σ : Nat → Int → Int} {H0 : Heap}
theorem g_blind {av : List Value} : FrameBlind (va_Pc av (gW G tys A wf σ)) := fun a U g mk q => ⟨q.1, q.2.1, va_K.moved (u := U) (U := U.calling g mk a) (Vm.Alike.refl U.vm) q.2.2.1, q.2.2.2⟩
theorem g_preV (hK : va_K G vwCl tys s) (hP : va_P G vwCl (wf σ) H) (hD : va_D A (wf σ)) (q0 ci : Nat) {q : vw_C} {b : Nat} {fs : List Value} (hc : vwCl[ci]? = some q) (he : (wf σ)[q0]? = some (b, .inr (ci, fs))) {As : List Value} : PreV s H q.1 b (va_Pc (.ref b :: As) (gW G tys A wf σ)) As :=
  ⟨g_blind, va_recv hK hP hc he, fun U hU hW => ⟨rfl, by rw [hU]; exact hP, va_K.moved hW.alike hK, hD⟩⟩
variable {y : MethodName} {bytes : ByteArray} {maxL nL n index : Nat} {ret : Option FieldType} {ws : List Cond} {rm : Room} {Ts : List Cond} {own : String} {b : Addr} {st0 : List Value} {q : vw_C} {fs : List Value}
theorem g_calli {post : Int32 → (Nat → Int → Int) → Prop} (As : List Value) (S : CallFix p m c cc nL s args Ts own) (hM : Met l y ws rm (va_Pc (.ref b :: As) (gW G tys A wf σ)) (va_Qi post (gW G tys A wf) A) 0 0 A) (cw : CallW R s args own q.1 index y bytes maxL ret ws rm 0 0 n)
    (hK : va_K G vwCl tys s) (hP : va_P G vwCl (wf σ) H) (hD : va_D A (wf σ)) (hS : va_S A0 H0 H locs) (hA : ∀ z, A z → A0 z) (q0 ci : Nat) (hc : vwCl[ci]? = some q) (he : (wf σ)[q0]? = some (b, .inr (ci, fs))) (hst : st0 = As.reverse ++ .ref b :: rest) (hn : As.length = n) (hsz : ls.size = nL) (hW : (rest.map fun v => v.category).sum ≤ 8) (hdg : decode cc pc = .ok (.invokevirtual index, 3)) (hf : cells ≤ R.cells ∧ slots ≤ R.slots)
    (kk : ∀ (r : Int32) (u : Nat → Int → Int) (H1 : Heap) (locs1 : List Loc), post r u → va_P G vwCl (wf u) H1 → va_D A (wf u) → va_S A0 H0 H1 locs1 → H.size ≤ H1.size → (∀ z : Nat, z < H.size → ¬ A z → H1[z]? = H[z]?) → W p l e R s m args below meth c H1 locs1 cells slots Q (F0 m (pc + 3) ls (.int r :: rest))) : W p l e R s m args below meth c H locs cells slots Q (F0 m pc ls st0) := by
  subst hst
  exact va_calli (va_runV S hM cw (g_preV hK hP hD q0 ci hc he) rfl hn hsz rfl (lv_room hW) hdg hf) hS (fun z _ h => hA z h) hA (fun r u t H1 locs1 ht hvm hw hB hz hk hS1 => kk r u H1 locs1 hw (by rw [← ht]; exact hB.1) hB.2.2 hS1 hz hk)
theorem g_calll {post : Int64 → (Nat → Int → Int) → Prop} (As : List Value) (S : CallFix p m c cc nL s args Ts own) (hM : Met l y ws rm (va_Pc (.ref b :: As) (gW G tys A wf σ)) (va_Ql post (gW G tys A wf) A) 0 0 A) (cw : CallW R s args own q.1 index y bytes maxL ret ws rm 0 0 n)
    (hK : va_K G vwCl tys s) (hP : va_P G vwCl (wf σ) H) (hD : va_D A (wf σ)) (hS : va_S A0 H0 H locs) (hA : ∀ z, A z → A0 z) (q0 ci : Nat) (hc : vwCl[ci]? = some q) (he : (wf σ)[q0]? = some (b, .inr (ci, fs))) (hst : st0 = As.reverse ++ .ref b :: rest) (hn : As.length = n) (hsz : ls.size = nL) (hW : (rest.map fun v => v.category).sum ≤ 8) (hdg : decode cc pc = .ok (.invokevirtual index, 3)) (hf : cells ≤ R.cells ∧ slots ≤ R.slots)
    (kk : ∀ (r : Int64) (u : Nat → Int → Int) (H1 : Heap) (locs1 : List Loc), post r u → va_P G vwCl (wf u) H1 → va_D A (wf u) → va_S A0 H0 H1 locs1 → H.size ≤ H1.size → (∀ z : Nat, z < H.size → ¬ A z → H1[z]? = H[z]?) → W p l e R s m args below meth c H1 locs1 cells slots Q (F0 m (pc + 3) ls (.long r :: rest))) : W p l e R s m args below meth c H locs cells slots Q (F0 m pc ls st0) := by
  subst hst
  exact va_calll (va_runV S hM cw (g_preV hK hP hD q0 ci hc he) rfl hn hsz rfl (lv_room hW) hdg hf) hS (fun z _ h => hA z h) hA (fun r u t H1 locs1 ht hvm hw hB hz hk hS1 => kk r u H1 locs1 hw (by rw [← ht]; exact hB.1) hB.2.2 hS1 hz hk)
theorem g_callf {post : UInt32 → (Nat → Int → Int) → Prop} (As : List Value) (S : CallFix p m c cc nL s args Ts own) (hM : Met l y ws rm (va_Pc (.ref b :: As) (gW G tys A wf σ)) (va_Qf post (gW G tys A wf) A) 0 0 A) (cw : CallW R s args own q.1 index y bytes maxL ret ws rm 0 0 n)
    (hK : va_K G vwCl tys s) (hP : va_P G vwCl (wf σ) H) (hD : va_D A (wf σ)) (hS : va_S A0 H0 H locs) (hA : ∀ z, A z → A0 z) (q0 ci : Nat) (hc : vwCl[ci]? = some q) (he : (wf σ)[q0]? = some (b, .inr (ci, fs))) (hst : st0 = As.reverse ++ .ref b :: rest) (hn : As.length = n) (hsz : ls.size = nL) (hW : (rest.map fun v => v.category).sum ≤ 8) (hdg : decode cc pc = .ok (.invokevirtual index, 3)) (hf : cells ≤ R.cells ∧ slots ≤ R.slots)
    (kk : ∀ (r : UInt32) (u : Nat → Int → Int) (H1 : Heap) (locs1 : List Loc), post r u → va_P G vwCl (wf u) H1 → va_D A (wf u) → va_S A0 H0 H1 locs1 → H.size ≤ H1.size → (∀ z : Nat, z < H.size → ¬ A z → H1[z]? = H[z]?) → W p l e R s m args below meth c H1 locs1 cells slots Q (F0 m (pc + 3) ls (.float r :: rest))) : W p l e R s m args below meth c H locs cells slots Q (F0 m pc ls st0) := by
  subst hst
  exact va_callf (va_runV S hM cw (g_preV hK hP hD q0 ci hc he) rfl hn hsz rfl (lv_room hW) hdg hf) hS (fun z _ h => hA z h) hA (fun r u t H1 locs1 ht hvm hw hB hz hk hS1 => kk r u H1 locs1 hw (by rw [← ht]; exact hB.1) hB.2.2 hS1 hz hk)
theorem g_callv {post : (Nat → Int → Int) → Prop} (As : List Value) (S : CallFix p m c cc nL s args Ts own) (hM : Met l y ws rm (va_Pc (.ref b :: As) (gW G tys A wf σ)) (va_Qv post (gW G tys A wf) A) 0 0 A) (cw : CallW R s args own q.1 index y bytes maxL ret ws rm 0 0 n)
    (hK : va_K G vwCl tys s) (hP : va_P G vwCl (wf σ) H) (hD : va_D A (wf σ)) (hS : va_S A0 H0 H locs) (hA : ∀ z, A z → A0 z) (q0 ci : Nat) (hc : vwCl[ci]? = some q) (he : (wf σ)[q0]? = some (b, .inr (ci, fs))) (hst : st0 = As.reverse ++ .ref b :: rest) (hn : As.length = n) (hsz : ls.size = nL) (hW : (rest.map fun v => v.category).sum ≤ 8) (hdg : decode cc pc = .ok (.invokevirtual index, 3)) (hf : cells ≤ R.cells ∧ slots ≤ R.slots)
    (kk : ∀ (u : Nat → Int → Int) (H1 : Heap) (locs1 : List Loc), post u → va_P G vwCl (wf u) H1 → va_D A (wf u) → va_S A0 H0 H1 locs1 → H.size ≤ H1.size → (∀ z : Nat, z < H.size → ¬ A z → H1[z]? = H[z]?) → W p l e R s m args below meth c H1 locs1 cells slots Q (F0 m (pc + 3) ls rest)) : W p l e R s m args below meth c H locs cells slots Q (F0 m pc ls st0) := by
  subst hst
  exact va_callv (va_runV S hM cw (g_preV hK hP hD q0 ci hc he) rfl hn hsz rfl (lv_room hW) hdg hf) hS (fun z _ h => hA z h) hA (fun u t H1 locs1 ht hvm hw hB hz hk hS1 => kk u H1 locs1 hw (by rw [← ht]; exact hB.1) hB.2.2 hS1 hz hk)
/-- a static method that touches no cell: numbers to a number -/
theorem g_callS {post : Int32 → Unit → Prop} (As : List Value) (S : CallFix p m c cc nL s args Ts own) (hM : Met l y ws rm (va_Pc As (fun _ => True)) (va_Qi post (fun _ _ => True) (fun _ => False)) 0 0 (fun _ => False)) (cw : CallB R s args own index y bytes maxL ret ws rm 0 0 n ∧ (Cond.static y).before args s = true)
    (hP : va_P G vwCl (wf σ) H) (hS : va_S A0 H0 H locs) (hst : st0 = As.reverse ++ rest) (hn : As.length = n) (hsz : ls.size = nL) (hW : (rest.map fun v => v.category).sum ≤ 8) (hdg : decode cc pc = .ok (.invokestatic index, 3)) (hf : cells ≤ R.cells ∧ slots ≤ R.slots)
    (kk : ∀ (r : Int32) (H1 : Heap) (locs1 : List Loc), post r () → va_P G vwCl (wf σ) H1 → va_S A0 H0 H1 locs1 → W p l e R s m args below meth c H1 locs1 cells slots Q (F0 m (pc + 3) ls (.int r :: rest))) : W p l e R s m args below meth c H locs cells slots Q (F0 m pc ls st0) := by
  subst hst
  exact va_calli (va_runS S hM cw ⟨fun a U g mk q => q, fun U hU hW => ⟨rfl, trivial⟩⟩ rfl hn hsz rfl (lv_room hW) hdg hf) hS (fun z _ h => h.elim) (fun z h => h.elim) (fun r u t H1 locs1 ht hvm hw hB hz hk hS1 => kk r H1 locs1 hw (hP.kept fun k x hx => hk x.1 (hP k x hx).lt (fun z => z)) hS1)
/-- the ends -/
theorem g_iret {post : Int32 → (Nat → Int → Int) → Prop} {v : Int32} {u : Nat → Int → Int} (hx : p.tables.exec = Jvm.exec) (hb : c.code = cc) (hr : meth.sig.returnType = some .int) (hlocks : meth.locks = false) (hK : va_K G vwCl tys s) (hP : va_P G vwCl (wf u) H) (hD : va_D A (wf u)) (hS : va_S A s.heap H locs) (hpost : post v u) (hdg : decode cc pc = .ok (.ireturn, 1)) : W p l e R s m args below meth c H locs cells slots (MQ below (va_Qi post (gW G tys A wf) A) args s cells slots A) (F0 m pc ls [.int v]) :=
  W.iret hx hb hr (fun t ht hW => ⟨⟨v, u, rfl, hpost, by rw [ht]; exact hP, va_K.moved hW.alike hK, hD⟩, hS.F ht⟩) hS.2.2 hdg hlocks
theorem g_zret {post : Int32 → (Nat → Int → Int) → Prop} {v : Int32} {u : Nat → Int → Int} (hx : p.tables.exec = Jvm.exec) (hb : c.code = cc) (hr : meth.sig.returnType = some .boolean) (hlocks : meth.locks = false) (hn : narrow .boolean (.int v) = .int v) (hK : va_K G vwCl tys s) (hP : va_P G vwCl (wf u) H) (hD : va_D A (wf u)) (hS : va_S A s.heap H locs) (hpost : post v u) (hdg : decode cc pc = .ok (.ireturn, 1)) : W p l e R s m args below meth c H locs cells slots (MQ below (va_Qi post (gW G tys A wf) A) args s cells slots A) (F0 m pc ls [.int v]) :=
  W.zret hx hb hr hn (fun t ht hW => ⟨⟨v, u, rfl, hpost, by rw [ht]; exact hP, va_K.moved hW.alike hK, hD⟩, hS.F ht⟩) hS.2.2 hdg hlocks
theorem g_vret {post : (Nat → Int → Int) → Prop} {u : Nat → Int → Int} (hx : p.tables.exec = Jvm.exec) (hb : c.code = cc) (hr : meth.sig.returnType = none) (hlocks : meth.locks = false) (hK : va_K G vwCl tys s) (hP : va_P G vwCl (wf u) H) (hD : va_D A (wf u)) (hS : va_S A s.heap H locs) (hpost : post u) (hdg : decode cc pc = .ok (.return_, 1)) : W p l e R s m args below meth c H locs cells slots (MQ below (va_Qv post (gW G tys A wf) A) args s cells slots A) (F0 m pc ls []) :=
  W.vret hx hb hr (fun t ht hW => ⟨⟨u, rfl, hpost, by rw [ht]; exact hP, va_K.moved hW.alike hK, hD⟩, hS.F ht⟩) hS.2.2 hdg hlocks
theorem g_lret {post : Int64 → (Nat → Int → Int) → Prop} {v : Int64} {u : Nat → Int → Int} (hx : p.tables.exec = Jvm.exec) (hb : c.code = cc) (hr : meth.sig.returnType = some .long) (hlocks : meth.locks = false) (hK : va_K G vwCl tys s) (hP : va_P G vwCl (wf u) H) (hD : va_D A (wf u)) (hS : va_S A s.heap H locs) (hpost : post v u) (hdg : decode cc pc = .ok (.lreturn, 1)) : W p l e R s m args below meth c H locs cells slots (MQ below (va_Ql post (gW G tys A wf) A) args s cells slots A) (F0 m pc ls [.long v]) :=
  W.lret hx hb hr (fun t ht hW => ⟨⟨v, u, rfl, hpost, by rw [ht]; exact hP, va_K.moved hW.alike hK, hD⟩, hS.F ht⟩) hS.2.2 hdg hlocks
theorem g_fret {post : UInt32 → (Nat → Int → Int) → Prop} {v : UInt32} {u : Nat → Int → Int} (hx : p.tables.exec = Jvm.exec) (hb : c.code = cc) (hr : meth.sig.returnType = some .float) (hlocks : meth.locks = false) (hK : va_K G vwCl tys s) (hP : va_P G vwCl (wf u) H) (hD : va_D A (wf u)) (hS : va_S A s.heap H locs) (hpost : post v u) (hdg : decode cc pc = .ok (.freturn, 1)) : W p l e R s m args below meth c H locs cells slots (MQ below (va_Qf post (gW G tys A wf) A) args s cells slots A) (F0 m pc ls [.float v]) :=
  W.fret hx hb hr (fun t ht hW => ⟨⟨v, u, rfl, hpost, by rw [ht]; exact hP, va_K.moved hW.alike hK, hD⟩, hS.F ht⟩) hS.2.2 hdg hlocks
/-- rows: a read, a write; behind a write the world is said by the words of a new σ -/
theorem g_iald {a : Nat} {cA : ClassId} {n : Nat} {f : Int → Int} {v : Int} (hx : p.tables.exec = Jvm.exec) (hb : c.code = cc) (hK : va_K G vwCl tys s) (hP : va_P G vwCl (wf σ) H) (q0 t0 : Nat) (ha : (wf σ)[q0]? = some (a, .inl (cA, n, .inl (aI f)))) (ht : tys[t0]? = some (cA, .int)) {i : Int} (hn : n < 2147483648) (h : 0 ≤ i ∧ i < (n : Int)) (hv : f i = v) (hdg : decode cc pc = .ok (.iaload, 1))
    (kk : W p l e R s m args below meth c H locs cells slots Q (F0 m (pc + 1) ls (.int (iI v) :: rest))) : W p l e R s m args below meth c H locs cells slots Q (F0 m pc ls (.int (iI i) :: .ref a :: rest)) :=
  va_iald hx hb hK hP q0 t0 ha ht (iI_in hn h) hdg (by rw [aI_at f ⟨h.1, by omega⟩, hv]; exact kk)
theorem g_zald {a : Nat} {cA : ClassId} {n : Nat} {f : Int → Int} {v : Int} (hx : p.tables.exec = Jvm.exec) (hb : c.code = cc) (hK : va_K G vwCl tys s) (hP : va_P G vwCl (wf σ) H) (q0 t0 : Nat) (ha : (wf σ)[q0]? = some (a, .inl (cA, n, .inl (aI f)))) (ht : tys[t0]? = some (cA, .boolean)) {i : Int} (hn : n < 2147483648) (h : 0 ≤ i ∧ i < (n : Int)) (hv : f i = v) (hdg : decode cc pc = .ok (.baload, 1))
    (kk : W p l e R s m args below meth c H locs cells slots Q (F0 m (pc + 1) ls (.int (iI v) :: rest))) : W p l e R s m args below meth c H locs cells slots Q (F0 m pc ls (.int (iI i) :: .ref a :: rest)) :=
  va_zald hx hb hK hP q0 t0 ha ht (iI_in hn h) hdg (by rw [aI_at f ⟨h.1, by omega⟩, hv]; exact kk)
theorem g_lald {a : Nat} {cA : ClassId} {n : Nat} {f : Int → Int} {v : Int} (hx : p.tables.exec = Jvm.exec) (hb : c.code = cc) (hK : va_K G vwCl tys s) (hP : va_P G vwCl (wf σ) H) (q0 t0 : Nat) (ha : (wf σ)[q0]? = some (a, .inl (cA, n, .inr (.inl (aL f))))) (ht : tys[t0]? = some (cA, .long)) {i : Int} (hn : n < 2147483648) (h : 0 ≤ i ∧ i < (n : Int)) (hv : f i = v) (hdg : decode cc pc = .ok (.laload, 1))
    (kk : W p l e R s m args below meth c H locs cells slots Q (F0 m (pc + 1) ls (.long (lI v) :: rest))) : W p l e R s m args below meth c H locs cells slots Q (F0 m pc ls (.int (iI i) :: .ref a :: rest)) :=
  va_lald hx hb hK hP q0 t0 ha ht (iI_in hn h) hdg (by rw [aL_at f ⟨h.1, by omega⟩, hv]; exact kk)
theorem g_iast {a : Nat} {cA : ClassId} {n : Nat} {f : Int → Int} {i v : Int} {τ : Nat → Int → Int} (hx : p.tables.exec = Jvm.exec) (hb : c.code = cc) (hK : va_K G vwCl tys s) (hP : va_P G vwCl (wf σ) H) (hD : va_D A (wf σ)) (hS : va_S A H0 H locs) (q0 t0 : Nat) (ha : (wf σ)[q0]? = some (a, .inl (cA, n, .inl (aI f)))) (ht : tys[t0]? = some (cA, .int)) (hn : n < 2147483648) (h : 0 ≤ i ∧ i < (n : Int)) (hdg : decode cc pc = .ok (.iastore, 1)) (hL : leW G vwCl ((wf σ).set q0 (a, .inl (cA, n, .inl (aI (ups f i v))))) (wf τ))
    (kk : ∀ (H1 : Heap) (locs1 : List Loc), va_P G vwCl (wf τ) H1 → va_D A (wf τ) → va_S A H0 H1 locs1 → W p l e R s m args below meth c H1 locs1 cells slots Q (F0 m (pc + 1) ls rest)) : W p l e R s m args below meth c H locs cells slots Q (F0 m pc ls (.int (iI v) :: .int (iI i) :: .ref a :: rest)) :=
  va_iast hx hb hK hP hD hS q0 t0 ha ht (iI_in hn h) hdg (fun H1 locs1 q1 q2 q3 => by
    rw [aI_up f v ⟨h.1, by omega⟩] at q1 q2
    exact kk H1 locs1 (leW_P hL q1) (leW_D hL q2) q3)
theorem nar_z (v : Int) (h : v = 0 ∨ v = 1) : vp_nar .boolean (iI v) = iI v := by rcases h with rfl | rfl <;> rfl
theorem g_zast {a : Nat} {cA : ClassId} {n : Nat} {f : Int → Int} {i v : Int} {τ : Nat → Int → Int} (hx : p.tables.exec = Jvm.exec) (hb : c.code = cc) (hK : va_K G vwCl tys s) (hP : va_P G vwCl (wf σ) H) (hD : va_D A (wf σ)) (hS : va_S A H0 H locs) (q0 t0 : Nat) (ha : (wf σ)[q0]? = some (a, .inl (cA, n, .inl (aI f)))) (ht : tys[t0]? = some (cA, .boolean)) (hn : n < 2147483648) (h : 0 ≤ i ∧ i < (n : Int)) (hv : v = 0 ∨ v = 1) (hdg : decode cc pc = .ok (.bastore, 1)) (hL : leW G vwCl ((wf σ).set q0 (a, .inl (cA, n, .inl (aI (ups f i v))))) (wf τ))
    (kk : ∀ (H1 : Heap) (locs1 : List Loc), va_P G vwCl (wf τ) H1 → va_D A (wf τ) → va_S A H0 H1 locs1 → W p l e R s m args below meth c H1 locs1 cells slots Q (F0 m (pc + 1) ls rest)) : W p l e R s m args below meth c H locs cells slots Q (F0 m pc ls (.int (iI v) :: .int (iI i) :: .ref a :: rest)) :=
  va_zast hx hb hK hP hD hS q0 t0 ha ht (iI_in hn h) hdg (fun H1 locs1 q1 q2 q3 => by
    rw [nar_z v hv, aI_up f v ⟨h.1, by omega⟩] at q1 q2
    exact kk H1 locs1 (leW_P hL q1) (leW_D hL q2) q3)
theorem g_last {a : Nat} {cA : ClassId} {n : Nat} {f : Int → Int} {i v : Int} {τ : Nat → Int → Int} (hx : p.tables.exec = Jvm.exec) (hb : c.code = cc) (hK : va_K G vwCl tys s) (hP : va_P G vwCl (wf σ) H) (hD : va_D A (wf σ)) (hS : va_S A H0 H locs) (q0 t0 : Nat) (ha : (wf σ)[q0]? = some (a, .inl (cA, n, .inr (.inl (aL f))))) (ht : tys[t0]? = some (cA, .long)) (hn : n < 2147483648) (h : 0 ≤ i ∧ i < (n : Int)) (hdg : decode cc pc = .ok (.lastore, 1)) (hL : leW G vwCl ((wf σ).set q0 (a, .inl (cA, n, .inr (.inl (aL (ups f i v)))))) (wf τ))
    (kk : ∀ (H1 : Heap) (locs1 : List Loc), va_P G vwCl (wf τ) H1 → va_D A (wf τ) → va_S A H0 H1 locs1 → W p l e R s m args below meth c H1 locs1 cells slots Q (F0 m (pc + 1) ls rest)) : W p l e R s m args below meth c H locs cells slots Q (F0 m pc ls (.long (lI v) :: .int (iI i) :: .ref a :: rest)) :=
  va_last hx hb hK hP hD hS q0 t0 ha ht (iI_in hn h) hdg (fun H1 locs1 q1 q2 q3 => by
    rw [aL_up f v ⟨h.1, by omega⟩] at q1 q2
    exact kk H1 locs1 (leW_P hL q1) (leW_D hL q2) q3)
end GROWS
end
section
/-! the two worlds, written by wip/gen/worlds.py: wx the program, wm the reference; a row that is written, a field that is put -/
def wx (cx a : Nat → Nat) (σ : Nat → Int → Int) : va_W :=
  [(a 0, .inr (4, [.ref (a 3), .ref (a 8), .ref (a 14), .ref (a 17), .ref (a 59), .ref (a 1), .ref (a 2)])),
   (a 1, .inl (cx 2, 2, .inl (aI (σ 11)))),
   (a 2, .inl (cx 0, 16, .inl (aI (σ 13)))),
   (a 3, .inr (2, [.int (iI (σ 0 0)), .int (iI (σ 0 74)), .ref (a 4), .ref (a 5), .ref (a 6), .ref (a 7)])),
   (a 4, .inl (cx 0, 64, .inl (aI (fun k => σ 0 (10 + k))))),
   (a 5, .inl (cx 0, 9, .inl (aI (fun k => σ 0 (1 + k))))),
   (a 6, .inl (cx 0, 16, .inl (aI (fun k => σ 0 (75 + k))))),
   (a 7, .inl (cx 0, 16, .inl (aI (fun k => σ 0 (91 + k))))),
   (a 8, .inr (0, [.ref (a 3), .int (iI (σ 21 0)), .int (iI (σ 21 1)), .ref (a 9), .ref (a 10), .ref (a 11), .ref (a 12), .ref (a 13)])),
   (a 9, .inl (cx 0, 33, .inl (aI (σ 14)))),
   (a 10, .inl (cx 0, 16, .inl (aI (σ 15)))),
   (a 11, .inl (cx 0, 16, .inl (aI (σ 16)))),
   (a 12, .inl (cx 0, 561, .inl (aI (σ 17)))),
   (a 13, .inl (cx 0, 17, .inl (aI (σ 18)))),
   (a 14, .inr (3, [.ref (a 3), .ref (a 8), .ref (a 15), .ref (a 16)])),
   (a 15, .inl (cx 0, 16, .inl (aI (σ 19)))),
   (a 16, .inl (cx 1, 16, .inr (.inl (aL (σ 20))))),
   (a 17, .inr (1, [.ref (a 18), .int (iI (σ 12 0)), .int (iI (σ 12 1))])),
   (a 18, .inl (cx 3, 8, .inr (.inr (.inr (.inr (fun k => some (a (19 + 5 * k)))))))),
   (a 19, .inr (2, [.int (iI (σ 1 0)), .int (iI (σ 1 74)), .ref (a 20), .ref (a 21), .ref (a 22), .ref (a 23)])),
   (a 20, .inl (cx 0, 64, .inl (aI (fun k => σ 1 (10 + k))))),
   (a 21, .inl (cx 0, 9, .inl (aI (fun k => σ 1 (1 + k))))),
   (a 22, .inl (cx 0, 16, .inl (aI (fun k => σ 1 (75 + k))))),
   (a 23, .inl (cx 0, 16, .inl (aI (fun k => σ 1 (91 + k))))),
   (a 24, .inr (2, [.int (iI (σ 2 0)), .int (iI (σ 2 74)), .ref (a 25), .ref (a 26), .ref (a 27), .ref (a 28)])),
   (a 25, .inl (cx 0, 64, .inl (aI (fun k => σ 2 (10 + k))))),
   (a 26, .inl (cx 0, 9, .inl (aI (fun k => σ 2 (1 + k))))),
   (a 27, .inl (cx 0, 16, .inl (aI (fun k => σ 2 (75 + k))))),
   (a 28, .inl (cx 0, 16, .inl (aI (fun k => σ 2 (91 + k))))),
   (a 29, .inr (2, [.int (iI (σ 3 0)), .int (iI (σ 3 74)), .ref (a 30), .ref (a 31), .ref (a 32), .ref (a 33)])),
   (a 30, .inl (cx 0, 64, .inl (aI (fun k => σ 3 (10 + k))))),
   (a 31, .inl (cx 0, 9, .inl (aI (fun k => σ 3 (1 + k))))),
   (a 32, .inl (cx 0, 16, .inl (aI (fun k => σ 3 (75 + k))))),
   (a 33, .inl (cx 0, 16, .inl (aI (fun k => σ 3 (91 + k))))),
   (a 34, .inr (2, [.int (iI (σ 4 0)), .int (iI (σ 4 74)), .ref (a 35), .ref (a 36), .ref (a 37), .ref (a 38)])),
   (a 35, .inl (cx 0, 64, .inl (aI (fun k => σ 4 (10 + k))))),
   (a 36, .inl (cx 0, 9, .inl (aI (fun k => σ 4 (1 + k))))),
   (a 37, .inl (cx 0, 16, .inl (aI (fun k => σ 4 (75 + k))))),
   (a 38, .inl (cx 0, 16, .inl (aI (fun k => σ 4 (91 + k))))),
   (a 39, .inr (2, [.int (iI (σ 5 0)), .int (iI (σ 5 74)), .ref (a 40), .ref (a 41), .ref (a 42), .ref (a 43)])),
   (a 40, .inl (cx 0, 64, .inl (aI (fun k => σ 5 (10 + k))))),
   (a 41, .inl (cx 0, 9, .inl (aI (fun k => σ 5 (1 + k))))),
   (a 42, .inl (cx 0, 16, .inl (aI (fun k => σ 5 (75 + k))))),
   (a 43, .inl (cx 0, 16, .inl (aI (fun k => σ 5 (91 + k))))),
   (a 44, .inr (2, [.int (iI (σ 6 0)), .int (iI (σ 6 74)), .ref (a 45), .ref (a 46), .ref (a 47), .ref (a 48)])),
   (a 45, .inl (cx 0, 64, .inl (aI (fun k => σ 6 (10 + k))))),
   (a 46, .inl (cx 0, 9, .inl (aI (fun k => σ 6 (1 + k))))),
   (a 47, .inl (cx 0, 16, .inl (aI (fun k => σ 6 (75 + k))))),
   (a 48, .inl (cx 0, 16, .inl (aI (fun k => σ 6 (91 + k))))),
   (a 49, .inr (2, [.int (iI (σ 7 0)), .int (iI (σ 7 74)), .ref (a 50), .ref (a 51), .ref (a 52), .ref (a 53)])),
   (a 50, .inl (cx 0, 64, .inl (aI (fun k => σ 7 (10 + k))))),
   (a 51, .inl (cx 0, 9, .inl (aI (fun k => σ 7 (1 + k))))),
   (a 52, .inl (cx 0, 16, .inl (aI (fun k => σ 7 (75 + k))))),
   (a 53, .inl (cx 0, 16, .inl (aI (fun k => σ 7 (91 + k))))),
   (a 54, .inr (2, [.int (iI (σ 8 0)), .int (iI (σ 8 74)), .ref (a 55), .ref (a 56), .ref (a 57), .ref (a 58)])),
   (a 55, .inl (cx 0, 64, .inl (aI (fun k => σ 8 (10 + k))))),
   (a 56, .inl (cx 0, 9, .inl (aI (fun k => σ 8 (1 + k))))),
   (a 57, .inl (cx 0, 16, .inl (aI (fun k => σ 8 (75 + k))))),
   (a 58, .inl (cx 0, 16, .inl (aI (fun k => σ 8 (91 + k))))),
   (a 59, .inl (cx 3, 2, .inr (.inr (.inr (.inr (fun k => some (a (60 + 5 * k)))))))),
   (a 60, .inr (2, [.int (iI (σ 9 0)), .int (iI (σ 9 74)), .ref (a 61), .ref (a 62), .ref (a 63), .ref (a 64)])),
   (a 61, .inl (cx 0, 64, .inl (aI (fun k => σ 9 (10 + k))))),
   (a 62, .inl (cx 0, 9, .inl (aI (fun k => σ 9 (1 + k))))),
   (a 63, .inl (cx 0, 16, .inl (aI (fun k => σ 9 (75 + k))))),
   (a 64, .inl (cx 0, 16, .inl (aI (fun k => σ 9 (91 + k))))),
   (a 65, .inr (2, [.int (iI (σ 10 0)), .int (iI (σ 10 74)), .ref (a 66), .ref (a 67), .ref (a 68), .ref (a 69)])),
   (a 66, .inl (cx 0, 64, .inl (aI (fun k => σ 10 (10 + k))))),
   (a 67, .inl (cx 0, 9, .inl (aI (fun k => σ 10 (1 + k))))),
   (a 68, .inl (cx 0, 16, .inl (aI (fun k => σ 10 (75 + k))))),
   (a 69, .inl (cx 0, 16, .inl (aI (fun k => σ 10 (91 + k)))))]

def wm (cx a : Nat → Nat) (σ : Nat → Int → Int) : va_W :=
  [(a 0, .inr (5, [.ref (a 1), .ref (a 2), .int (iI (σ 2 0)), .ref (a 3), .int (iI (σ 2 1)), .ref (a 4), .ref (a 5), .ref (a 6), .ref (a 7), .long (lI (σ 2 2)), .ref (a 8)])),
   (a 1, .inl (cx 0, 107, .inl (aI (σ 0)))),
   (a 2, .inl (cx 0, 856, .inl (aI (σ 1)))),
   (a 3, .inl (cx 0, 214, .inl (aI (σ 3)))),
   (a 4, .inl (cx 0, 16, .inl (aI (σ 4)))),
   (a 5, .inl (cx 0, 16, .inl (aI (σ 5)))),
   (a 6, .inl (cx 0, 17, .inl (aI (σ 6)))),
   (a 7, .inl (cx 1, 544, .inr (.inl (aL (σ 7))))),
   (a 8, .inl (cx 2, 16, .inl (aI (σ 8))))]

abbrev tx (cx : Nat → Nat) : List (ClassId × FieldType) := [(cx 0, .int), (cx 1, .long), (cx 2, .boolean), (cx 3, .object "LoopSlicer$Loop")]
abbrev tm (cx : Nat → Nat) : List (ClassId × FieldType) := [(cx 0, .int), (cx 1, .long), (cx 2, .boolean)]
def XA (a : Nat → Nat) : Nat → Prop := fun q => ∃ k, k < 70 ∧ q = a k
def MA (a : Nat → Nat) : Nat → Prop := fun q => ∃ k, k < 9 ∧ q = a k
theorem wx_up_1 {G : va_G} {cx a : Nat → Nat} {σ : Nat → Int → Int} {i v : Int} (h : 0 ≤ i ∧ i < 2) : leW G vwCl ((wx cx a σ).set 1 (a 1, .inl (cx 2, 2, .inl (aI (ups (σ 11) i v))))) (wx cx a (st σ 11 i v)) := by
  refine leW_k ?_
  refine leW_k ?_
  refine leW_k ?_
  refine leW_k ?_
  refine leW_k ?_
  refine leW_k ?_
  refine leW_k ?_
  refine leW_k ?_
  refine leW_k ?_
  refine leW_k ?_
  refine leW_k ?_
  refine leW_k ?_
  refine leW_k ?_
  refine leW_k ?_
  refine leW_k ?_
  refine leW_k ?_
  refine leW_k ?_
  refine leW_k ?_
  refine leW_k ?_
  refine leW_k ?_
  refine leW_k ?_
  refine leW_k ?_
  refine leW_k ?_
  refine leW_k ?_
  refine leW_k ?_
  refine leW_k ?_
  refine leW_k ?_
  refine leW_k ?_
  refine leW_k ?_
  refine leW_k ?_
  refine leW_k ?_
  refine leW_k ?_
  refine leW_k ?_
  refine leW_k ?_
  refine leW_k ?_
  refine leW_k ?_
  refine leW_k ?_
  refine leW_k ?_
  refine leW_k ?_
  refine leW_k ?_
  refine leW_k ?_
  refine leW_k ?_
  refine leW_k ?_
  refine leW_k ?_
  refine leW_k ?_
  refine leW_k ?_
  refine leW_k ?_
  refine leW_k ?_
  refine leW_k ?_
  refine leW_k ?_
  refine leW_k ?_
  refine leW_k ?_
  refine leW_k ?_
  refine leW_k ?_
  refine leW_k ?_
  refine leW_k ?_
  refine leW_k ?_
  refine leW_k ?_
  refine leW_k ?_
  refine leW_k ?_
  refine leW_k ?_
  refine leW_k ?_
  refine leW_k ?_
  refine leW_k ?_
  refine leW_k ?_
  refine leW_k ?_
  refine leW_k ?_
  refine leW_k ?_
  refine leW_k ?_
  refine leW_k ?_
  exact leW_0

theorem wx_up_2 {G : va_G} {cx a : Nat → Nat} {σ : Nat → Int → Int} {i v : Int} (h : 0 ≤ i ∧ i < 16) : leW G vwCl ((wx cx a σ).set 2 (a 2, .inl (cx 0, 16, .inl (aI (ups (σ 13) i v))))) (wx cx a (st σ 13 i v)) := by
  refine leW_k ?_
  refine leW_k ?_
  refine leW_k ?_
  refine leW_k ?_
  refine leW_k ?_
  refine leW_k ?_
  refine leW_k ?_
  refine leW_k ?_
  refine leW_k ?_
  refine leW_k ?_
  refine leW_k ?_
  refine leW_k ?_
  refine leW_k ?_
  refine leW_k ?_
  refine leW_k ?_
  refine leW_k ?_
  refine leW_k ?_
  refine leW_k ?_
  refine leW_k ?_
  refine leW_k ?_
  refine leW_k ?_
  refine leW_k ?_
  refine leW_k ?_
  refine leW_k ?_
  refine leW_k ?_
  refine leW_k ?_
  refine leW_k ?_
  refine leW_k ?_
  refine leW_k ?_
  refine leW_k ?_
  refine leW_k ?_
  refine leW_k ?_
  refine leW_k ?_
  refine leW_k ?_
  refine leW_k ?_
  refine leW_k ?_
  refine leW_k ?_
  refine leW_k ?_
  refine leW_k ?_
  refine leW_k ?_
  refine leW_k ?_
  refine leW_k ?_
  refine leW_k ?_
  refine leW_k ?_
  refine leW_k ?_
  refine leW_k ?_
  refine leW_k ?_
  refine leW_k ?_
  refine leW_k ?_
  refine leW_k ?_
  refine leW_k ?_
  refine leW_k ?_
  refine leW_k ?_
  refine leW_k ?_
  refine leW_k ?_
  refine leW_k ?_
  refine leW_k ?_
  refine leW_k ?_
  refine leW_k ?_
  refine leW_k ?_
  refine leW_k ?_
  refine leW_k ?_
  refine leW_k ?_
  refine leW_k ?_
  refine leW_k ?_
  refine leW_k ?_
  refine leW_k ?_
  refine leW_k ?_
  refine leW_k ?_
  refine leW_k ?_
  exact leW_0

theorem wx_pf_3_0 {G : va_G} {cx a : Nat → Nat} {σ : Nat → Int → Int} {v : Int} : leW G vwCl ((wx cx a σ).set 3 (a 3, .inr (2, [.int (iI v), .int (iI (σ 0 74)), .ref (a 4), .ref (a 5), .ref (a 6), .ref (a 7)]))) (wx cx a (st σ 0 0 v)) := by
  refine leW_k ?_
  refine leW_k ?_
  refine leW_k ?_
  refine leW_o ?_ ?_
  rotate_left
  · rw [show st σ 0 0 v 0 0 = v from by rw [st_a]; exact if_pos ⟨rfl, rfl⟩, show st σ 0 0 v 0 74 = σ 0 74 from by rw [st_a]; exact if_neg (by omega)]
  refine leW_i ?_ (fun k h1 h2 => ?_)
  rotate_left
  · show σ 0 (10 + k) = (if 10 + k = 0 then v else σ 0 (10 + k))
    rw [if_neg (by omega)]
  refine leW_i ?_ (fun k h1 h2 => ?_)
  rotate_left
  · show σ 0 (1 + k) = (if 1 + k = 0 then v else σ 0 (1 + k))
    rw [if_neg (by omega)]
  refine leW_i ?_ (fun k h1 h2 => ?_)
  rotate_left
  · show σ 0 (75 + k) = (if 75 + k = 0 then v else σ 0 (75 + k))
    rw [if_neg (by omega)]
  refine leW_i ?_ (fun k h1 h2 => ?_)
  rotate_left
  · show σ 0 (91 + k) = (if 91 + k = 0 then v else σ 0 (91 + k))
    rw [if_neg (by omega)]
  refine leW_k ?_
  refine leW_k ?_
  refine leW_k ?_
  refine leW_k ?_
  refine leW_k ?_
  refine leW_k ?_
  refine leW_k ?_
  refine leW_k ?_
  refine leW_k ?_
  refine leW_k ?_
  refine leW_k ?_
  refine leW_k ?_
  refine leW_k ?_
  refine leW_k ?_
  refine leW_k ?_
  refine leW_k ?_
  refine leW_k ?_
  refine leW_k ?_
  refine leW_k ?_
  refine leW_k ?_
  refine leW_k ?_
  refine leW_k ?_
  refine leW_k ?_
  refine leW_k ?_
  refine leW_k ?_
  refine leW_k ?_
  refine leW_k ?_
  refine leW_k ?_
  refine leW_k ?_
  refine leW_k ?_
  refine leW_k ?_
  refine leW_k ?_
  refine leW_k ?_
  refine leW_k ?_
  refine leW_k ?_
  refine leW_k ?_
  refine leW_k ?_
  refine leW_k ?_
  refine leW_k ?_
  refine leW_k ?_
  refine leW_k ?_
  refine leW_k ?_
  refine leW_k ?_
  refine leW_k ?_
  refine leW_k ?_
  refine leW_k ?_
  refine leW_k ?_
  refine leW_k ?_
  refine leW_k ?_
  refine leW_k ?_
  refine leW_k ?_
  refine leW_k ?_
  refine leW_k ?_
  refine leW_k ?_
  refine leW_k ?_
  refine leW_k ?_
  refine leW_k ?_
  refine leW_k ?_
  refine leW_k ?_
  refine leW_k ?_
  refine leW_k ?_
  refine leW_k ?_
  exact leW_0

theorem wx_pf_3_1 {G : va_G} {cx a : Nat → Nat} {σ : Nat → Int → Int} {v : Int} : leW G vwCl ((wx cx a σ).set 3 (a 3, .inr (2, [.int (iI (σ 0 0)), .int (iI v), .ref (a 4), .ref (a 5), .ref (a 6), .ref (a 7)]))) (wx cx a (st σ 0 74 v)) := by
  refine leW_k ?_
  refine leW_k ?_
  refine leW_k ?_
  refine leW_o ?_ ?_
  rotate_left
  · rw [show st σ 0 74 v 0 74 = v from by rw [st_a]; exact if_pos ⟨rfl, rfl⟩, show st σ 0 74 v 0 0 = σ 0 0 from by rw [st_a]; exact if_neg (by omega)]
  refine leW_i ?_ (fun k h1 h2 => ?_)
  rotate_left
  · show σ 0 (10 + k) = (if 10 + k = 74 then v else σ 0 (10 + k))
    rw [if_neg (by omega)]
  refine leW_i ?_ (fun k h1 h2 => ?_)
  rotate_left
  · show σ 0 (1 + k) = (if 1 + k = 74 then v else σ 0 (1 + k))
    rw [if_neg (by omega)]
  refine leW_i ?_ (fun k h1 h2 => ?_)
  rotate_left
  · show σ 0 (75 + k) = (if 75 + k = 74 then v else σ 0 (75 + k))
    rw [if_neg (by omega)]
  refine leW_i ?_ (fun k h1 h2 => ?_)
  rotate_left
  · show σ 0 (91 + k) = (if 91 + k = 74 then v else σ 0 (91 + k))
    rw [if_neg (by omega)]
  refine leW_k ?_
  refine leW_k ?_
  refine leW_k ?_
  refine leW_k ?_
  refine leW_k ?_
  refine leW_k ?_
  refine leW_k ?_
  refine leW_k ?_
  refine leW_k ?_
  refine leW_k ?_
  refine leW_k ?_
  refine leW_k ?_
  refine leW_k ?_
  refine leW_k ?_
  refine leW_k ?_
  refine leW_k ?_
  refine leW_k ?_
  refine leW_k ?_
  refine leW_k ?_
  refine leW_k ?_
  refine leW_k ?_
  refine leW_k ?_
  refine leW_k ?_
  refine leW_k ?_
  refine leW_k ?_
  refine leW_k ?_
  refine leW_k ?_
  refine leW_k ?_
  refine leW_k ?_
  refine leW_k ?_
  refine leW_k ?_
  refine leW_k ?_
  refine leW_k ?_
  refine leW_k ?_
  refine leW_k ?_
  refine leW_k ?_
  refine leW_k ?_
  refine leW_k ?_
  refine leW_k ?_
  refine leW_k ?_
  refine leW_k ?_
  refine leW_k ?_
  refine leW_k ?_
  refine leW_k ?_
  refine leW_k ?_
  refine leW_k ?_
  refine leW_k ?_
  refine leW_k ?_
  refine leW_k ?_
  refine leW_k ?_
  refine leW_k ?_
  refine leW_k ?_
  refine leW_k ?_
  refine leW_k ?_
  refine leW_k ?_
  refine leW_k ?_
  refine leW_k ?_
  refine leW_k ?_
  refine leW_k ?_
  refine leW_k ?_
  refine leW_k ?_
  refine leW_k ?_
  exact leW_0

theorem wx_up_4 {G : va_G} {cx a : Nat → Nat} {σ : Nat → Int → Int} {i v : Int} (h : 0 ≤ i ∧ i < 64) : leW G vwCl ((wx cx a σ).set 4 (a 4, .inl (cx 0, 64, .inl (aI (ups (fun k => σ 0 (10 + k)) i v))))) (wx cx a (st σ 0 (10 + i) v)) := by
  refine leW_k ?_
  refine leW_k ?_
  refine leW_k ?_
  refine leW_o ?_ ?_
  rotate_left
  · rw [show st σ 0 (10 + i) v 0 0 = σ 0 0 from by rw [st_a]; exact if_neg (by omega), show st σ 0 (10 + i) v 0 74 = σ 0 74 from by rw [st_a]; exact if_neg (by omega)]
  refine leW_i ?_ (fun k h1 h2 => ?_)
  rotate_left
  · show (if k = i then v else σ 0 (10 + k)) = (if 10 + k = (10 + i) then v else σ 0 (10 + k))
    by_cases hk : k = i
    · rw [if_pos hk, if_pos (by omega)]
    · rw [if_neg hk, if_neg (by omega)]
  refine leW_i ?_ (fun k h1 h2 => ?_)
  rotate_left
  · show σ 0 (1 + k) = (if 1 + k = (10 + i) then v else σ 0 (1 + k))
    rw [if_neg (by omega)]
  refine leW_i ?_ (fun k h1 h2 => ?_)
  rotate_left
  · show σ 0 (75 + k) = (if 75 + k = (10 + i) then v else σ 0 (75 + k))
    rw [if_neg (by omega)]
  refine leW_i ?_ (fun k h1 h2 => ?_)
  rotate_left
  · show σ 0 (91 + k) = (if 91 + k = (10 + i) then v else σ 0 (91 + k))
    rw [if_neg (by omega)]
  refine leW_k ?_
  refine leW_k ?_
  refine leW_k ?_
  refine leW_k ?_
  refine leW_k ?_
  refine leW_k ?_
  refine leW_k ?_
  refine leW_k ?_
  refine leW_k ?_
  refine leW_k ?_
  refine leW_k ?_
  refine leW_k ?_
  refine leW_k ?_
  refine leW_k ?_
  refine leW_k ?_
  refine leW_k ?_
  refine leW_k ?_
  refine leW_k ?_
  refine leW_k ?_
  refine leW_k ?_
  refine leW_k ?_
  refine leW_k ?_
  refine leW_k ?_
  refine leW_k ?_
  refine leW_k ?_
  refine leW_k ?_
  refine leW_k ?_
  refine leW_k ?_
  refine leW_k ?_
  refine leW_k ?_
  refine leW_k ?_
  refine leW_k ?_
  refine leW_k ?_
  refine leW_k ?_
  refine leW_k ?_
  refine leW_k ?_
  refine leW_k ?_
  refine leW_k ?_
  refine leW_k ?_
  refine leW_k ?_
  refine leW_k ?_
  refine leW_k ?_
  refine leW_k ?_
  refine leW_k ?_
  refine leW_k ?_
  refine leW_k ?_
  refine leW_k ?_
  refine leW_k ?_
  refine leW_k ?_
  refine leW_k ?_
  refine leW_k ?_
  refine leW_k ?_
  refine leW_k ?_
  refine leW_k ?_
  refine leW_k ?_
  refine leW_k ?_
  refine leW_k ?_
  refine leW_k ?_
  refine leW_k ?_
  refine leW_k ?_
  refine leW_k ?_
  refine leW_k ?_
  exact leW_0

theorem wx_up_5 {G : va_G} {cx a : Nat → Nat} {σ : Nat → Int → Int} {i v : Int} (h : 0 ≤ i ∧ i < 9) : leW G vwCl ((wx cx a σ).set 5 (a 5, .inl (cx 0, 9, .inl (aI (ups (fun k => σ 0 (1 + k)) i v))))) (wx cx a (st σ 0 (1 + i) v)) := by
  refine leW_k ?_
  refine leW_k ?_
  refine leW_k ?_
  refine leW_o ?_ ?_
  rotate_left
  · rw [show st σ 0 (1 + i) v 0 0 = σ 0 0 from by rw [st_a]; exact if_neg (by omega), show st σ 0 (1 + i) v 0 74 = σ 0 74 from by rw [st_a]; exact if_neg (by omega)]
  refine leW_i ?_ (fun k h1 h2 => ?_)
  rotate_left
  · show σ 0 (10 + k) = (if 10 + k = (1 + i) then v else σ 0 (10 + k))
    rw [if_neg (by omega)]
  refine leW_i ?_ (fun k h1 h2 => ?_)
  rotate_left
  · show (if k = i then v else σ 0 (1 + k)) = (if 1 + k = (1 + i) then v else σ 0 (1 + k))
    by_cases hk : k = i
    · rw [if_pos hk, if_pos (by omega)]
    · rw [if_neg hk, if_neg (by omega)]
  refine leW_i ?_ (fun k h1 h2 => ?_)
  rotate_left
  · show σ 0 (75 + k) = (if 75 + k = (1 + i) then v else σ 0 (75 + k))
    rw [if_neg (by omega)]
  refine leW_i ?_ (fun k h1 h2 => ?_)
  rotate_left
  · show σ 0 (91 + k) = (if 91 + k = (1 + i) then v else σ 0 (91 + k))
    rw [if_neg (by omega)]
  refine leW_k ?_
  refine leW_k ?_
  refine leW_k ?_
  refine leW_k ?_
  refine leW_k ?_
  refine leW_k ?_
  refine leW_k ?_
  refine leW_k ?_
  refine leW_k ?_
  refine leW_k ?_
  refine leW_k ?_
  refine leW_k ?_
  refine leW_k ?_
  refine leW_k ?_
  refine leW_k ?_
  refine leW_k ?_
  refine leW_k ?_
  refine leW_k ?_
  refine leW_k ?_
  refine leW_k ?_
  refine leW_k ?_
  refine leW_k ?_
  refine leW_k ?_
  refine leW_k ?_
  refine leW_k ?_
  refine leW_k ?_
  refine leW_k ?_
  refine leW_k ?_
  refine leW_k ?_
  refine leW_k ?_
  refine leW_k ?_
  refine leW_k ?_
  refine leW_k ?_
  refine leW_k ?_
  refine leW_k ?_
  refine leW_k ?_
  refine leW_k ?_
  refine leW_k ?_
  refine leW_k ?_
  refine leW_k ?_
  refine leW_k ?_
  refine leW_k ?_
  refine leW_k ?_
  refine leW_k ?_
  refine leW_k ?_
  refine leW_k ?_
  refine leW_k ?_
  refine leW_k ?_
  refine leW_k ?_
  refine leW_k ?_
  refine leW_k ?_
  refine leW_k ?_
  refine leW_k ?_
  refine leW_k ?_
  refine leW_k ?_
  refine leW_k ?_
  refine leW_k ?_
  refine leW_k ?_
  refine leW_k ?_
  refine leW_k ?_
  refine leW_k ?_
  refine leW_k ?_
  exact leW_0

theorem wx_up_6 {G : va_G} {cx a : Nat → Nat} {σ : Nat → Int → Int} {i v : Int} (h : 0 ≤ i ∧ i < 16) : leW G vwCl ((wx cx a σ).set 6 (a 6, .inl (cx 0, 16, .inl (aI (ups (fun k => σ 0 (75 + k)) i v))))) (wx cx a (st σ 0 (75 + i) v)) := by
  refine leW_k ?_
  refine leW_k ?_
  refine leW_k ?_
  refine leW_o ?_ ?_
  rotate_left
  · rw [show st σ 0 (75 + i) v 0 0 = σ 0 0 from by rw [st_a]; exact if_neg (by omega), show st σ 0 (75 + i) v 0 74 = σ 0 74 from by rw [st_a]; exact if_neg (by omega)]
  refine leW_i ?_ (fun k h1 h2 => ?_)
  rotate_left
  · show σ 0 (10 + k) = (if 10 + k = (75 + i) then v else σ 0 (10 + k))
    rw [if_neg (by omega)]
  refine leW_i ?_ (fun k h1 h2 => ?_)
  rotate_left
  · show σ 0 (1 + k) = (if 1 + k = (75 + i) then v else σ 0 (1 + k))
    rw [if_neg (by omega)]
  refine leW_i ?_ (fun k h1 h2 => ?_)
  rotate_left
  · show (if k = i then v else σ 0 (75 + k)) = (if 75 + k = (75 + i) then v else σ 0 (75 + k))
    by_cases hk : k = i
    · rw [if_pos hk, if_pos (by omega)]
    · rw [if_neg hk, if_neg (by omega)]
  refine leW_i ?_ (fun k h1 h2 => ?_)
  rotate_left
  · show σ 0 (91 + k) = (if 91 + k = (75 + i) then v else σ 0 (91 + k))
    rw [if_neg (by omega)]
  refine leW_k ?_
  refine leW_k ?_
  refine leW_k ?_
  refine leW_k ?_
  refine leW_k ?_
  refine leW_k ?_
  refine leW_k ?_
  refine leW_k ?_
  refine leW_k ?_
  refine leW_k ?_
  refine leW_k ?_
  refine leW_k ?_
  refine leW_k ?_
  refine leW_k ?_
  refine leW_k ?_
  refine leW_k ?_
  refine leW_k ?_
  refine leW_k ?_
  refine leW_k ?_
  refine leW_k ?_
  refine leW_k ?_
  refine leW_k ?_
  refine leW_k ?_
  refine leW_k ?_
  refine leW_k ?_
  refine leW_k ?_
  refine leW_k ?_
  refine leW_k ?_
  refine leW_k ?_
  refine leW_k ?_
  refine leW_k ?_
  refine leW_k ?_
  refine leW_k ?_
  refine leW_k ?_
  refine leW_k ?_
  refine leW_k ?_
  refine leW_k ?_
  refine leW_k ?_
  refine leW_k ?_
  refine leW_k ?_
  refine leW_k ?_
  refine leW_k ?_
  refine leW_k ?_
  refine leW_k ?_
  refine leW_k ?_
  refine leW_k ?_
  refine leW_k ?_
  refine leW_k ?_
  refine leW_k ?_
  refine leW_k ?_
  refine leW_k ?_
  refine leW_k ?_
  refine leW_k ?_
  refine leW_k ?_
  refine leW_k ?_
  refine leW_k ?_
  refine leW_k ?_
  refine leW_k ?_
  refine leW_k ?_
  refine leW_k ?_
  refine leW_k ?_
  refine leW_k ?_
  exact leW_0

theorem wx_up_7 {G : va_G} {cx a : Nat → Nat} {σ : Nat → Int → Int} {i v : Int} (h : 0 ≤ i ∧ i < 16) : leW G vwCl ((wx cx a σ).set 7 (a 7, .inl (cx 0, 16, .inl (aI (ups (fun k => σ 0 (91 + k)) i v))))) (wx cx a (st σ 0 (91 + i) v)) := by
  refine leW_k ?_
  refine leW_k ?_
  refine leW_k ?_
  refine leW_o ?_ ?_
  rotate_left
  · rw [show st σ 0 (91 + i) v 0 0 = σ 0 0 from by rw [st_a]; exact if_neg (by omega), show st σ 0 (91 + i) v 0 74 = σ 0 74 from by rw [st_a]; exact if_neg (by omega)]
  refine leW_i ?_ (fun k h1 h2 => ?_)
  rotate_left
  · show σ 0 (10 + k) = (if 10 + k = (91 + i) then v else σ 0 (10 + k))
    rw [if_neg (by omega)]
  refine leW_i ?_ (fun k h1 h2 => ?_)
  rotate_left
  · show σ 0 (1 + k) = (if 1 + k = (91 + i) then v else σ 0 (1 + k))
    rw [if_neg (by omega)]
  refine leW_i ?_ (fun k h1 h2 => ?_)
  rotate_left
  · show σ 0 (75 + k) = (if 75 + k = (91 + i) then v else σ 0 (75 + k))
    rw [if_neg (by omega)]
  refine leW_i ?_ (fun k h1 h2 => ?_)
  rotate_left
  · show (if k = i then v else σ 0 (91 + k)) = (if 91 + k = (91 + i) then v else σ 0 (91 + k))
    by_cases hk : k = i
    · rw [if_pos hk, if_pos (by omega)]
    · rw [if_neg hk, if_neg (by omega)]
  refine leW_k ?_
  refine leW_k ?_
  refine leW_k ?_
  refine leW_k ?_
  refine leW_k ?_
  refine leW_k ?_
  refine leW_k ?_
  refine leW_k ?_
  refine leW_k ?_
  refine leW_k ?_
  refine leW_k ?_
  refine leW_k ?_
  refine leW_k ?_
  refine leW_k ?_
  refine leW_k ?_
  refine leW_k ?_
  refine leW_k ?_
  refine leW_k ?_
  refine leW_k ?_
  refine leW_k ?_
  refine leW_k ?_
  refine leW_k ?_
  refine leW_k ?_
  refine leW_k ?_
  refine leW_k ?_
  refine leW_k ?_
  refine leW_k ?_
  refine leW_k ?_
  refine leW_k ?_
  refine leW_k ?_
  refine leW_k ?_
  refine leW_k ?_
  refine leW_k ?_
  refine leW_k ?_
  refine leW_k ?_
  refine leW_k ?_
  refine leW_k ?_
  refine leW_k ?_
  refine leW_k ?_
  refine leW_k ?_
  refine leW_k ?_
  refine leW_k ?_
  refine leW_k ?_
  refine leW_k ?_
  refine leW_k ?_
  refine leW_k ?_
  refine leW_k ?_
  refine leW_k ?_
  refine leW_k ?_
  refine leW_k ?_
  refine leW_k ?_
  refine leW_k ?_
  refine leW_k ?_
  refine leW_k ?_
  refine leW_k ?_
  refine leW_k ?_
  refine leW_k ?_
  refine leW_k ?_
  refine leW_k ?_
  refine leW_k ?_
  refine leW_k ?_
  refine leW_k ?_
  exact leW_0

theorem wx_pf_8_1 {G : va_G} {cx a : Nat → Nat} {σ : Nat → Int → Int} {v : Int} : leW G vwCl ((wx cx a σ).set 8 (a 8, .inr (0, [.ref (a 3), .int (iI v), .int (iI (σ 21 1)), .ref (a 9), .ref (a 10), .ref (a 11), .ref (a 12), .ref (a 13)]))) (wx cx a (st σ 21 0 v)) := by
  refine leW_k ?_
  refine leW_k ?_
  refine leW_k ?_
  refine leW_k ?_
  refine leW_k ?_
  refine leW_k ?_
  refine leW_k ?_
  refine leW_k ?_
  refine leW_o ?_ rfl
  refine leW_k ?_
  refine leW_k ?_
  refine leW_k ?_
  refine leW_k ?_
  refine leW_k ?_
  refine leW_k ?_
  refine leW_k ?_
  refine leW_k ?_
  refine leW_k ?_
  refine leW_k ?_
  refine leW_k ?_
  refine leW_k ?_
  refine leW_k ?_
  refine leW_k ?_
  refine leW_k ?_
  refine leW_k ?_
  refine leW_k ?_
  refine leW_k ?_
  refine leW_k ?_
  refine leW_k ?_
  refine leW_k ?_
  refine leW_k ?_
  refine leW_k ?_
  refine leW_k ?_
  refine leW_k ?_
  refine leW_k ?_
  refine leW_k ?_
  refine leW_k ?_
  refine leW_k ?_
  refine leW_k ?_
  refine leW_k ?_
  refine leW_k ?_
  refine leW_k ?_
  refine leW_k ?_
  refine leW_k ?_
  refine leW_k ?_
  refine leW_k ?_
  refine leW_k ?_
  refine leW_k ?_
  refine leW_k ?_
  refine leW_k ?_
  refine leW_k ?_
  refine leW_k ?_
  refine leW_k ?_
  refine leW_k ?_
  refine leW_k ?_
  refine leW_k ?_
  refine leW_k ?_
  refine leW_k ?_
  refine leW_k ?_
  refine leW_k ?_
  refine leW_k ?_
  refine leW_k ?_
  refine leW_k ?_
  refine leW_k ?_
  refine leW_k ?_
  refine leW_k ?_
  refine leW_k ?_
  refine leW_k ?_
  refine leW_k ?_
  refine leW_k ?_
  exact leW_0

theorem wx_pf_8_2 {G : va_G} {cx a : Nat → Nat} {σ : Nat → Int → Int} {v : Int} : leW G vwCl ((wx cx a σ).set 8 (a 8, .inr (0, [.ref (a 3), .int (iI (σ 21 0)), .int (iI v), .ref (a 9), .ref (a 10), .ref (a 11), .ref (a 12), .ref (a 13)]))) (wx cx a (st σ 21 1 v)) := by
  refine leW_k ?_
  refine leW_k ?_
  refine leW_k ?_
  refine leW_k ?_
  refine leW_k ?_
  refine leW_k ?_
  refine leW_k ?_
  refine leW_k ?_
  refine leW_o ?_ rfl
  refine leW_k ?_
  refine leW_k ?_
  refine leW_k ?_
  refine leW_k ?_
  refine leW_k ?_
  refine leW_k ?_
  refine leW_k ?_
  refine leW_k ?_
  refine leW_k ?_
  refine leW_k ?_
  refine leW_k ?_
  refine leW_k ?_
  refine leW_k ?_
  refine leW_k ?_
  refine leW_k ?_
  refine leW_k ?_
  refine leW_k ?_
  refine leW_k ?_
  refine leW_k ?_
  refine leW_k ?_
  refine leW_k ?_
  refine leW_k ?_
  refine leW_k ?_
  refine leW_k ?_
  refine leW_k ?_
  refine leW_k ?_
  refine leW_k ?_
  refine leW_k ?_
  refine leW_k ?_
  refine leW_k ?_
  refine leW_k ?_
  refine leW_k ?_
  refine leW_k ?_
  refine leW_k ?_
  refine leW_k ?_
  refine leW_k ?_
  refine leW_k ?_
  refine leW_k ?_
  refine leW_k ?_
  refine leW_k ?_
  refine leW_k ?_
  refine leW_k ?_
  refine leW_k ?_
  refine leW_k ?_
  refine leW_k ?_
  refine leW_k ?_
  refine leW_k ?_
  refine leW_k ?_
  refine leW_k ?_
  refine leW_k ?_
  refine leW_k ?_
  refine leW_k ?_
  refine leW_k ?_
  refine leW_k ?_
  refine leW_k ?_
  refine leW_k ?_
  refine leW_k ?_
  refine leW_k ?_
  refine leW_k ?_
  refine leW_k ?_
  refine leW_k ?_
  exact leW_0

theorem wx_up_9 {G : va_G} {cx a : Nat → Nat} {σ : Nat → Int → Int} {i v : Int} (h : 0 ≤ i ∧ i < 33) : leW G vwCl ((wx cx a σ).set 9 (a 9, .inl (cx 0, 33, .inl (aI (ups (σ 14) i v))))) (wx cx a (st σ 14 i v)) := by
  refine leW_k ?_
  refine leW_k ?_
  refine leW_k ?_
  refine leW_k ?_
  refine leW_k ?_
  refine leW_k ?_
  refine leW_k ?_
  refine leW_k ?_
  refine leW_k ?_
  refine leW_k ?_
  refine leW_k ?_
  refine leW_k ?_
  refine leW_k ?_
  refine leW_k ?_
  refine leW_k ?_
  refine leW_k ?_
  refine leW_k ?_
  refine leW_k ?_
  refine leW_k ?_
  refine leW_k ?_
  refine leW_k ?_
  refine leW_k ?_
  refine leW_k ?_
  refine leW_k ?_
  refine leW_k ?_
  refine leW_k ?_
  refine leW_k ?_
  refine leW_k ?_
  refine leW_k ?_
  refine leW_k ?_
  refine leW_k ?_
  refine leW_k ?_
  refine leW_k ?_
  refine leW_k ?_
  refine leW_k ?_
  refine leW_k ?_
  refine leW_k ?_
  refine leW_k ?_
  refine leW_k ?_
  refine leW_k ?_
  refine leW_k ?_
  refine leW_k ?_
  refine leW_k ?_
  refine leW_k ?_
  refine leW_k ?_
  refine leW_k ?_
  refine leW_k ?_
  refine leW_k ?_
  refine leW_k ?_
  refine leW_k ?_
  refine leW_k ?_
  refine leW_k ?_
  refine leW_k ?_
  refine leW_k ?_
  refine leW_k ?_
  refine leW_k ?_
  refine leW_k ?_
  refine leW_k ?_
  refine leW_k ?_
  refine leW_k ?_
  refine leW_k ?_
  refine leW_k ?_
  refine leW_k ?_
  refine leW_k ?_
  refine leW_k ?_
  refine leW_k ?_
  refine leW_k ?_
  refine leW_k ?_
  refine leW_k ?_
  refine leW_k ?_
  exact leW_0

theorem wx_up_10 {G : va_G} {cx a : Nat → Nat} {σ : Nat → Int → Int} {i v : Int} (h : 0 ≤ i ∧ i < 16) : leW G vwCl ((wx cx a σ).set 10 (a 10, .inl (cx 0, 16, .inl (aI (ups (σ 15) i v))))) (wx cx a (st σ 15 i v)) := by
  refine leW_k ?_
  refine leW_k ?_
  refine leW_k ?_
  refine leW_k ?_
  refine leW_k ?_
  refine leW_k ?_
  refine leW_k ?_
  refine leW_k ?_
  refine leW_k ?_
  refine leW_k ?_
  refine leW_k ?_
  refine leW_k ?_
  refine leW_k ?_
  refine leW_k ?_
  refine leW_k ?_
  refine leW_k ?_
  refine leW_k ?_
  refine leW_k ?_
  refine leW_k ?_
  refine leW_k ?_
  refine leW_k ?_
  refine leW_k ?_
  refine leW_k ?_
  refine leW_k ?_
  refine leW_k ?_
  refine leW_k ?_
  refine leW_k ?_
  refine leW_k ?_
  refine leW_k ?_
  refine leW_k ?_
  refine leW_k ?_
  refine leW_k ?_
  refine leW_k ?_
  refine leW_k ?_
  refine leW_k ?_
  refine leW_k ?_
  refine leW_k ?_
  refine leW_k ?_
  refine leW_k ?_
  refine leW_k ?_
  refine leW_k ?_
  refine leW_k ?_
  refine leW_k ?_
  refine leW_k ?_
  refine leW_k ?_
  refine leW_k ?_
  refine leW_k ?_
  refine leW_k ?_
  refine leW_k ?_
  refine leW_k ?_
  refine leW_k ?_
  refine leW_k ?_
  refine leW_k ?_
  refine leW_k ?_
  refine leW_k ?_
  refine leW_k ?_
  refine leW_k ?_
  refine leW_k ?_
  refine leW_k ?_
  refine leW_k ?_
  refine leW_k ?_
  refine leW_k ?_
  refine leW_k ?_
  refine leW_k ?_
  refine leW_k ?_
  refine leW_k ?_
  refine leW_k ?_
  refine leW_k ?_
  refine leW_k ?_
  refine leW_k ?_
  exact leW_0

theorem wx_up_11 {G : va_G} {cx a : Nat → Nat} {σ : Nat → Int → Int} {i v : Int} (h : 0 ≤ i ∧ i < 16) : leW G vwCl ((wx cx a σ).set 11 (a 11, .inl (cx 0, 16, .inl (aI (ups (σ 16) i v))))) (wx cx a (st σ 16 i v)) := by
  refine leW_k ?_
  refine leW_k ?_
  refine leW_k ?_
  refine leW_k ?_
  refine leW_k ?_
  refine leW_k ?_
  refine leW_k ?_
  refine leW_k ?_
  refine leW_k ?_
  refine leW_k ?_
  refine leW_k ?_
  refine leW_k ?_
  refine leW_k ?_
  refine leW_k ?_
  refine leW_k ?_
  refine leW_k ?_
  refine leW_k ?_
  refine leW_k ?_
  refine leW_k ?_
  refine leW_k ?_
  refine leW_k ?_
  refine leW_k ?_
  refine leW_k ?_
  refine leW_k ?_
  refine leW_k ?_
  refine leW_k ?_
  refine leW_k ?_
  refine leW_k ?_
  refine leW_k ?_
  refine leW_k ?_
  refine leW_k ?_
  refine leW_k ?_
  refine leW_k ?_
  refine leW_k ?_
  refine leW_k ?_
  refine leW_k ?_
  refine leW_k ?_
  refine leW_k ?_
  refine leW_k ?_
  refine leW_k ?_
  refine leW_k ?_
  refine leW_k ?_
  refine leW_k ?_
  refine leW_k ?_
  refine leW_k ?_
  refine leW_k ?_
  refine leW_k ?_
  refine leW_k ?_
  refine leW_k ?_
  refine leW_k ?_
  refine leW_k ?_
  refine leW_k ?_
  refine leW_k ?_
  refine leW_k ?_
  refine leW_k ?_
  refine leW_k ?_
  refine leW_k ?_
  refine leW_k ?_
  refine leW_k ?_
  refine leW_k ?_
  refine leW_k ?_
  refine leW_k ?_
  refine leW_k ?_
  refine leW_k ?_
  refine leW_k ?_
  refine leW_k ?_
  refine leW_k ?_
  refine leW_k ?_
  refine leW_k ?_
  refine leW_k ?_
  exact leW_0

theorem wx_up_12 {G : va_G} {cx a : Nat → Nat} {σ : Nat → Int → Int} {i v : Int} (h : 0 ≤ i ∧ i < 561) : leW G vwCl ((wx cx a σ).set 12 (a 12, .inl (cx 0, 561, .inl (aI (ups (σ 17) i v))))) (wx cx a (st σ 17 i v)) := by
  refine leW_k ?_
  refine leW_k ?_
  refine leW_k ?_
  refine leW_k ?_
  refine leW_k ?_
  refine leW_k ?_
  refine leW_k ?_
  refine leW_k ?_
  refine leW_k ?_
  refine leW_k ?_
  refine leW_k ?_
  refine leW_k ?_
  refine leW_k ?_
  refine leW_k ?_
  refine leW_k ?_
  refine leW_k ?_
  refine leW_k ?_
  refine leW_k ?_
  refine leW_k ?_
  refine leW_k ?_
  refine leW_k ?_
  refine leW_k ?_
  refine leW_k ?_
  refine leW_k ?_
  refine leW_k ?_
  refine leW_k ?_
  refine leW_k ?_
  refine leW_k ?_
  refine leW_k ?_
  refine leW_k ?_
  refine leW_k ?_
  refine leW_k ?_
  refine leW_k ?_
  refine leW_k ?_
  refine leW_k ?_
  refine leW_k ?_
  refine leW_k ?_
  refine leW_k ?_
  refine leW_k ?_
  refine leW_k ?_
  refine leW_k ?_
  refine leW_k ?_
  refine leW_k ?_
  refine leW_k ?_
  refine leW_k ?_
  refine leW_k ?_
  refine leW_k ?_
  refine leW_k ?_
  refine leW_k ?_
  refine leW_k ?_
  refine leW_k ?_
  refine leW_k ?_
  refine leW_k ?_
  refine leW_k ?_
  refine leW_k ?_
  refine leW_k ?_
  refine leW_k ?_
  refine leW_k ?_
  refine leW_k ?_
  refine leW_k ?_
  refine leW_k ?_
  refine leW_k ?_
  refine leW_k ?_
  refine leW_k ?_
  refine leW_k ?_
  refine leW_k ?_
  refine leW_k ?_
  refine leW_k ?_
  refine leW_k ?_
  refine leW_k ?_
  exact leW_0

theorem wx_up_13 {G : va_G} {cx a : Nat → Nat} {σ : Nat → Int → Int} {i v : Int} (h : 0 ≤ i ∧ i < 17) : leW G vwCl ((wx cx a σ).set 13 (a 13, .inl (cx 0, 17, .inl (aI (ups (σ 18) i v))))) (wx cx a (st σ 18 i v)) := by
  refine leW_k ?_
  refine leW_k ?_
  refine leW_k ?_
  refine leW_k ?_
  refine leW_k ?_
  refine leW_k ?_
  refine leW_k ?_
  refine leW_k ?_
  refine leW_k ?_
  refine leW_k ?_
  refine leW_k ?_
  refine leW_k ?_
  refine leW_k ?_
  refine leW_k ?_
  refine leW_k ?_
  refine leW_k ?_
  refine leW_k ?_
  refine leW_k ?_
  refine leW_k ?_
  refine leW_k ?_
  refine leW_k ?_
  refine leW_k ?_
  refine leW_k ?_
  refine leW_k ?_
  refine leW_k ?_
  refine leW_k ?_
  refine leW_k ?_
  refine leW_k ?_
  refine leW_k ?_
  refine leW_k ?_
  refine leW_k ?_
  refine leW_k ?_
  refine leW_k ?_
  refine leW_k ?_
  refine leW_k ?_
  refine leW_k ?_
  refine leW_k ?_
  refine leW_k ?_
  refine leW_k ?_
  refine leW_k ?_
  refine leW_k ?_
  refine leW_k ?_
  refine leW_k ?_
  refine leW_k ?_
  refine leW_k ?_
  refine leW_k ?_
  refine leW_k ?_
  refine leW_k ?_
  refine leW_k ?_
  refine leW_k ?_
  refine leW_k ?_
  refine leW_k ?_
  refine leW_k ?_
  refine leW_k ?_
  refine leW_k ?_
  refine leW_k ?_
  refine leW_k ?_
  refine leW_k ?_
  refine leW_k ?_
  refine leW_k ?_
  refine leW_k ?_
  refine leW_k ?_
  refine leW_k ?_
  refine leW_k ?_
  refine leW_k ?_
  refine leW_k ?_
  refine leW_k ?_
  refine leW_k ?_
  refine leW_k ?_
  refine leW_k ?_
  exact leW_0

theorem wx_up_15 {G : va_G} {cx a : Nat → Nat} {σ : Nat → Int → Int} {i v : Int} (h : 0 ≤ i ∧ i < 16) : leW G vwCl ((wx cx a σ).set 15 (a 15, .inl (cx 0, 16, .inl (aI (ups (σ 19) i v))))) (wx cx a (st σ 19 i v)) := by
  refine leW_k ?_
  refine leW_k ?_
  refine leW_k ?_
  refine leW_k ?_
  refine leW_k ?_
  refine leW_k ?_
  refine leW_k ?_
  refine leW_k ?_
  refine leW_k ?_
  refine leW_k ?_
  refine leW_k ?_
  refine leW_k ?_
  refine leW_k ?_
  refine leW_k ?_
  refine leW_k ?_
  refine leW_k ?_
  refine leW_k ?_
  refine leW_k ?_
  refine leW_k ?_
  refine leW_k ?_
  refine leW_k ?_
  refine leW_k ?_
  refine leW_k ?_
  refine leW_k ?_
  refine leW_k ?_
  refine leW_k ?_
  refine leW_k ?_
  refine leW_k ?_
  refine leW_k ?_
  refine leW_k ?_
  refine leW_k ?_
  refine leW_k ?_
  refine leW_k ?_
  refine leW_k ?_
  refine leW_k ?_
  refine leW_k ?_
  refine leW_k ?_
  refine leW_k ?_
  refine leW_k ?_
  refine leW_k ?_
  refine leW_k ?_
  refine leW_k ?_
  refine leW_k ?_
  refine leW_k ?_
  refine leW_k ?_
  refine leW_k ?_
  refine leW_k ?_
  refine leW_k ?_
  refine leW_k ?_
  refine leW_k ?_
  refine leW_k ?_
  refine leW_k ?_
  refine leW_k ?_
  refine leW_k ?_
  refine leW_k ?_
  refine leW_k ?_
  refine leW_k ?_
  refine leW_k ?_
  refine leW_k ?_
  refine leW_k ?_
  refine leW_k ?_
  refine leW_k ?_
  refine leW_k ?_
  refine leW_k ?_
  refine leW_k ?_
  refine leW_k ?_
  refine leW_k ?_
  refine leW_k ?_
  refine leW_k ?_
  refine leW_k ?_
  exact leW_0

theorem wx_up_16 {G : va_G} {cx a : Nat → Nat} {σ : Nat → Int → Int} {i v : Int} (h : 0 ≤ i ∧ i < 16) : leW G vwCl ((wx cx a σ).set 16 (a 16, .inl (cx 1, 16, .inr (.inl (aL (ups (σ 20) i v)))))) (wx cx a (st σ 20 i v)) := by
  refine leW_k ?_
  refine leW_k ?_
  refine leW_k ?_
  refine leW_k ?_
  refine leW_k ?_
  refine leW_k ?_
  refine leW_k ?_
  refine leW_k ?_
  refine leW_k ?_
  refine leW_k ?_
  refine leW_k ?_
  refine leW_k ?_
  refine leW_k ?_
  refine leW_k ?_
  refine leW_k ?_
  refine leW_k ?_
  refine leW_k ?_
  refine leW_k ?_
  refine leW_k ?_
  refine leW_k ?_
  refine leW_k ?_
  refine leW_k ?_
  refine leW_k ?_
  refine leW_k ?_
  refine leW_k ?_
  refine leW_k ?_
  refine leW_k ?_
  refine leW_k ?_
  refine leW_k ?_
  refine leW_k ?_
  refine leW_k ?_
  refine leW_k ?_
  refine leW_k ?_
  refine leW_k ?_
  refine leW_k ?_
  refine leW_k ?_
  refine leW_k ?_
  refine leW_k ?_
  refine leW_k ?_
  refine leW_k ?_
  refine leW_k ?_
  refine leW_k ?_
  refine leW_k ?_
  refine leW_k ?_
  refine leW_k ?_
  refine leW_k ?_
  refine leW_k ?_
  refine leW_k ?_
  refine leW_k ?_
  refine leW_k ?_
  refine leW_k ?_
  refine leW_k ?_
  refine leW_k ?_
  refine leW_k ?_
  refine leW_k ?_
  refine leW_k ?_
  refine leW_k ?_
  refine leW_k ?_
  refine leW_k ?_
  refine leW_k ?_
  refine leW_k ?_
  refine leW_k ?_
  refine leW_k ?_
  refine leW_k ?_
  refine leW_k ?_
  refine leW_k ?_
  refine leW_k ?_
  refine leW_k ?_
  refine leW_k ?_
  refine leW_k ?_
  exact leW_0

theorem wx_pf_17_1 {G : va_G} {cx a : Nat → Nat} {σ : Nat → Int → Int} {v : Int} : leW G vwCl ((wx cx a σ).set 17 (a 17, .inr (1, [.ref (a 18), .int (iI v), .int (iI (σ 12 1))]))) (wx cx a (st σ 12 0 v)) := by
  refine leW_k ?_
  refine leW_k ?_
  refine leW_k ?_
  refine leW_k ?_
  refine leW_k ?_
  refine leW_k ?_
  refine leW_k ?_
  refine leW_k ?_
  refine leW_k ?_
  refine leW_k ?_
  refine leW_k ?_
  refine leW_k ?_
  refine leW_k ?_
  refine leW_k ?_
  refine leW_k ?_
  refine leW_k ?_
  refine leW_k ?_
  refine leW_o ?_ rfl
  refine leW_k ?_
  refine leW_k ?_
  refine leW_k ?_
  refine leW_k ?_
  refine leW_k ?_
  refine leW_k ?_
  refine leW_k ?_
  refine leW_k ?_
  refine leW_k ?_
  refine leW_k ?_
  refine leW_k ?_
  refine leW_k ?_
  refine leW_k ?_
  refine leW_k ?_
  refine leW_k ?_
  refine leW_k ?_
  refine leW_k ?_
  refine leW_k ?_
  refine leW_k ?_
  refine leW_k ?_
  refine leW_k ?_
  refine leW_k ?_
  refine leW_k ?_
  refine leW_k ?_
  refine leW_k ?_
  refine leW_k ?_
  refine leW_k ?_
  refine leW_k ?_
  refine leW_k ?_
  refine leW_k ?_
  refine leW_k ?_
  refine leW_k ?_
  refine leW_k ?_
  refine leW_k ?_
  refine leW_k ?_
  refine leW_k ?_
  refine leW_k ?_
  refine leW_k ?_
  refine leW_k ?_
  refine leW_k ?_
  refine leW_k ?_
  refine leW_k ?_
  refine leW_k ?_
  refine leW_k ?_
  refine leW_k ?_
  refine leW_k ?_
  refine leW_k ?_
  refine leW_k ?_
  refine leW_k ?_
  refine leW_k ?_
  refine leW_k ?_
  refine leW_k ?_
  exact leW_0

theorem wx_pf_17_2 {G : va_G} {cx a : Nat → Nat} {σ : Nat → Int → Int} {v : Int} : leW G vwCl ((wx cx a σ).set 17 (a 17, .inr (1, [.ref (a 18), .int (iI (σ 12 0)), .int (iI v)]))) (wx cx a (st σ 12 1 v)) := by
  refine leW_k ?_
  refine leW_k ?_
  refine leW_k ?_
  refine leW_k ?_
  refine leW_k ?_
  refine leW_k ?_
  refine leW_k ?_
  refine leW_k ?_
  refine leW_k ?_
  refine leW_k ?_
  refine leW_k ?_
  refine leW_k ?_
  refine leW_k ?_
  refine leW_k ?_
  refine leW_k ?_
  refine leW_k ?_
  refine leW_k ?_
  refine leW_o ?_ rfl
  refine leW_k ?_
  refine leW_k ?_
  refine leW_k ?_
  refine leW_k ?_
  refine leW_k ?_
  refine leW_k ?_
  refine leW_k ?_
  refine leW_k ?_
  refine leW_k ?_
  refine leW_k ?_
  refine leW_k ?_
  refine leW_k ?_
  refine leW_k ?_
  refine leW_k ?_
  refine leW_k ?_
  refine leW_k ?_
  refine leW_k ?_
  refine leW_k ?_
  refine leW_k ?_
  refine leW_k ?_
  refine leW_k ?_
  refine leW_k ?_
  refine leW_k ?_
  refine leW_k ?_
  refine leW_k ?_
  refine leW_k ?_
  refine leW_k ?_
  refine leW_k ?_
  refine leW_k ?_
  refine leW_k ?_
  refine leW_k ?_
  refine leW_k ?_
  refine leW_k ?_
  refine leW_k ?_
  refine leW_k ?_
  refine leW_k ?_
  refine leW_k ?_
  refine leW_k ?_
  refine leW_k ?_
  refine leW_k ?_
  refine leW_k ?_
  refine leW_k ?_
  refine leW_k ?_
  refine leW_k ?_
  refine leW_k ?_
  refine leW_k ?_
  refine leW_k ?_
  refine leW_k ?_
  refine leW_k ?_
  refine leW_k ?_
  refine leW_k ?_
  refine leW_k ?_
  exact leW_0

theorem wm_pf_0_2 {G : va_G} {cx a : Nat → Nat} {σ : Nat → Int → Int} {v : Int} : leW G vwCl ((wm cx a σ).set 0 (a 0, .inr (5, [.ref (a 1), .ref (a 2), .int (iI v), .ref (a 3), .int (iI (σ 2 1)), .ref (a 4), .ref (a 5), .ref (a 6), .ref (a 7), .long (lI (σ 2 2)), .ref (a 8)]))) (wm cx a (st σ 2 0 v)) := by
  refine leW_o ?_ rfl
  refine leW_k ?_
  refine leW_k ?_
  refine leW_k ?_
  refine leW_k ?_
  refine leW_k ?_
  refine leW_k ?_
  refine leW_k ?_
  refine leW_k ?_
  exact leW_0

theorem wm_pf_0_4 {G : va_G} {cx a : Nat → Nat} {σ : Nat → Int → Int} {v : Int} : leW G vwCl ((wm cx a σ).set 0 (a 0, .inr (5, [.ref (a 1), .ref (a 2), .int (iI (σ 2 0)), .ref (a 3), .int (iI v), .ref (a 4), .ref (a 5), .ref (a 6), .ref (a 7), .long (lI (σ 2 2)), .ref (a 8)]))) (wm cx a (st σ 2 1 v)) := by
  refine leW_o ?_ rfl
  refine leW_k ?_
  refine leW_k ?_
  refine leW_k ?_
  refine leW_k ?_
  refine leW_k ?_
  refine leW_k ?_
  refine leW_k ?_
  refine leW_k ?_
  exact leW_0

theorem wm_pf_0_9 {G : va_G} {cx a : Nat → Nat} {σ : Nat → Int → Int} {v : Int} : leW G vwCl ((wm cx a σ).set 0 (a 0, .inr (5, [.ref (a 1), .ref (a 2), .int (iI (σ 2 0)), .ref (a 3), .int (iI (σ 2 1)), .ref (a 4), .ref (a 5), .ref (a 6), .ref (a 7), .long (lI v), .ref (a 8)]))) (wm cx a (st σ 2 2 v)) := by
  refine leW_o ?_ rfl
  refine leW_k ?_
  refine leW_k ?_
  refine leW_k ?_
  refine leW_k ?_
  refine leW_k ?_
  refine leW_k ?_
  refine leW_k ?_
  refine leW_k ?_
  exact leW_0

theorem wm_up_1 {G : va_G} {cx a : Nat → Nat} {σ : Nat → Int → Int} {i v : Int} (h : 0 ≤ i ∧ i < 107) : leW G vwCl ((wm cx a σ).set 1 (a 1, .inl (cx 0, 107, .inl (aI (ups (σ 0) i v))))) (wm cx a (st σ 0 i v)) := by
  refine leW_k ?_
  refine leW_k ?_
  refine leW_k ?_
  refine leW_k ?_
  refine leW_k ?_
  refine leW_k ?_
  refine leW_k ?_
  refine leW_k ?_
  refine leW_k ?_
  exact leW_0

theorem wm_up_2 {G : va_G} {cx a : Nat → Nat} {σ : Nat → Int → Int} {i v : Int} (h : 0 ≤ i ∧ i < 856) : leW G vwCl ((wm cx a σ).set 2 (a 2, .inl (cx 0, 856, .inl (aI (ups (σ 1) i v))))) (wm cx a (st σ 1 i v)) := by
  refine leW_k ?_
  refine leW_k ?_
  refine leW_k ?_
  refine leW_k ?_
  refine leW_k ?_
  refine leW_k ?_
  refine leW_k ?_
  refine leW_k ?_
  refine leW_k ?_
  exact leW_0

theorem wm_up_3 {G : va_G} {cx a : Nat → Nat} {σ : Nat → Int → Int} {i v : Int} (h : 0 ≤ i ∧ i < 214) : leW G vwCl ((wm cx a σ).set 3 (a 3, .inl (cx 0, 214, .inl (aI (ups (σ 3) i v))))) (wm cx a (st σ 3 i v)) := by
  refine leW_k ?_
  refine leW_k ?_
  refine leW_k ?_
  refine leW_k ?_
  refine leW_k ?_
  refine leW_k ?_
  refine leW_k ?_
  refine leW_k ?_
  refine leW_k ?_
  exact leW_0

theorem wm_up_4 {G : va_G} {cx a : Nat → Nat} {σ : Nat → Int → Int} {i v : Int} (h : 0 ≤ i ∧ i < 16) : leW G vwCl ((wm cx a σ).set 4 (a 4, .inl (cx 0, 16, .inl (aI (ups (σ 4) i v))))) (wm cx a (st σ 4 i v)) := by
  refine leW_k ?_
  refine leW_k ?_
  refine leW_k ?_
  refine leW_k ?_
  refine leW_k ?_
  refine leW_k ?_
  refine leW_k ?_
  refine leW_k ?_
  refine leW_k ?_
  exact leW_0

theorem wm_up_5 {G : va_G} {cx a : Nat → Nat} {σ : Nat → Int → Int} {i v : Int} (h : 0 ≤ i ∧ i < 16) : leW G vwCl ((wm cx a σ).set 5 (a 5, .inl (cx 0, 16, .inl (aI (ups (σ 5) i v))))) (wm cx a (st σ 5 i v)) := by
  refine leW_k ?_
  refine leW_k ?_
  refine leW_k ?_
  refine leW_k ?_
  refine leW_k ?_
  refine leW_k ?_
  refine leW_k ?_
  refine leW_k ?_
  refine leW_k ?_
  exact leW_0

theorem wm_up_6 {G : va_G} {cx a : Nat → Nat} {σ : Nat → Int → Int} {i v : Int} (h : 0 ≤ i ∧ i < 17) : leW G vwCl ((wm cx a σ).set 6 (a 6, .inl (cx 0, 17, .inl (aI (ups (σ 6) i v))))) (wm cx a (st σ 6 i v)) := by
  refine leW_k ?_
  refine leW_k ?_
  refine leW_k ?_
  refine leW_k ?_
  refine leW_k ?_
  refine leW_k ?_
  refine leW_k ?_
  refine leW_k ?_
  refine leW_k ?_
  exact leW_0

theorem wm_up_7 {G : va_G} {cx a : Nat → Nat} {σ : Nat → Int → Int} {i v : Int} (h : 0 ≤ i ∧ i < 544) : leW G vwCl ((wm cx a σ).set 7 (a 7, .inl (cx 1, 544, .inr (.inl (aL (ups (σ 7) i v)))))) (wm cx a (st σ 7 i v)) := by
  refine leW_k ?_
  refine leW_k ?_
  refine leW_k ?_
  refine leW_k ?_
  refine leW_k ?_
  refine leW_k ?_
  refine leW_k ?_
  refine leW_k ?_
  refine leW_k ?_
  exact leW_0

theorem wm_up_8 {G : va_G} {cx a : Nat → Nat} {σ : Nat → Int → Int} {i v : Int} (h : 0 ≤ i ∧ i < 16) : leW G vwCl ((wm cx a σ).set 8 (a 8, .inl (cx 2, 16, .inl (aI (ups (σ 8) i v))))) (wm cx a (st σ 8 i v)) := by
  refine leW_k ?_
  refine leW_k ?_
  refine leW_k ?_
  refine leW_k ?_
  refine leW_k ?_
  refine leW_k ?_
  refine leW_k ?_
  refine leW_k ?_
  refine leW_k ?_
  exact leW_0
end
section
/-! what the numbers of a loop mean: w 0 frames, w 1 .. w 9 the settings, w (10 + k) energies, w 74 how many marks, w (75 + k) marks, w (91 + k) the order -/
theorem mulb {a b A B : Int} (h1 : 0 ≤ a) (h2 : a ≤ A) (h3 : 0 ≤ b) (h4 : b ≤ B) : 0 ≤ a * b ∧ a * b ≤ A * B := ⟨Int.mul_nonneg h1 h3, Int.mul_le_mul h2 h4 h3 (by omega)⟩
theorem mz_lt (z : Int) : z < ((z.toNat + 1 : Nat) : Int) := by omega
def abI (a : Int) : Int := if 0 ≤ a then a else 0 - a
theorem iI_abs {a : Int} (h : -2147483648 < a ∧ a < 2147483648) : (if 0 ≤ iI a then iI a else 0 - iI a) = iI (abI a) := by
  have e : (0 ≤ iI a) ↔ 0 ≤ a := iI_le (a := 0) (b := a) ⟨by omega, by omega, by omega, by omega⟩
  unfold abI
  by_cases q : 0 ≤ a
  · rw [if_pos (e.mpr q), if_pos q]
  · rw [if_neg (fun z => q (e.mp z)), if_neg q]
    exact iI_sub 0 a
theorem iI_max {a b : Int} (h : -2147483648 ≤ a ∧ a < 2147483648 ∧ -2147483648 ≤ b ∧ b < 2147483648) : (if iI a < iI b then iI b else iI a) = iI (max a b) := by
  by_cases q : a < b
  · rw [if_pos ((iI_lt h).mpr q), show max a b = b by omega]
  · rw [if_neg (fun z => q ((iI_lt h).mp z)), show max a b = a by omega]
theorem iI_min {a b : Int} (h : -2147483648 ≤ a ∧ a < 2147483648 ∧ -2147483648 ≤ b ∧ b < 2147483648) : (if iI a ≤ iI b then iI a else iI b) = iI (min a b) := by
  have h2 := iI_le h
  by_cases q : a ≤ b
  · rw [if_pos (h2.mpr q), show min a b = a by omega]
  · rw [if_neg (fun z => q (h2.mp z)), show min a b = b by omega]
/-- sums over 0 .. n - 1 -/
def sumN (f : Int → Int) : Nat → Int
  | 0 => 0
  | n + 1 => sumN f n + f (n : Int)
/-- the order is one of all the slices: any sum over the places is the sum over the slices -/
def Perm (w : Int → Int) : Prop := (∀ k, 0 ≤ k → k < w 74 → 0 ≤ w (91 + k) ∧ w (91 + k) < w 74) ∧ ∀ f : Int → Int, sumN (fun k => f (w (91 + k))) (w 74).toNat = sumN f (w 74).toNat
def Inv (w : Int → Int) : Prop :=
  ((1 ≤ w 0 ∧ w 0 ≤ 64) ∧ (1 ≤ w 1 ∧ w 1 ≤ 1000) ∧ (1 ≤ w 2 ∧ w 2 ≤ 999) ∧ (1 ≤ w 3 ∧ w 3 ≤ 16) ∧ (10 ≤ w 4 ∧ w 4 ≤ 100) ∧ (100 ≤ w 5 ∧ w 5 ≤ 1000) ∧ (1 ≤ w 6 ∧ w 6 ≤ 200000) ∧ (1 ≤ w 7 ∧ w 7 ≤ 32) ∧ (0 ≤ w 8 ∧ w 8 ≤ 1) ∧ (0 ≤ w 9 ∧ w 9 ≤ 500) ∧ (1 ≤ w 74 ∧ w 74 ≤ 16) ∧ w 75 = 0) ∧
  (∀ k, 0 ≤ k → k < 64 → 0 ≤ w (10 + k) ∧ w (10 + k) ≤ 999) ∧ (∀ k, 0 ≤ k → k < w 74 → 0 ≤ w (75 + k) ∧ w (75 + k) < w 0) ∧ (∀ k, 0 ≤ k → k + 1 < w 74 → w (75 + k) < w (75 + (k + 1))) ∧ Perm w
def fr (w : Int → Int) (k : Int) : Int := if k < w 74 then w (75 + k) else w 0
def ln (w : Int → Int) (k : Int) : Int := (fr w (k + 1) - fr w k) * w 1
theorem fr_lt {w : Int → Int} {k : Int} (h : k < w 74) : fr w k = w (75 + k) := if_pos h
theorem fr_ge {w : Int → Int} {k : Int} (h : w 74 ≤ k) : fr w k = w 0 := if_neg (by omega)
theorem Inv.fr_up {w : Int → Int} (h : Inv w) {k : Int} (h0 : 0 ≤ k) (h1 : k < w 74) : fr w k < fr w (k + 1) := by
  obtain ⟨-, -, hm, hs, -⟩ := h
  rw [fr_lt h1]
  by_cases q : k + 1 < w 74
  · rw [fr_lt q]; exact hs k h0 q
  · rw [fr_ge (by omega)]; exact (hm k h0 h1).2
theorem Inv.fr_in {w : Int → Int} (h : Inv w) {k : Int} (h0 : 0 ≤ k) : 0 ≤ fr w k ∧ fr w k ≤ w 0 := by
  obtain ⟨hb, -, hm, hs, -⟩ := h
  by_cases q : k < w 74
  · rw [fr_lt q]; have := hm k h0 q; omega
  · rw [fr_ge (by omega)]; omega
theorem Inv.ln_in {w : Int → Int} (h : Inv w) {k : Int} (h0 : 0 ≤ k) (h1 : k < w 74) : 1 ≤ ln w k ∧ ln w k ≤ 64000 ∧ ln w k ≤ w 0 * w 1 := by
  have a1 := h.fr_up h0 h1
  have a2 := h.fr_in h0
  have a3 := h.fr_in (k := k + 1) (by omega)
  obtain ⟨hb, -⟩ := h
  have m1 := mulb (a := fr w (k + 1) - fr w k) (b := w 1) (A := 64) (B := 1000) (by omega) (by omega) (by omega) (by omega)
  have m2 := mulb (a := fr w (k + 1) - fr w k - 1) (b := w 1 - 1) (A := 64) (B := 1000) (by omega) (by omega) (by omega) (by omega)
  have m3 := mulb (a := w 0 - (fr w (k + 1) - fr w k)) (b := w 1) (A := 64) (B := 1000) (by omega) (by omega) (by omega) (by omega)
  unfold ln
  have e2 : (fr w (k + 1) - fr w k - 1) * (w 1 - 1) = (fr w (k + 1) - fr w k) * w 1 - (fr w (k + 1) - fr w k) - w 1 + 1 := by
    rw [Int.sub_mul, Int.mul_sub]; omega
  have e3 : (w 0 - (fr w (k + 1) - fr w k)) * w 1 = w 0 * w 1 - (fr w (k + 1) - fr w k) * w 1 := Int.sub_mul _ _ _
  omega
def po (T G i : Int) : Int := i * T / G
def fits_ (w : Int → Int) (k b : Int) : Prop := ln w k * w 4 / 100 ≤ b ∧ b ≤ ln w k * w 5 / 100
def of_ (w : Int → Int) (T G m s : Int) : Int := abI (po T G s * w 0 - fr w m * T)
theorem po_in {T G i : Int} (hT : 0 ≤ T ∧ T ≤ 200000) (hG : 1 ≤ G) (h : 0 ≤ i ∧ i ≤ G) : 0 ≤ po T G i ∧ po T G i ≤ T := by
  unfold po
  have h1 : 0 ≤ i * T := Int.mul_nonneg h.1 hT.1
  have h2 : i * T ≤ G * T := Int.mul_le_mul_of_nonneg_right h.2 hT.1
  have h3 : i * T / G ≤ G * T / G := Int.ediv_le_ediv (by omega) h2
  rw [Int.mul_ediv_cancel_left T (by omega)] at h3
  exact ⟨Int.ediv_nonneg h1 (by omega), h3⟩
theorem po_mono {T G i j : Int} (hT : 0 ≤ T) (hG : 1 ≤ G) (h : i ≤ j) : po T G i ≤ po T G j := by
  unfold po
  exact Int.ediv_le_ediv (by omega) (Int.mul_le_mul_of_nonneg_right h hT)
theorem abI_in {a B : Int} (h : -B ≤ a ∧ a ≤ B) : 0 ≤ abI a ∧ abI a ≤ B := by
  unfold abI
  split <;> omega
theorem Inv.wh_in {w : Int → Int} (h : Inv w) : 1 ≤ w 0 * w 1 ∧ w 0 * w 1 ≤ 64000 := by
  obtain ⟨hb, -⟩ := h
  have m := mulb (a := w 0) (b := w 1) (A := 64) (B := 1000) (by omega) (by omega) (by omega) (by omega)
  have p : 0 < w 0 * w 1 := Int.mul_pos (by omega) (by omega)
  omega
end
section
/-! the program: small questions to a loop (rows laid by wip/gen) -/
theorem iX2_isFrame_X2 : ∀ w ∈ wsX20, w ∈ wsX2_isFrame := fun _ h => List.mem_cons_of_mem _ (List.mem_append_right _ h)
set_option maxHeartbeats 4000000 in
set_option maxRecDepth 100000 in
theorem mX2_isFrame (l : Launch) (G : va_G) (cx a : Nat → Nat) (σ : Nat → Int → Int)  (x : Int) (hx : -2147483648 ≤ x ∧ x < 2147483648) (hI : Inv (σ 0)) : Met l yX2_isFrame wsX2_isFrame ({ frames := 0, cells := 0, slots := 0, locals := 0 }) (va_Pc [.ref (a 3), .int (iI x)] (gW G (tx cx) (XA a) (wx cx a) σ)) (va_Qi (fun r u => σ = u ∧ ∃ v, iI v = r ∧ ((0 ≤ x ∧ x < σ 0 0 ∧ v = 1) ∨ (¬ (0 ≤ x ∧ x < σ 0 0) ∧ v = 0))) (gW G (tx cx) (XA a) (wx cx a)) (XA a)) 0 0 (XA a) := by
  refine Met.ofW (cc := cX2_isFrame) (maxL := 2) (ret := some .boolean) (by decide) rfl ?_
  intro p e s m args below meth c s₁ B hml hv
  obtain ⟨rfl, hP, hK, hD⟩ := hv
  have hex := B.exec
  have hbc := B.bytes
  have hrt := B.returns
  have hts := atoms_spec (ws := wsX2_isFrame) B.pre
  have hown : s.vm.findClass RX2 = some m.cls := findClass_of_methodNamed B.named
  have hlocks := B.notSynchronized
  have hS : va_S (XA a) s.heap s.heap [] := va_S.rf
  have hin2 := iX2_isFrame_X2
  have hl := lv_entry ([.ref (a 3), .int (iI x)]) (n := 2) (Nat.le_of_ble_eq_true rfl)
  rw [lg_entry_eq]
  generalize (lg_sl ([.ref (a 3), .int (iI x)]) ++ List.replicate (2 - (lg_sl ([.ref (a 3), .int (iI x)])).length) Slot.unset).toArray = ls at hl ⊢
  have hl : lv_has ls 2 [(0, .ref (a 3)), (1, .int (iI x))] := hl
  obtain ⟨hB, hEn, hMk, hAs, hPm⟩ := id hI
  refine lv_iload_n hex hbc dX2_isFrame_0 rfl (lv_at hl 1 rfl) ?_
  refine zt_if_lt (a := x) (tgt := 16) hex hbc (by omega) dX2_isFrame_1 (by decide) (fun c1 => ?_) (fun c1 => ?_)
  · skip
    refine lv_iconst (v := iI 0) hex hbc dX2_isFrame_16 rfl ?_
    exact g_zret hex hbc hrt hlocks rfl hK hP hD hS ⟨rfl, _, rfl, by omega⟩ dX2_isFrame_17
  · skip
    refine lv_iload_n hex hbc dX2_isFrame_4 rfl (lv_at hl 1 rfl) ?_
    refine lv_aload_n hex hbc dX2_isFrame_5 rfl (lv_at hl 0 rfl) ?_
    refine va_get hex hbc hts hin2 hown hK hP 3 rfl rfl 0 (by decide) (hts _ (List.mem_of_getElem? (i := 1) rfl)) (fun _ h => h) rfl dX2_isFrame_6 ?_
    refine zt_icmp_ge (a := x) (b := (σ 0 0)) (tgt := 16) hex hbc (by omega) dX2_isFrame_9 (by decide) (fun c9 => ?_) (fun c9 => ?_)
    · skip
      refine lv_iconst (v := iI 0) hex hbc dX2_isFrame_16 rfl ?_
      exact g_zret hex hbc hrt hlocks rfl hK hP hD hS ⟨rfl, _, rfl, by omega⟩ dX2_isFrame_17
    · skip
      refine lv_iconst (v := iI 1) hex hbc dX2_isFrame_12 rfl ?_
      refine lv_goto (tgt := 17) hex hbc dX2_isFrame_13 (by decide) ?_
      exact g_zret hex hbc hrt hlocks rfl hK hP hD hS ⟨rfl, _, rfl, by omega⟩ dX2_isFrame_17
theorem iX2_isSlice_X2 : ∀ w ∈ wsX20, w ∈ wsX2_isSlice := fun _ h => List.mem_cons_of_mem _ (List.mem_append_right _ h)
set_option maxHeartbeats 4000000 in
set_option maxRecDepth 100000 in
theorem mX2_isSlice (l : Launch) (G : va_G) (cx a : Nat → Nat) (σ : Nat → Int → Int)  (x : Int) (hx : -2147483648 ≤ x ∧ x < 2147483648) (hI : Inv (σ 0)) : Met l yX2_isSlice wsX2_isSlice ({ frames := 0, cells := 0, slots := 0, locals := 0 }) (va_Pc [.ref (a 3), .int (iI x)] (gW G (tx cx) (XA a) (wx cx a) σ)) (va_Qi (fun r u => σ = u ∧ ∃ v, iI v = r ∧ ((0 ≤ x ∧ x < σ 0 74 ∧ v = 1) ∨ (¬ (0 ≤ x ∧ x < σ 0 74) ∧ v = 0))) (gW G (tx cx) (XA a) (wx cx a)) (XA a)) 0 0 (XA a) := by
  refine Met.ofW (cc := cX2_isSlice) (maxL := 2) (ret := some .boolean) (by decide) rfl ?_
  intro p e s m args below meth c s₁ B hml hv
  obtain ⟨rfl, hP, hK, hD⟩ := hv
  have hex := B.exec
  have hbc := B.bytes
  have hrt := B.returns
  have hts := atoms_spec (ws := wsX2_isSlice) B.pre
  have hown : s.vm.findClass RX2 = some m.cls := findClass_of_methodNamed B.named
  have hlocks := B.notSynchronized
  have hS : va_S (XA a) s.heap s.heap [] := va_S.rf
  have hin2 := iX2_isSlice_X2
  have hl := lv_entry ([.ref (a 3), .int (iI x)]) (n := 2) (Nat.le_of_ble_eq_true rfl)
  rw [lg_entry_eq]
  generalize (lg_sl ([.ref (a 3), .int (iI x)]) ++ List.replicate (2 - (lg_sl ([.ref (a 3), .int (iI x)])).length) Slot.unset).toArray = ls at hl ⊢
  have hl : lv_has ls 2 [(0, .ref (a 3)), (1, .int (iI x))] := hl
  obtain ⟨hB, hEn, hMk, hAs, hPm⟩ := id hI
  refine lv_iload_n hex hbc dX2_isSlice_0 rfl (lv_at hl 1 rfl) ?_
  refine zt_if_lt (a := x) (tgt := 16) hex hbc (by omega) dX2_isSlice_1 (by decide) (fun c1 => ?_) (fun c1 => ?_)
  · skip
    refine lv_iconst (v := iI 0) hex hbc dX2_isSlice_16 rfl ?_
    exact g_zret hex hbc hrt hlocks rfl hK hP hD hS ⟨rfl, _, rfl, by omega⟩ dX2_isSlice_17
  · skip
    refine lv_iload_n hex hbc dX2_isSlice_4 rfl (lv_at hl 1 rfl) ?_
    refine lv_aload_n hex hbc dX2_isSlice_5 rfl (lv_at hl 0 rfl) ?_
    refine va_get hex hbc hts hin2 hown hK hP 3 rfl rfl 1 (by decide) (hts _ (List.mem_of_getElem? (i := 1) rfl)) (fun _ h => h) rfl dX2_isSlice_6 ?_
    refine zt_icmp_ge (a := x) (b := (σ 0 74)) (tgt := 16) hex hbc (by omega) dX2_isSlice_9 (by decide) (fun c9 => ?_) (fun c9 => ?_)
    · skip
      refine lv_iconst (v := iI 0) hex hbc dX2_isSlice_16 rfl ?_
      exact g_zret hex hbc hrt hlocks rfl hK hP hD hS ⟨rfl, _, rfl, by omega⟩ dX2_isSlice_17
    · skip
      refine lv_iconst (v := iI 1) hex hbc dX2_isSlice_12 rfl ?_
      refine lv_goto (tgt := 17) hex hbc dX2_isSlice_13 (by decide) ?_
      exact g_zret hex hbc hrt hlocks rfl hK hP hD hS ⟨rfl, _, rfl, by omega⟩ dX2_isSlice_17
theorem iX2_isFree_X2 : ∀ w ∈ wsX20, w ∈ wsX2_isFree := fun _ h => List.mem_cons_of_mem _ (List.mem_append_right _ h)
set_option maxHeartbeats 4000000 in
set_option maxRecDepth 100000 in
theorem mX2_isFree (l : Launch) (G : va_G) (cx a : Nat → Nat) (σ : Nat → Int → Int)   (hI : Inv (σ 0)) : Met l yX2_isFree wsX2_isFree ({ frames := 0, cells := 0, slots := 0, locals := 0 }) (va_Pc [.ref (a 3)] (gW G (tx cx) (XA a) (wx cx a) σ)) (va_Qi (fun r u => σ = u ∧ ∃ v, iI v = r ∧ ((σ 0 8 = 0 ∧ v = 1) ∨ (¬ (σ 0 8 = 0) ∧ v = 0))) (gW G (tx cx) (XA a) (wx cx a)) (XA a)) 0 0 (XA a) := by
  refine Met.ofW (cc := cX2_isFree) (maxL := 1) (ret := some .boolean) (by decide) rfl ?_
  intro p e s m args below meth c s₁ B hml hv
  obtain ⟨rfl, hP, hK, hD⟩ := hv
  have hex := B.exec
  have hbc := B.bytes
  have hrt := B.returns
  have hts := atoms_spec (ws := wsX2_isFree) B.pre
  have hown : s.vm.findClass RX2 = some m.cls := findClass_of_methodNamed B.named
  have hlocks := B.notSynchronized
  have hS : va_S (XA a) s.heap s.heap [] := va_S.rf
  have hin2 := iX2_isFree_X2
  have hl := lv_entry ([.ref (a 3)]) (n := 1) (Nat.le_of_ble_eq_true rfl)
  rw [lg_entry_eq]
  generalize (lg_sl ([.ref (a 3)]) ++ List.replicate (1 - (lg_sl ([.ref (a 3)])).length) Slot.unset).toArray = ls at hl ⊢
  have hl : lv_has ls 1 [(0, .ref (a 3))] := hl
  obtain ⟨hB, hEn, hMk, hAs, hPm⟩ := id hI
  refine lv_aload_n hex hbc dX2_isFree_0 rfl (lv_at hl 0 rfl) ?_
  refine va_get hex hbc hts hin2 hown hK hP 3 rfl rfl 3 (by decide) (hts _ (List.mem_of_getElem? (i := 1) rfl)) (fun _ h => h) rfl dX2_isFree_1 ?_
  refine lv_bipush (v := iI 7) hex hbc dX2_isFree_4 (by decide) ?_
  refine g_iald (f := (fun k => (σ 0 (1 + k)))) (v := (σ 0 8)) (i := 7) hex hbc hK hP 5 0 rfl rfl (by decide) (by omega) rfl dX2_isFree_6 ?_
  refine zt_if_ne (a := (σ 0 8)) (tgt := 14) hex hbc (by omega) dX2_isFree_7 (by decide) (fun c7 => ?_) (fun c7 => ?_)
  · skip
    refine lv_iconst (v := iI 0) hex hbc dX2_isFree_14 rfl ?_
    exact g_zret hex hbc hrt hlocks rfl hK hP hD hS ⟨rfl, _, rfl, by omega⟩ dX2_isFree_15
  · skip
    refine lv_iconst (v := iI 1) hex hbc dX2_isFree_10 rfl ?_
    refine lv_goto (tgt := 15) hex hbc dX2_isFree_11 (by decide) ?_
    exact g_zret hex hbc hrt hlocks rfl hK hP hD hS ⟨rfl, _, rfl, by omega⟩ dX2_isFree_15
theorem iX2_endFrame_X2 : ∀ w ∈ wsX20, w ∈ wsX2_endFrame := fun _ h => List.mem_cons_of_mem _ (List.mem_append_right _ h)
set_option maxHeartbeats 4000000 in
set_option maxRecDepth 100000 in
theorem mX2_endFrame (l : Launch) (G : va_G) (cx a : Nat → Nat) (σ : Nat → Int → Int)  (k : Int) (hk : 0 ≤ k ∧ k < σ 0 74) (hI : Inv (σ 0)) : Met l yX2_endFrame wsX2_endFrame ({ frames := 0, cells := 0, slots := 0, locals := 0 }) (va_Pc [.ref (a 3), .int (iI k)] (gW G (tx cx) (XA a) (wx cx a) σ)) (va_Qi (fun r u => σ = u ∧ iI (fr (σ 0) (k + 1)) = r) (gW G (tx cx) (XA a) (wx cx a)) (XA a)) 0 0 (XA a) := by
  refine Met.ofW (cc := cX2_endFrame) (maxL := 2) (ret := some .int) (by decide) rfl ?_
  intro p e s m args below meth c s₁ B hml hv
  obtain ⟨rfl, hP, hK, hD⟩ := hv
  have hex := B.exec
  have hbc := B.bytes
  have hrt := B.returns
  have hts := atoms_spec (ws := wsX2_endFrame) B.pre
  have hown : s.vm.findClass RX2 = some m.cls := findClass_of_methodNamed B.named
  have hlocks := B.notSynchronized
  have hS : va_S (XA a) s.heap s.heap [] := va_S.rf
  have hin2 := iX2_endFrame_X2
  have hl := lv_entry ([.ref (a 3), .int (iI k)]) (n := 2) (Nat.le_of_ble_eq_true rfl)
  rw [lg_entry_eq]
  generalize (lg_sl ([.ref (a 3), .int (iI k)]) ++ List.replicate (2 - (lg_sl ([.ref (a 3), .int (iI k)])).length) Slot.unset).toArray = ls at hl ⊢
  have hl : lv_has ls 2 [(0, .ref (a 3)), (1, .int (iI k))] := hl
  obtain ⟨hB, hEn, hMk, hAs, hPm⟩ := id hI
  refine lv_iload_n hex hbc dX2_endFrame_0 rfl (lv_at hl 1 rfl) ?_
  refine lv_iconst (v := iI 1) hex hbc dX2_endFrame_1 rfl ?_
  refine zt_iadd hex hbc dX2_endFrame_2 ?_
  refine lv_aload_n hex hbc dX2_endFrame_3 rfl (lv_at hl 0 rfl) ?_
  refine va_get hex hbc hts hin2 hown hK hP 3 rfl rfl 1 (by decide) (hts _ (List.mem_of_getElem? (i := 1) rfl)) (fun _ h => h) rfl dX2_endFrame_4 ?_
  refine zt_icmp_ge (a := (k + 1)) (b := (σ 0 74)) (tgt := 21) hex hbc (by omega) dX2_endFrame_7 (by decide) (fun c7 => ?_) (fun c7 => ?_)
  · skip
    refine lv_aload_n hex hbc dX2_endFrame_21 rfl (lv_at hl 0 rfl) ?_
    refine va_get hex hbc hts hin2 hown hK hP 3 rfl rfl 0 (by decide) (hts _ (List.mem_of_getElem? (i := 3) rfl)) (fun _ h => h) rfl dX2_endFrame_22 ?_
    exact g_iret hex hbc hrt hlocks hK hP hD hS ⟨rfl, congrArg iI (by first | exact fr_lt (by omega) | exact fr_ge (by omega) | exact (fr_lt (by omega)).trans (congrArg _ (by omega)))⟩ dX2_endFrame_25
  · skip
    refine lv_aload_n hex hbc dX2_endFrame_10 rfl (lv_at hl 0 rfl) ?_
    refine va_get hex hbc hts hin2 hown hK hP 3 rfl rfl 4 (by decide) (hts _ (List.mem_of_getElem? (i := 2) rfl)) (fun _ h => h) rfl dX2_endFrame_11 ?_
    refine lv_iload_n hex hbc dX2_endFrame_14 rfl (lv_at hl 1 rfl) ?_
    refine lv_iconst (v := iI 1) hex hbc dX2_endFrame_15 rfl ?_
    refine zt_iadd hex hbc dX2_endFrame_16 ?_
    refine g_iald (f := (fun k => (σ 0 (75 + k)))) (v := (σ 0 (75 + (k + 1)))) (i := (k + 1)) hex hbc hK hP 6 0 rfl rfl (by decide) (by omega) rfl dX2_endFrame_17 ?_
    refine lv_goto (tgt := 25) hex hbc dX2_endFrame_18 (by decide) ?_
    exact g_iret hex hbc hrt hlocks hK hP hD hS ⟨rfl, congrArg iI (by first | exact fr_lt (by omega) | exact fr_ge (by omega) | exact (fr_lt (by omega)).trans (congrArg _ (by omega)))⟩ dX2_endFrame_25
theorem iX2_lengthOf_X2 : ∀ w ∈ wsX20, w ∈ wsX2_lengthOf := fun _ h => List.mem_cons_of_mem _ (List.mem_append_right _ h)
set_option maxHeartbeats 4000000 in
set_option maxRecDepth 100000 in
theorem mX2_lengthOf (l : Launch) (G : va_G) (cx a : Nat → Nat) (σ : Nat → Int → Int)  (k : Int) (hk : 0 ≤ k ∧ k < σ 0 74) (hI : Inv (σ 0)) : Met l yX2_lengthOf wsX2_lengthOf ({ frames := 1, cells := 0, slots := 0, locals := 21 }) (va_Pc [.ref (a 3), .int (iI k)] (gW G (tx cx) (XA a) (wx cx a) σ)) (va_Qi (fun r u => σ = u ∧ iI (ln (σ 0) k) = r) (gW G (tx cx) (XA a) (wx cx a)) (XA a)) 0 0 (XA a) := by
  refine Met.ofW (cc := cX2_lengthOf) (maxL := 2) (ret := some .int) (by decide) rfl ?_
  intro p e s m args below meth c s₁ B hml hv
  obtain ⟨rfl, hP, hK, hD⟩ := hv
  have hex := B.exec
  have hbc := B.bytes
  have hrt := B.returns
  have hts := atoms_spec (ws := wsX2_lengthOf) B.pre
  have hown : s.vm.findClass RX2 = some m.cls := findClass_of_methodNamed B.named
  have hlocks := B.notSynchronized
  have hS : va_S (XA a) s.heap s.heap [] := va_S.rf
  have hin2 := iX2_lengthOf_X2
  have hl := lv_entry ([.ref (a 3), .int (iI k)]) (n := 2) (Nat.le_of_ble_eq_true rfl)
  rw [lg_entry_eq]
  generalize (lg_sl ([.ref (a 3), .int (iI k)]) ++ List.replicate (2 - (lg_sl ([.ref (a 3), .int (iI k)])).length) Slot.unset).toArray = ls at hl ⊢
  have hl : lv_has ls 2 [(0, .ref (a 3)), (1, .int (iI k))] := hl
  obtain ⟨hB, hEn, hMk, hAs, hPm⟩ := id hI
  refine lv_aload_n hex hbc dX2_lengthOf_0 rfl (lv_at hl 0 rfl) ?_
  refine lv_iload_n hex hbc dX2_lengthOf_1 rfl (lv_at hl 1 rfl) ?_
  refine g_calli [.int (iI k)] ⟨hex, hbc, hml, hown, hts⟩ (mX2_endFrame l G cx a σ k (by omega) hI) (cwV 1 hts gX2_lengthOf_X2_endFrame rfl rfl rfl (by decide +kernel) ⟨Nat.le_of_ble_eq_true rfl, Nat.le_of_ble_eq_true rfl⟩) hK hP hD hS (fun _ h => h) 3 2 rfl rfl rfl rfl hl.1 (Nat.le_of_ble_eq_true rfl) dX2_lengthOf_2 ⟨Nat.zero_le _, Nat.zero_le _⟩ (fun r_2 u_2 H locs hw_2 hP hD hS hz_2 hk_2 => ?_)
  obtain ⟨rfl, rfl⟩ := hw_2
  refine lv_aload_n hex hbc dX2_lengthOf_5 rfl (lv_at hl 0 rfl) ?_
  refine va_get hex hbc hts hin2 hown hK hP 3 rfl rfl 4 (by decide) (hts _ (List.mem_of_getElem? (i := 1) rfl)) (fun _ h => h) rfl dX2_lengthOf_6 ?_
  refine lv_iload_n hex hbc dX2_lengthOf_9 rfl (lv_at hl 1 rfl) ?_
  refine g_iald (f := (fun k => (σ 0 (75 + k)))) (v := (σ 0 (75 + k))) (i := k) hex hbc hK hP 6 0 rfl rfl (by decide) (by omega) rfl dX2_lengthOf_10 ?_
  refine zt_isub hex hbc dX2_lengthOf_11 ?_
  refine lv_aload_n hex hbc dX2_lengthOf_12 rfl (lv_at hl 0 rfl) ?_
  refine va_get hex hbc hts hin2 hown hK hP 3 rfl rfl 3 (by decide) (hts _ (List.mem_of_getElem? (i := 2) rfl)) (fun _ h => h) rfl dX2_lengthOf_13 ?_
  refine lv_iconst (v := iI 0) hex hbc dX2_lengthOf_16 rfl ?_
  refine g_iald (f := (fun k => (σ 0 (1 + k)))) (v := (σ 0 1)) (i := 0) hex hbc hK hP 5 0 rfl rfl (by decide) (by omega) rfl dX2_lengthOf_17 ?_
  refine zt_imul hex hbc dX2_lengthOf_18 ?_
  exact g_iret hex hbc hrt hlocks hK hP hD hS ⟨rfl, congrArg iI (by unfold ln; rw [fr_lt (k := k) (by omega)])⟩ dX2_lengthOf_19
theorem iX2_leastBudget_X2 : ∀ w ∈ wsX20, w ∈ wsX2_leastBudget := fun _ h => List.mem_cons_of_mem _ (List.mem_append_right _ h)
set_option maxHeartbeats 4000000 in
set_option maxRecDepth 100000 in
theorem mX2_leastBudget (l : Launch) (G : va_G) (cx a : Nat → Nat) (σ : Nat → Int → Int)  (n : Int) (hn : 0 ≤ n ∧ n ≤ 64000) (hI : Inv (σ 0)) : Met l yX2_leastBudget wsX2_leastBudget ({ frames := 0, cells := 0, slots := 0, locals := 0 }) (va_Pc [.ref (a 3), .int (iI n)] (gW G (tx cx) (XA a) (wx cx a) σ)) (va_Qi (fun r u => σ = u ∧ iI (n * σ 0 4 / 100) = r) (gW G (tx cx) (XA a) (wx cx a)) (XA a)) 0 0 (XA a) := by
  refine Met.ofW (cc := cX2_leastBudget) (maxL := 2) (ret := some .int) (by decide) rfl ?_
  intro p e s m args below meth c s₁ B hml hv
  obtain ⟨rfl, hP, hK, hD⟩ := hv
  have hex := B.exec
  have hbc := B.bytes
  have hrt := B.returns
  have hts := atoms_spec (ws := wsX2_leastBudget) B.pre
  have hown : s.vm.findClass RX2 = some m.cls := findClass_of_methodNamed B.named
  have hlocks := B.notSynchronized
  have hS : va_S (XA a) s.heap s.heap [] := va_S.rf
  have hin2 := iX2_leastBudget_X2
  have hl := lv_entry ([.ref (a 3), .int (iI n)]) (n := 2) (Nat.le_of_ble_eq_true rfl)
  rw [lg_entry_eq]
  generalize (lg_sl ([.ref (a 3), .int (iI n)]) ++ List.replicate (2 - (lg_sl ([.ref (a 3), .int (iI n)])).length) Slot.unset).toArray = ls at hl ⊢
  have hl : lv_has ls 2 [(0, .ref (a 3)), (1, .int (iI n))] := hl
  obtain ⟨hB, hEn, hMk, hAs, hPm⟩ := id hI
  have hm := mulb (a := n) (b := σ 0 4) (A := 64000) (B := 100) (by omega) (by omega) (by omega) (by omega)
  refine lv_iload_n hex hbc dX2_leastBudget_0 rfl (lv_at hl 1 rfl) ?_
  refine lv_aload_n hex hbc dX2_leastBudget_1 rfl (lv_at hl 0 rfl) ?_
  refine va_get hex hbc hts hin2 hown hK hP 3 rfl rfl 3 (by decide) (hts _ (List.mem_of_getElem? (i := 1) rfl)) (fun _ h => h) rfl dX2_leastBudget_2 ?_
  refine lv_iconst (v := iI 3) hex hbc dX2_leastBudget_5 rfl ?_
  refine g_iald (f := (fun k => (σ 0 (1 + k)))) (v := (σ 0 4)) (i := 3) hex hbc hK hP 5 0 rfl rfl (by decide) (by omega) rfl dX2_leastBudget_6 ?_
  refine zt_imul hex hbc dX2_leastBudget_7 ?_
  refine lv_bipush (v := iI 100) hex hbc dX2_leastBudget_8 (by decide) ?_
  refine zt_idiv hex hbc (by omega) dX2_leastBudget_10 ?_
  exact g_iret hex hbc hrt hlocks hK hP hD hS ⟨rfl, rfl⟩ dX2_leastBudget_11
theorem iX2_mostBudget_X2 : ∀ w ∈ wsX20, w ∈ wsX2_mostBudget := fun _ h => List.mem_cons_of_mem _ (List.mem_append_right _ h)
set_option maxHeartbeats 4000000 in
set_option maxRecDepth 100000 in
theorem mX2_mostBudget (l : Launch) (G : va_G) (cx a : Nat → Nat) (σ : Nat → Int → Int)  (n : Int) (hn : 0 ≤ n ∧ n ≤ 64000) (hI : Inv (σ 0)) : Met l yX2_mostBudget wsX2_mostBudget ({ frames := 0, cells := 0, slots := 0, locals := 0 }) (va_Pc [.ref (a 3), .int (iI n)] (gW G (tx cx) (XA a) (wx cx a) σ)) (va_Qi (fun r u => σ = u ∧ iI (n * σ 0 5 / 100) = r) (gW G (tx cx) (XA a) (wx cx a)) (XA a)) 0 0 (XA a) := by
  refine Met.ofW (cc := cX2_mostBudget) (maxL := 2) (ret := some .int) (by decide) rfl ?_
  intro p e s m args below meth c s₁ B hml hv
  obtain ⟨rfl, hP, hK, hD⟩ := hv
  have hex := B.exec
  have hbc := B.bytes
  have hrt := B.returns
  have hts := atoms_spec (ws := wsX2_mostBudget) B.pre
  have hown : s.vm.findClass RX2 = some m.cls := findClass_of_methodNamed B.named
  have hlocks := B.notSynchronized
  have hS : va_S (XA a) s.heap s.heap [] := va_S.rf
  have hin2 := iX2_mostBudget_X2
  have hl := lv_entry ([.ref (a 3), .int (iI n)]) (n := 2) (Nat.le_of_ble_eq_true rfl)
  rw [lg_entry_eq]
  generalize (lg_sl ([.ref (a 3), .int (iI n)]) ++ List.replicate (2 - (lg_sl ([.ref (a 3), .int (iI n)])).length) Slot.unset).toArray = ls at hl ⊢
  have hl : lv_has ls 2 [(0, .ref (a 3)), (1, .int (iI n))] := hl
  obtain ⟨hB, hEn, hMk, hAs, hPm⟩ := id hI
  have hm := mulb (a := n) (b := σ 0 5) (A := 64000) (B := 1000) (by omega) (by omega) (by omega) (by omega)
  refine lv_iload_n hex hbc dX2_mostBudget_0 rfl (lv_at hl 1 rfl) ?_
  refine lv_aload_n hex hbc dX2_mostBudget_1 rfl (lv_at hl 0 rfl) ?_
  refine va_get hex hbc hts hin2 hown hK hP 3 rfl rfl 3 (by decide) (hts _ (List.mem_of_getElem? (i := 1) rfl)) (fun _ h => h) rfl dX2_mostBudget_2 ?_
  refine lv_iconst (v := iI 4) hex hbc dX2_mostBudget_5 rfl ?_
  refine g_iald (f := (fun k => (σ 0 (1 + k)))) (v := (σ 0 5)) (i := 4) hex hbc hK hP 5 0 rfl rfl (by decide) (by omega) rfl dX2_mostBudget_6 ?_
  refine zt_imul hex hbc dX2_mostBudget_7 ?_
  refine lv_bipush (v := iI 100) hex hbc dX2_mostBudget_8 (by decide) ?_
  refine zt_idiv hex hbc (by omega) dX2_mostBudget_10 ?_
  exact g_iret hex hbc hrt hlocks hK hP hD hS ⟨rfl, rfl⟩ dX2_mostBudget_11
end
