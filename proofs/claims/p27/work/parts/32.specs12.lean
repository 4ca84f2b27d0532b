/-! the history's object after a push or a pop -/
theorem pu_0 {f : Int → Int} {n z : Int} : ups (ups f 0 n) 1 z 0 = n := (ups_n _ _ (by decide)).trans (ups_s _ _ _)
theorem pu_1 {f : Int → Int} {n z : Int} : ups (ups f 0 n) 1 z 1 = z := ups_s _ _ _
