/-! calls of constructors; rows of references -/
def rl (L : List Nat) : Nat → Option Nat := fun k => L[k]?
theorem rl_nil : (fun _ => none) = rl [] := funext fun k => (List.getElem?_nil).symm
theorem rl_push (L : List Nat) (v : Nat) : va_up (rl L) L.length (some v) = rl (L ++ [v]) := funext fun k => by
  unfold va_up rl
  by_cases h : k = L.length
  · rw [if_pos h, h, List.getElem?_append_right (Nat.le_refl _), Nat.sub_self]; rfl
  · rw [if_neg h]
    by_cases h2 : k < L.length
    · rw [List.getElem?_append_left h2]
    · rw [List.getElem?_eq_none (by omega), List.getElem?_eq_none (by rw [List.length_append]; show L.length + 1 ≤ k; omega)]
theorem at_Q {D : va_G} {cl : List vw_C} {b n : Nat} {cA : ClassId} {f g : Nat → Option Nat} (h : ∀ k, k < n → f k = g k) (H : Heap) (hp : va_at D cl (b, .inl (cA, n, .inr (.inr (.inr (.inr f))))) H) : va_at D cl (b, .inl (cA, n, .inr (.inr (.inr (.inr g))))) H := by
  have e : vp_cell cA (n, .inr (.inr (.inr (.inr f)))) = vp_cell cA (n, .inr (.inr (.inr (.inr g)))) := by
    rw [vp_cell_q, vp_cell_q]
    exact arrV_ext cA fun k hk => by show va_rf (f k) = va_rf (g k); rw [h k hk]
  show H[b]? = some (vp_cell cA (n, .inr (.inr (.inr (.inr g)))))
  rw [← e]
  exact hp
theorem leW_q {D : va_G} {cl : List vw_C} {b n : Nat} {cA : ClassId} {f g : Nat → Option Nat} {xs ys : va_W} (h : leW D cl xs ys) (hf : ∀ k, k < n → f k = g k) : leW D cl ((b, .inl (cA, n, .inr (.inr (.inr (.inr f))))) :: xs) ((b, .inl (cA, n, .inr (.inr (.inr (.inr g))))) :: ys) := ⟨⟨rfl, at_Q hf⟩, h⟩
section MAKE2
variable {p : Program} {l : Launch} {e : Env} {R : Room} {s : State} {m : MethodId} {args : Array Value} {below : List Frame} {meth : Method} {c : Code} {H : Heap} {locs : List Loc} {cells slots : Nat} {Q : State → Prop}
variable {cc : ByteArray} {pc : Nat} {ls : Array Slot} {rest : List Value} {G : va_G} {tys : List (ClassId × FieldType)} {A : Nat → Prop} {ws : va_W} {H0 : Heap}
theorem g_newr {own C : String} {index : Nat} {cA : ClassId} (t0 : Nat) (hx : p.tables.exec = Jvm.exec) (hb : c.code = cc) (hown : s.vm.findClass own = some m.cls) (hcl : (Cond.classLink own index C).before args s = true) (hover : va_AO C s) (hK : va_K G vwCl tys s) (ht : tys[t0]? = some (cA, .object C)) (hP : va_P G vwCl ws H) (hD : va_D A ws) (hS : va_S A H0 H locs) (hA : ∀ q, H0.size ≤ q → A q) {n : Int} (N' : Nat) (hn : n < 2147483648 ∧ n = (N' : Int)) (hbytes : N' * 4 ≤ 536870912) (hcells : cells + 1 ≤ R.cells) (hslots : slots + N' ≤ R.slots) (hdg : decode cc pc = .ok (.anewarray index, 3))
    (kk : ∀ (q : Nat) (H1 : Heap), va_P G vwCl (ws ++ [(q, .inl (cA, N', .inr (.inr (.inr (.inr (rl []))))))]) H1 → va_D A (ws ++ [(q, .inl (cA, N', .inr (.inr (.inr (.inr (rl []))))))]) → va_S A H0 H1 locs → W p l e R s m args below meth c H1 locs (cells + 1) (slots + N') Q (F0 m (pc + 3) ls (.ref q :: rest))) : W p l e R s m args below meth c H locs cells slots Q (F0 m pc ls (.int (iI n) :: rest)) :=
  g_newq t0 hx hb hown hcl hover hK ht hP hD hS hA N' hn hbytes hcells hslots hdg (fun q H1 h1 h2 h3 => by
    rw [rl_nil] at h1 h2
    exact kk q H1 h1 h2 h3)
theorem g_astr (hx : p.tables.exec = Jvm.exec) (hb : c.code = cc) (hK : va_K G vwCl tys s) (hP : va_P G vwCl ws H) (hD : va_D A ws) (hS : va_S A H0 H locs) (q0 t0 qk ci : Nat) {cA : ClassId} {r : vw_C} {n v a : Nat} {vs : List Value} {L : List Nat} (ha : ws[q0]? = some (a, .inl (cA, n, .inr (.inr (.inr (.inr (rl L))))))) (ht : tys[t0]? = some (cA, .object r.1)) (hv : ws[qk]? = some (v, .inr (ci, vs))) (hc : vwCl[ci]? = some r) {i : Int} (hi : i = (L.length : Int)) (hn : L.length < n ∧ n < 2147483648) (hdg : decode cc pc = .ok (.aastore, 1))
    (kk : ∀ (H1 : Heap) (locs1 : List Loc), va_P G vwCl (ws.set q0 (a, .inl (cA, n, .inr (.inr (.inr (.inr (rl (L ++ [v])))))))) H1 → va_D A (ws.set q0 (a, .inl (cA, n, .inr (.inr (.inr (.inr (rl (L ++ [v])))))))) → va_S A H0 H1 locs1 → W p l e R s m args below meth c H1 locs1 cells slots Q (F0 m (pc + 1) ls rest)) : W p l e R s m args below meth c H locs cells slots Q (F0 m pc ls (.ref v :: .int (iI i) :: .ref a :: rest)) := by
  have hcl : (iI i).toNatClampNeg = L.length := by
    have := iI_cl (i := i) ⟨by omega, by omega⟩
    omega
  refine va_astq hx hb hK hP hD hS q0 t0 qk ci ha ht hv hc (iI_in hn.2 ⟨by omega, by omega⟩) hdg (fun H1 locs1 h1 h2 h3 => ?_)
  rw [hcl, rl_push] at h1 h2
  exact kk H1 locs1 h1 h2 h3
variable {α : Type} {y : MethodName} {bytes : ByteArray} {maxL nL mc ms n index : Nat} {wsy : List Cond} {rm : Room} {Ts : List Cond} {own host : String} {st0 : List Value} {e0 : va_E} {wo : α → va_W} {Ex : State → Prop}
theorem g_init (As : List Value) (q : Nat) (S : CallFix p m c cc nL s args Ts own) (hM : Met l y wsy rm (va_Pc (.ref q :: As) (fun U => U.heap.size = H.size ∧ va_P G vwCl [(q, e0)] U.heap ∧ va_K G vwCl tys U ∧ Ex U)) (va_Qv (fun (_ : α) => True) (fun u t => va_P G vwCl (wo u) t.heap ∧ va_D (NA q H.size) (wo u)) (NA q H.size)) mc ms (NA q H.size))
    (cw : CallB R s args own index y bytes maxL none wsy rm mc ms n ∧ y.name = "<init>" ∧ (Cond.instanceMethod y).before args s = true)
    (hK : va_K G vwCl tys s) (hP : va_P G vwCl (ws ++ [(q, e0)]) H) (hD : va_D A (ws ++ [(q, e0)])) (hS : va_S A H0 H locs) (hA : ∀ z, H0.size ≤ z → A z) (hE : ∀ U : State, U.heap = H → s.WarmedH U.vm → (∀ z, NA q H.size z → A z) → Ex U) (hEb : ∀ (a : Array Value) (U : State) (g : JFrame) (mk : MethodId), Ex U → Ex (U.calling g mk a))
    (hst : st0 = As.reverse ++ .ref q :: rest) (hn : As.length = n) (hsz : ls.size = nL) (hW : (rest.map fun v => v.category).sum ≤ 8) (hdg : decode cc pc = .ok (.invokespecial index, 3)) (hf : cells + mc ≤ R.cells ∧ slots + ms ≤ R.slots)
    (kk : ∀ (u : α) (H1 : Heap) (locs1 : List Loc), va_P G vwCl (ws ++ wo u) H1 → va_D A (ws ++ wo u) → va_S A H0 H1 locs1 → W p l e R s m args below meth c H1 locs1 (cells + mc) (slots + ms) Q (F0 m (pc + 3) ls rest)) : W p l e R s m args below meth c H locs cells slots Q (F0 m pc ls st0) := by
  subst hst
  have hF : ∀ z, NA q H.size z → A z := fun z hz => hz.elim (fun w => by rw [w]; exact hD.2 ws.length (q, e0) (by rw [List.getElem?_append_right (Nat.le_refl _), Nat.sub_self]; rfl)) (fun w => hA z (Nat.le_trans hS.1 w))
  exact va_callv (va_runI S hM cw ⟨fun a U g mk h => ⟨h.1, h.2.1, h.2.2.1, va_K.moved (u := U) (U := U.calling g mk a) (Vm.Alike.refl U.vm) h.2.2.2.1, hEb a U g mk h.2.2.2.2⟩, fun U hU hW => ⟨rfl, by rw [hU], by rw [hU]; exact g_only hP, va_K.moved hW.alike hK, hE U hU hW hF⟩⟩ rfl hn hsz rfl (lv_room hW) hdg hf) hS (fun z _ h => hF z h) hF (fun u t H1 locs1 ht hvm hw hB hz hk hS1 => by
    obtain ⟨b1, b2⟩ := hB
    rw [ht] at b1
    obtain ⟨hP', hD'⟩ := g_join hP hD hk hF b1 b2
    exact kk u H1 locs1 hP' hD' hS1)
theorem g_initN (As : List Value) (q : Nat) (S : CallFix p m c cc nL s args Ts own) (hM : Met l y wsy rm (va_Pc (.ref q :: As) (fun U => U.heap.size = H.size ∧ va_P G vwCl [(q, e0)] U.heap ∧ va_K G vwCl tys U ∧ Ex U)) (va_Qv (fun (_ : α) => True) (fun u t => va_P G vwCl (wo u) t.heap ∧ va_D (NA q H.size) (wo u)) (NA q H.size)) mc ms (NA q H.size))
    (cw : va_CN R s args own index y host bytes maxL none wsy rm mc ms n ∧ y.name = "<init>" ∧ (Cond.instanceMethod y).before args s = true)
    (hK : va_K G vwCl tys s) (hP : va_P G vwCl (ws ++ [(q, e0)]) H) (hD : va_D A (ws ++ [(q, e0)])) (hS : va_S A H0 H locs) (hA : ∀ z, H0.size ≤ z → A z) (hE : ∀ U : State, U.heap = H → s.WarmedH U.vm → (∀ z, NA q H.size z → A z) → Ex U) (hEb : ∀ (a : Array Value) (U : State) (g : JFrame) (mk : MethodId), Ex U → Ex (U.calling g mk a))
    (hst : st0 = As.reverse ++ .ref q :: rest) (hn : As.length = n) (hsz : ls.size = nL) (hW : (rest.map fun v => v.category).sum ≤ 8) (hdg : decode cc pc = .ok (.invokespecial index, 3)) (hf : cells + mc ≤ R.cells ∧ slots + ms ≤ R.slots)
    (kk : ∀ (u : α) (H1 : Heap) (locs1 : List Loc), va_P G vwCl (ws ++ wo u) H1 → va_D A (ws ++ wo u) → va_S A H0 H1 locs1 → W p l e R s m args below meth c H1 locs1 (cells + mc) (slots + ms) Q (F0 m (pc + 3) ls rest)) : W p l e R s m args below meth c H locs cells slots Q (F0 m pc ls st0) := by
  subst hst
  have hF : ∀ z, NA q H.size z → A z := fun z hz => hz.elim (fun w => by rw [w]; exact hD.2 ws.length (q, e0) (by rw [List.getElem?_append_right (Nat.le_refl _), Nat.sub_self]; rfl)) (fun w => hA z (Nat.le_trans hS.1 w))
  exact va_callv (va_runIN S hM cw ⟨fun a U g mk h => ⟨h.1, h.2.1, h.2.2.1, va_K.moved (u := U) (U := U.calling g mk a) (Vm.Alike.refl U.vm) h.2.2.2.1, hEb a U g mk h.2.2.2.2⟩, fun U hU hW => ⟨rfl, by rw [hU], by rw [hU]; exact g_only hP, va_K.moved hW.alike hK, hE U hU hW hF⟩⟩ rfl hn hsz rfl (lv_room hW) hdg hf) hS (fun z _ h => hF z h) hF (fun u t H1 locs1 ht hvm hw hB hz hk hS1 => by
    obtain ⟨b1, b2⟩ := hB
    rw [ht] at b1
    obtain ⟨hP', hD'⟩ := g_join hP hD hk hF b1 b2
    exact kk u H1 locs1 hP' hD' hS1)
end MAKE2
