/-! the changes: what a call makes of a state, on both sides -/
def mpast (p w : Int → Int) (n : Int) : Int → Int := if n = 8 then (fun k => if 0 ≤ k ∧ k < 749 then p (k + 107) else if 749 ≤ k ∧ k < 856 then w (k - 749) else p k) else (fun k => if 107 * n ≤ k ∧ k < 107 * n + 107 then w (k - 107 * n) else p k)
def mpm (n : Int) : Int := if n = 8 then 8 else n + 1
/-- the reference's state after a question, after a change to w -/
def MQ_ (τ u : Nat → Int → Int) : Prop := u 0 = τ 0 ∧ u 1 = τ 1 ∧ u 2 0 = τ 2 0 ∧ u 2 1 = τ 2 1 ∧ u 3 = τ 3
def MC_ (τ u : Nat → Int → Int) (w : Int → Int) : Prop := u 0 = w ∧ u 1 = mpast (τ 1) (τ 0) (τ 2 0) ∧ u 2 0 = mpm (τ 2 0) ∧ u 2 1 = τ 2 1 ∧ u 3 = τ 3
/-- the program's -/
def XQ_ (σ u : Nat → Int → Int) : Prop := u 0 = σ 0 ∧ u 1 = σ 1 ∧ u 12 0 = σ 12 0 ∧ u 12 1 = σ 12 1 ∧ u 9 = σ 9 ∧ u 11 = σ 11
def nxs (n : Int) : Int := if n + 1 < 8 then n + 1 else 0
def szs (z : Int) : Int := if z < 8 then z + 1 else z
def XC_ (σ u : Nat → Int → Int) (w : Int → Int) : Prop := u 0 = w ∧ u 1 = cpi (σ 1) (σ 0) (107 * nxs (σ 12 0)) ∧ u 12 0 = nxs (σ 12 0) ∧ u 12 1 = szs (σ 12 1) ∧ u 9 = σ 9 ∧ u 11 = σ 11
/-- energies -/
def spS (w : Int → Int) (x y e : Int) : Int → Int := fun k => if 10 + x ≤ k ∧ k ≤ 10 + y then e else w k
def smE (w : Int → Int) (x n : Int) : Int := sumN (fun k => w (10 + (x + k))) n.toNat
def okE (w : Int → Int) (x y e : Int) : Prop := (0 ≤ x ∧ x < w 0) ∧ (0 ≤ y ∧ y < w 0) ∧ x ≤ y ∧ 0 ≤ e ∧ e ≤ 999
/-- settings -/
def lowS (s : Int) : Int := if s = 3 then 10 else if s = 4 then 100 else if s = 7 ∨ s = 8 then 0 else 1
def highS (s : Int) : Int := if s = 0 then 1000 else if s = 1 then 999 else if s = 2 then 16 else if s = 3 then 100 else if s = 4 then 1000 else if s = 5 then 200000 else if s = 6 then 32 else if s = 7 then 1 else 500
def okS (s v : Int) : Prop := 0 ≤ s ∧ s ≤ 8 ∧ lowS s ≤ v ∧ v ≤ highS s
/-- marks found: the number, and the loop then -/
def fnd (w : Int → Int) (t : Int) : Int := (fbn w t (fun k => w (75 + k)) (w 0 - 1).toNat).1
def spF (w : Int → Int) : Int → Int := fun k => if k = 74 then fnd w (w 2) else if 75 ≤ k ∧ k < 91 then (fbn w (w 2) (fun k => w (75 + k)) (w 0 - 1).toNat).2 (k - 75) else if 91 ≤ k ∧ k < 107 then k - 91 else w k
theorem fbn_1 (w : Int → Int) (t : Int) (b b' : Int → Int) : ∀ n : Nat, (fbn w t b n).1 = (fbn w t b' n).1 ∧ ∀ k, 0 ≤ k → k < (fbn w t b n).1 → (fbn w t b n).2 k = (fbn w t b' n).2 k
  | 0 => ⟨rfl, fun k k0 k1 => by
      have h1 : k < 1 := k1
      rw [fbn_0, fbn_0]
      show ups b 0 0 k = ups b' 0 0 k
      rw [show k = 0 by omega, ups_s, ups_s]⟩
  | n + 1 => by
    obtain ⟨h1, h2⟩ := fbn_1 w t b b' n
    obtain ⟨a1, a2, -⟩ := fbn_in w t b n
    have h3 := h2 ((fbn w t b n).1 - 1) (by omega) (by omega)
    by_cases hc : (fbn w t b n).1 < 16 ∧ t ≤ w (10 + ((n : Int) + 1)) - w (10 + (n : Int)) ∧ w 3 ≤ (n : Int) + 1 - (fbn w t b n).2 ((fbn w t b n).1 - 1)
    · rw [fbn_y hc, fbn_y (b := b') (by rw [← h1, ← h3]; exact hc), ← h1]
      refine ⟨rfl, fun k k0 k1 => ?_⟩
      show ups _ _ _ k = ups _ _ _ k
      unfold ups
      have hk : k < (fbn w t b n).1 + 1 := k1
      split
      · rfl
      · exact h2 k k0 (by omega)
    · rw [fbn_n hc, fbn_n (b := b') (by rw [← h1, ← h3]; exact hc)]
      exact ⟨h1, h2⟩
theorem fbn_keep (w : Int → Int) (t : Int) (b : Int → Int) : ∀ (n : Nat) (k : Int), (fbn w t b n).1 ≤ k ∨ k < 0 → (fbn w t b n).2 k = b k
  | 0, k, h => by
    have h' : (1 : Int) ≤ k ∨ k < 0 := h
    rw [fbn_0]
    exact ups_n _ _ (by omega)
  | n + 1, k, h => by
    by_cases hc : (fbn w t b n).1 < 16 ∧ t ≤ w (10 + ((n : Int) + 1)) - w (10 + (n : Int)) ∧ w 3 ≤ (n : Int) + 1 - (fbn w t b n).2 ((fbn w t b n).1 - 1)
    · have hi := (fbn_in w t b n).1
      rw [fbn_y hc] at h ⊢
      have h' : (fbn w t b n).1 + 1 ≤ k ∨ k < 0 := h
      show ups _ _ _ k = b k
      rw [ups_n _ _ (by omega)]
      exact fbn_keep w t b n k (by omega)
    · rw [fbn_n hc] at h ⊢
      exact fbn_keep w t b n k h
/-- a mark is added, removed, moved -/
def spM (w : Int → Int) (m f : Int) : Int → Int := ups w (75 + m) f
/-- the order turned round -/
def spV (w : Int → Int) : Int → Int := fun k => if 91 ≤ k ∧ k < 91 + w 74 then w (91 + (w 74 - 1 - (k - 91))) else w k
/-- a static method that touches no cell, called where no world is at hand -/
theorem g_callS0 {p : Program} {l : Launch} {e : Env} {R : Room} {s : State} {m : MethodId} {args : Array Value} {below : List Frame} {meth : Method} {c : Code} {H : Heap} {locs : List Loc} {cells slots : Nat} {Q : State → Prop} {cc : ByteArray} {pc : Nat} {ls : Array Slot} {rest : List Value} {A0 : Nat → Prop} {H0 : Heap} {y : MethodName} {bytes : ByteArray} {maxL nL n index : Nat} {ret : Option FieldType} {ws : List Cond} {rm : Room} {Ts : List Cond} {own : String} {st0 : List Value} {post : Int32 → Unit → Prop} (As : List Value) (S : CallFix p m c cc nL s args Ts own) (hM : Met l y ws rm (va_Pc As (fun _ => True)) (va_Qi post (fun _ _ => True) (fun _ => False)) 0 0 (fun _ => False)) (cw : CallB R s args own index y bytes maxL ret ws rm 0 0 n ∧ (Cond.static y).before args s = true)
    (hS : va_S A0 H0 H locs) (hst : st0 = As.reverse ++ rest) (hn : As.length = n) (hsz : ls.size = nL) (hW : (rest.map fun v => v.category).sum ≤ 8) (hdg : decode cc pc = .ok (.invokestatic index, 3)) (hf : cells ≤ R.cells ∧ slots ≤ R.slots)
    (kk : ∀ (r : Int32) (H1 : Heap) (locs1 : List Loc), post r () → va_S A0 H0 H1 locs1 → W p l e R s m args below meth c H1 locs1 cells slots Q (F0 m (pc + 3) ls (.int r :: rest))) : W p l e R s m args below meth c H locs cells slots Q (F0 m pc ls st0) := by
  subst hst
  exact va_calli (va_runS S hM cw ⟨fun a U g mk q => q, fun U hU hW => ⟨rfl, trivial⟩⟩ rfl hn hsz rfl (lv_room hW) hdg hf) hS (fun z _ h => h.elim) (fun z h => h.elim) (fun r u t H1 locs1 ht hvm hw hB hz hk hS1 => kk r H1 locs1 hw hS1)
/-- answers told by what they must be; Q: nothing has changed, C w: the change to w -/
def Rmark (w : Int → Int) (x : Int) (r : Int32) (Q : Prop) (C : (Int → Int) → Prop) : Prop :=
  (¬ (0 ≤ x ∧ x < w 0) → iI (-1) = r ∧ Q) ∧ ((0 ≤ x ∧ x < w 0) → ∃ p, Bef w x p ∧ (p < w 74 ∧ w (75 + p) = x → iI (-2) = r ∧ Q) ∧ (¬ (p < w 74 ∧ w (75 + p) = x) → (w 74 = 16 → iI (-3) = r ∧ Q) ∧ (w 74 < 16 → iI p = r ∧ C (spi w p x))))
def Rmove (w : Int → Int) (x y : Int) (r : Int32) (Q : Prop) (C : (Int → Int) → Prop) : Prop :=
  (¬ ((1 ≤ x ∧ x < w 74) ∧ 0 ≤ y ∧ y < w 0) → iI (-1) = r ∧ Q) ∧ (((1 ≤ x ∧ x < w 74) ∧ 0 ≤ y ∧ y < w 0) → (¬ (fr w (x - 1) < y ∧ y < fr w (x + 1)) → iI (-2) = r ∧ Q) ∧ ((fr w (x - 1) < y ∧ y < fr w (x + 1)) → iI (w (75 + x)) = r ∧ C (spM w x y)))
def TF_ (w : Int → Int) (x v : Int) : Prop := (v = -9 ∧ ∀ t, 1 ≤ t → t ≤ 999 → fnd w t < x) ∨ (1 ≤ v ∧ v ≤ 999 ∧ x ≤ fnd w v ∧ ∀ t, v < t → t ≤ 999 → fnd w t < x)
def LG_ (w : Int → Int) (v : Int) : Prop := (v = -9 ∧ ∀ g, 1 ≤ g → g ≤ 32 → ¬ can_ w (w 6) g) ∨ (1 ≤ v ∧ v ≤ 32 ∧ can_ w (w 6) v ∧ ∀ g, 1 ≤ g → g < v → ¬ can_ w (w 6) g)
def okT (w : Int → Int) (t : Int) : Prop := (1 ≤ t ∧ t ≤ 200000) ∧ can_ w t (w 7)
def NT_ (w : Int → Int) (x v : Int) : Prop := (v = -9 ∧ ∀ d, 0 ≤ d → d ≤ x → ¬ okT w (w 6 - d) ∧ ¬ okT w (w 6 + d)) ∨ ∃ d, 0 ≤ d ∧ d ≤ x ∧ (∀ b, 0 ≤ b → b < d → ¬ okT w (w 6 - b) ∧ ¬ okT w (w 6 + b)) ∧ ((okT w (w 6 - d) ∧ v = w 6 - d) ∨ (¬ okT w (w 6 - d) ∧ okT w (w 6 + d) ∧ v = w 6 + d))
def orF (f x : Int) : Int := if x = 0 then (if f % 2 = 1 then f else f + 1) else (if 2 ≤ f then f else f + 2)
def hasF (f x : Int) : Int := if x = 0 then f % 2 else f / 2
theorem bit_or {f x : Int} (hf : 0 ≤ f ∧ f ≤ 3) (hx : 0 ≤ x ∧ x ≤ 1) : iI f ||| (iI 1 <<< (iI x &&& 31)) = iI (orF f x) := by
  have h1 : f = 0 ∨ f = 1 ∨ f = 2 ∨ f = 3 := by omega
  have h2 : x = 0 ∨ x = 1 := by omega
  rcases h1 with rfl | rfl | rfl | rfl <;> rcases h2 with rfl | rfl <;> decide
theorem bit_has {f x : Int} (hf : 0 ≤ f ∧ f ≤ 3) (hx : 0 ≤ x ∧ x ≤ 1) : (iI f >>> (iI x &&& 31)) &&& iI 1 = iI (hasF f x) := by
  have h1 : f = 0 ∨ f = 1 ∨ f = 2 ∨ f = 3 := by omega
  have h2 : x = 0 ∨ x = 1 := by omega
  rcases h1 with rfl | rfl | rfl | rfl <;> rcases h2 with rfl | rfl <;> decide
section ZRAW
variable {p : Program} {l : Launch} {e : Env} {R : Room} {s : State} {m : MethodId} {args : Array Value} {below : List Frame} {meth : Method} {c : Code} {H : Heap} {locs : List Loc} {cells slots : Nat} {Q : State → Prop} {pc : Nat} {ls : Array Slot} {rest : List Value}
theorem zt_raw {x : Int32} {b : Int} (h : x = iI b) (k : W p l e R s m args below meth c H locs cells slots Q (F0 m pc ls (.int (iI b) :: rest))) : W p l e R s m args below meth c H locs cells slots Q (F0 m pc ls (.int x :: rest)) := h ▸ k
end ZRAW
