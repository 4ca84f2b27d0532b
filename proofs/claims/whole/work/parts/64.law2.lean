/-! the law: its cases (wip/gen/law.py) -/
set_option maxHeartbeats 2000000 in
set_option maxRecDepth 20000 in
theorem law_begin {p : Program} {l : Launch} {e : Env} {s : State} {m : MethodId} {below : List Frame} {meth : Method} {c : Code} {H : Heap} {locs : List Loc} {ls : Array Slot} {cells slots : Nat} {Q : State → Prop} {bs L tl th : Nat} {xs : Nat → Int32} {G : va_G} {cx a b : Nat → Nat} {σ τ : Nat → Int → Int} {i : Int} (C : LC p s m c bs L xs G cx a b tl th) (hcs : cells ≤ room_1.cells ∧ slots ≤ room_1.slots) (hi : 0 ≤ i ∧ i + 4 ≤ (L : Int)) (hR : Rel (Nx σ) τ) (hL : Lw G cx a b σ τ H) (hS : va_S (fun q => s.heap.size ≤ q) s.heap H locs) (hl : lv_has ls 8 [(0, .ref bs), (1, .ref (a 0)), (2, .ref (b 0)), (3, .int (iI i))]) (kk : ∀ (u t : Nat → Int → Int) (H : Heap) (locs : List Loc) (ls : Array Slot), Rel (Nx u) t → Lw G cx a b u t H → va_S (fun q => s.heap.size ≤ q) s.heap H locs → lv_has ls 8 [(0, .ref bs), (1, .ref (a 0)), (2, .ref (b 0)), (3, .int (iI i))] → W p l e room_1 s m #[Value.ref bs] below meth c H locs cells slots Q (F0 m 746 ls [])) : W p l e room_1 s m #[Value.ref bs] below meth c H locs cells slots Q (F0 m 144 ls []) := by
  obtain ⟨hex, hbc, hml, hown, hts, hX, hbl, hL8, hK, hA, h4⟩ := C
  obtain ⟨hI, hIM, hHs, hN, hFl, hFk⟩ := Rel_use hR
  obtain ⟨h64, h1m, h16⟩ := Inv_b hI
  refine lv_aload_n hex hbc dL_law_144 rfl (lv_at hl 1 rfl) ?_
  refine lv_aload_n hex hbc dL_law_145 rfl (lv_at hl 0 rfl) ?_
  refine lv_iload_n hex hbc dL_law_146 rfl (lv_at hl 3 rfl) ?_
  refine lv_iconst (v := iI 1) hex hbc dL_law_147 rfl ?_
  refine zt_iadd hex hbc dL_law_148 ?_
  refine l_sld (z := (i + 1)) hex hbc hX hbl hS (by omega) hL8 dL_law_149 ?_
  refine l_callX [.int (iI (scv xs (i + 1)))] ⟨hex, hbc, hml, hown, hts⟩ (mX4_begin l G cx a σ (scv xs (i + 1)) (scv_in xs _) hHs hI) (cwV 1 hts gL_law_X4_begin rfl rfl rfl (by decide +kernel) ⟨Nat.le_of_ble_eq_true rfl, Nat.le_of_ble_eq_true rfl⟩) hK hL hA hS rfl rfl hl.1 (Nat.le_of_ble_eq_true rfl) dL_law_150 hcs (fun r u H locs hx hL hS => ?_)
  refine lv_aload_n hex hbc dL_law_153 rfl (lv_at hl 2 rfl) ?_
  refine lv_aload_n hex hbc dL_law_154 rfl (lv_at hl 0 rfl) ?_
  refine lv_iload_n hex hbc dL_law_155 rfl (lv_at hl 3 rfl) ?_
  refine lv_iconst (v := iI 1) hex hbc dL_law_156 rfl ?_
  refine zt_iadd hex hbc dL_law_157 ?_
  refine l_sld (z := (i + 1)) hex hbc hX hbl hS (by omega) hL8 dL_law_158 ?_
  refine l_callM [.int (iI (scv xs (i + 1)))] ⟨hex, hbc, hml, hown, hts⟩ (mX5_begin l G cx b τ (scv xs (i + 1)) (scv_in xs _) hN hIM) (cwV 1 hts gL_law_X5_begin rfl rfl rfl (by decide +kernel) ⟨Nat.le_of_ble_eq_true rfl, Nat.le_of_ble_eq_true rfl⟩) hK hL hA hS rfl rfl hl.1 (Nat.le_of_ble_eq_true rfl) dL_law_159 hcs (fun q t H locs hm hL hS => ?_)
  have hst := st_begin (scv xs (i + 1)) hR (nx_begin (scv xs (i + 1)) hI h64 h1m h16 hx) hm
  refine lv_icmp_eq (tgt := 746) hex hbc dL_law_162 (by decide) (fun c => ?_) (fun c => ?_)
  · exact kk _ _ _ _ _ hst.2 hL hS (lv_sub hl [0, 1, 2, 3] rfl)
  · exact absurd hst.1 c
set_option maxHeartbeats 2000000 in
set_option maxRecDepth 20000 in
theorem law_sound {p : Program} {l : Launch} {e : Env} {s : State} {m : MethodId} {below : List Frame} {meth : Method} {c : Code} {H : Heap} {locs : List Loc} {ls : Array Slot} {cells slots : Nat} {Q : State → Prop} {bs L tl th : Nat} {xs : Nat → Int32} {G : va_G} {cx a b : Nat → Nat} {σ τ : Nat → Int → Int} {i : Int} (C : LC p s m c bs L xs G cx a b tl th) (hcs : cells ≤ room_1.cells ∧ slots ≤ room_1.slots) (hi : 0 ≤ i ∧ i + 4 ≤ (L : Int)) (hR : Rel (Nx σ) τ) (hL : Lw G cx a b σ τ H) (hS : va_S (fun q => s.heap.size ≤ q) s.heap H locs) (hl : lv_has ls 8 [(0, .ref bs), (1, .ref (a 0)), (2, .ref (b 0)), (3, .int (iI i))]) (kk : ∀ (u t : Nat → Int → Int) (H : Heap) (locs : List Loc) (ls : Array Slot), Rel (Nx u) t → Lw G cx a b u t H → va_S (fun q => s.heap.size ≤ q) s.heap H locs → lv_has ls 8 [(0, .ref bs), (1, .ref (a 0)), (2, .ref (b 0)), (3, .int (iI i))] → W p l e room_1 s m #[Value.ref bs] below meth c H locs cells slots Q (F0 m 746 ls [])) : W p l e room_1 s m #[Value.ref bs] below meth c H locs cells slots Q (F0 m 167 ls []) := by
  obtain ⟨hex, hbc, hml, hown, hts, hX, hbl, hL8, hK, hA, h4⟩ := C
  obtain ⟨hI, hIM, hHs, hN, hFl, hFk⟩ := Rel_use hR
  obtain ⟨h64, h1m, h16⟩ := Inv_b hI
  refine lv_aload_n hex hbc dL_law_167 rfl (lv_at hl 1 rfl) ?_
  refine lv_aload_n hex hbc dL_law_168 rfl (lv_at hl 0 rfl) ?_
  refine lv_iload_n hex hbc dL_law_169 rfl (lv_at hl 3 rfl) ?_
  refine lv_iconst (v := iI 1) hex hbc dL_law_170 rfl ?_
  refine zt_iadd hex hbc dL_law_171 ?_
  refine l_sld (z := (i + 1)) hex hbc hX hbl hS (by omega) hL8 dL_law_172 ?_
  refine lv_aload_n hex hbc dL_law_173 rfl (lv_at hl 0 rfl) ?_
  refine lv_iload_n hex hbc dL_law_174 rfl (lv_at hl 3 rfl) ?_
  refine lv_iconst (v := iI 2) hex hbc dL_law_175 rfl ?_
  refine zt_iadd hex hbc dL_law_176 ?_
  refine l_sld (z := (i + 2)) hex hbc hX hbl hS (by omega) hL8 dL_law_177 ?_
  refine lv_aload_n hex hbc dL_law_178 rfl (lv_at hl 0 rfl) ?_
  refine lv_iload_n hex hbc dL_law_179 rfl (lv_at hl 3 rfl) ?_
  refine lv_iconst (v := iI 3) hex hbc dL_law_180 rfl ?_
  refine zt_iadd hex hbc dL_law_181 ?_
  refine l_sld (z := (i + 3)) hex hbc hX hbl hS (by omega) hL8 dL_law_182 ?_
  refine l_callX [.int (iI (scv xs (i + 1))), .int (iI (scv xs (i + 2))), .int (iI (scv xs (i + 3)))] ⟨hex, hbc, hml, hown, hts⟩ (mX4_sound l G cx a σ (scv xs (i + 1)) (scv xs (i + 2)) (scv xs (i + 3)) (scv_in xs _) (scv_in xs _) (scv_in xs _) hHs hI) (cwV 3 hts gL_law_X4_sound rfl rfl rfl (by decide +kernel) ⟨Nat.le_of_ble_eq_true rfl, Nat.le_of_ble_eq_true rfl⟩) hK hL hA hS rfl rfl hl.1 (Nat.le_of_ble_eq_true rfl) dL_law_183 hcs (fun r u H locs hx hL hS => ?_)
  refine lv_aload_n hex hbc dL_law_186 rfl (lv_at hl 2 rfl) ?_
  refine lv_aload_n hex hbc dL_law_187 rfl (lv_at hl 0 rfl) ?_
  refine lv_iload_n hex hbc dL_law_188 rfl (lv_at hl 3 rfl) ?_
  refine lv_iconst (v := iI 1) hex hbc dL_law_189 rfl ?_
  refine zt_iadd hex hbc dL_law_190 ?_
  refine l_sld (z := (i + 1)) hex hbc hX hbl hS (by omega) hL8 dL_law_191 ?_
  refine lv_aload_n hex hbc dL_law_192 rfl (lv_at hl 0 rfl) ?_
  refine lv_iload_n hex hbc dL_law_193 rfl (lv_at hl 3 rfl) ?_
  refine lv_iconst (v := iI 2) hex hbc dL_law_194 rfl ?_
  refine zt_iadd hex hbc dL_law_195 ?_
  refine l_sld (z := (i + 2)) hex hbc hX hbl hS (by omega) hL8 dL_law_196 ?_
  refine lv_aload_n hex hbc dL_law_197 rfl (lv_at hl 0 rfl) ?_
  refine lv_iload_n hex hbc dL_law_198 rfl (lv_at hl 3 rfl) ?_
  refine lv_iconst (v := iI 3) hex hbc dL_law_199 rfl ?_
  refine zt_iadd hex hbc dL_law_200 ?_
  refine l_sld (z := (i + 3)) hex hbc hX hbl hS (by omega) hL8 dL_law_201 ?_
  refine l_callM [.int (iI (scv xs (i + 1))), .int (iI (scv xs (i + 2))), .int (iI (scv xs (i + 3)))] ⟨hex, hbc, hml, hown, hts⟩ (mX5_sound l G cx b τ (scv xs (i + 1)) (scv xs (i + 2)) (scv xs (i + 3)) (scv_in xs _) (scv_in xs _) (scv_in xs _) hN hIM) (cwV 3 hts gL_law_X5_sound rfl rfl rfl (by decide +kernel) ⟨Nat.le_of_ble_eq_true rfl, Nat.le_of_ble_eq_true rfl⟩) hK hL hA hS rfl rfl hl.1 (Nat.le_of_ble_eq_true rfl) dL_law_202 hcs (fun q t H locs hm hL hS => ?_)
  have hst := st_sound (scv xs (i + 1)) (scv xs (i + 2)) (scv xs (i + 3)) hR (nx_sound (scv xs (i + 1)) (scv xs (i + 2)) (scv xs (i + 3)) hI h64 h1m h16 hx) hm
  refine lv_icmp_eq (tgt := 746) hex hbc dL_law_205 (by decide) (fun c => ?_) (fun c => ?_)
  · exact kk _ _ _ _ _ hst.2 hL hS (lv_sub hl [0, 1, 2, 3] rfl)
  · exact absurd hst.1 c
set_option maxHeartbeats 2000000 in
set_option maxRecDepth 20000 in
theorem law_set {p : Program} {l : Launch} {e : Env} {s : State} {m : MethodId} {below : List Frame} {meth : Method} {c : Code} {H : Heap} {locs : List Loc} {ls : Array Slot} {cells slots : Nat} {Q : State → Prop} {bs L tl th : Nat} {xs : Nat → Int32} {G : va_G} {cx a b : Nat → Nat} {σ τ : Nat → Int → Int} {i : Int} (C : LC p s m c bs L xs G cx a b tl th) (hcs : cells ≤ room_1.cells ∧ slots ≤ room_1.slots) (hi : 0 ≤ i ∧ i + 4 ≤ (L : Int)) (hR : Rel (Nx σ) τ) (hL : Lw G cx a b σ τ H) (hS : va_S (fun q => s.heap.size ≤ q) s.heap H locs) (hl : lv_has ls 8 [(0, .ref bs), (1, .ref (a 0)), (2, .ref (b 0)), (3, .int (iI i))]) (kk : ∀ (u t : Nat → Int → Int) (H : Heap) (locs : List Loc) (ls : Array Slot), Rel (Nx u) t → Lw G cx a b u t H → va_S (fun q => s.heap.size ≤ q) s.heap H locs → lv_has ls 8 [(0, .ref bs), (1, .ref (a 0)), (2, .ref (b 0)), (3, .int (iI i))] → W p l e room_1 s m #[Value.ref bs] below meth c H locs cells slots Q (F0 m 746 ls [])) : W p l e room_1 s m #[Value.ref bs] below meth c H locs cells slots Q (F0 m 210 ls []) := by
  obtain ⟨hex, hbc, hml, hown, hts, hX, hbl, hL8, hK, hA, h4⟩ := C
  obtain ⟨hI, hIM, hHs, hN, hFl, hFk⟩ := Rel_use hR
  obtain ⟨h64, h1m, h16⟩ := Inv_b hI
  refine lv_aload_n hex hbc dL_law_210 rfl (lv_at hl 1 rfl) ?_
  refine lv_aload_n hex hbc dL_law_211 rfl (lv_at hl 0 rfl) ?_
  refine lv_iload_n hex hbc dL_law_212 rfl (lv_at hl 3 rfl) ?_
  refine lv_iconst (v := iI 1) hex hbc dL_law_213 rfl ?_
  refine zt_iadd hex hbc dL_law_214 ?_
  refine l_sld (z := (i + 1)) hex hbc hX hbl hS (by omega) hL8 dL_law_215 ?_
  refine lv_aload_n hex hbc dL_law_216 rfl (lv_at hl 0 rfl) ?_
  refine lv_iload_n hex hbc dL_law_217 rfl (lv_at hl 3 rfl) ?_
  refine lv_iconst (v := iI 2) hex hbc dL_law_218 rfl ?_
  refine zt_iadd hex hbc dL_law_219 ?_
  refine l_sld (z := (i + 2)) hex hbc hX hbl hS (by omega) hL8 dL_law_220 ?_
  refine l_callXs [.int (iI (scv xs (i + 1))), .int (iI (scv xs (i + 2)))] ⟨hex, hbc, hml, hown, hts⟩ (mX4_set l G cx a σ tl th (scv xs (i + 1)) (scv xs (i + 2)) (scv_in xs _) (scv_in xs _) hHs hI) (cwV 2 hts gL_law_X4_set rfl rfl rfl (by decide +kernel) ⟨Nat.le_of_ble_eq_true rfl, Nat.le_of_ble_eq_true rfl⟩) hK hL hA hS h4 rfl rfl hl.1 (Nat.le_of_ble_eq_true rfl) dL_law_221 hcs (fun r u H locs hx hL hS => ?_)
  refine lv_aload_n hex hbc dL_law_224 rfl (lv_at hl 2 rfl) ?_
  refine lv_aload_n hex hbc dL_law_225 rfl (lv_at hl 0 rfl) ?_
  refine lv_iload_n hex hbc dL_law_226 rfl (lv_at hl 3 rfl) ?_
  refine lv_iconst (v := iI 1) hex hbc dL_law_227 rfl ?_
  refine zt_iadd hex hbc dL_law_228 ?_
  refine l_sld (z := (i + 1)) hex hbc hX hbl hS (by omega) hL8 dL_law_229 ?_
  refine lv_aload_n hex hbc dL_law_230 rfl (lv_at hl 0 rfl) ?_
  refine lv_iload_n hex hbc dL_law_231 rfl (lv_at hl 3 rfl) ?_
  refine lv_iconst (v := iI 2) hex hbc dL_law_232 rfl ?_
  refine zt_iadd hex hbc dL_law_233 ?_
  refine l_sld (z := (i + 2)) hex hbc hX hbl hS (by omega) hL8 dL_law_234 ?_
  refine l_callM [.int (iI (scv xs (i + 1))), .int (iI (scv xs (i + 2)))] ⟨hex, hbc, hml, hown, hts⟩ (mX5_set l G cx b τ (scv xs (i + 1)) (scv xs (i + 2)) (scv_in xs _) (scv_in xs _) hN hIM) (cwV 2 hts gL_law_X5_set rfl rfl rfl (by decide +kernel) ⟨Nat.le_of_ble_eq_true rfl, Nat.le_of_ble_eq_true rfl⟩) hK hL hA hS rfl rfl hl.1 (Nat.le_of_ble_eq_true rfl) dL_law_235 hcs (fun q t H locs hm hL hS => ?_)
  have hst := st_set (scv xs (i + 1)) (scv xs (i + 2)) hR (nx_set (scv xs (i + 1)) (scv xs (i + 2)) hI h64 h1m h16 hx) hm
  refine lv_icmp_eq (tgt := 746) hex hbc dL_law_238 (by decide) (fun c => ?_) (fun c => ?_)
  · exact kk _ _ _ _ _ hst.2 hL hS (lv_sub hl [0, 1, 2, 3] rfl)
  · exact absurd hst.1 c
set_option maxHeartbeats 2000000 in
set_option maxRecDepth 20000 in
theorem law_find {p : Program} {l : Launch} {e : Env} {s : State} {m : MethodId} {below : List Frame} {meth : Method} {c : Code} {H : Heap} {locs : List Loc} {ls : Array Slot} {cells slots : Nat} {Q : State → Prop} {bs L tl th : Nat} {xs : Nat → Int32} {G : va_G} {cx a b : Nat → Nat} {σ τ : Nat → Int → Int} {i : Int} (C : LC p s m c bs L xs G cx a b tl th) (hcs : cells ≤ room_1.cells ∧ slots ≤ room_1.slots) (hi : 0 ≤ i ∧ i + 4 ≤ (L : Int)) (hR : Rel (Nx σ) τ) (hL : Lw G cx a b σ τ H) (hS : va_S (fun q => s.heap.size ≤ q) s.heap H locs) (hl : lv_has ls 8 [(0, .ref bs), (1, .ref (a 0)), (2, .ref (b 0)), (3, .int (iI i))]) (kk : ∀ (u t : Nat → Int → Int) (H : Heap) (locs : List Loc) (ls : Array Slot), Rel (Nx u) t → Lw G cx a b u t H → va_S (fun q => s.heap.size ≤ q) s.heap H locs → lv_has ls 8 [(0, .ref bs), (1, .ref (a 0)), (2, .ref (b 0)), (3, .int (iI i))] → W p l e room_1 s m #[Value.ref bs] below meth c H locs cells slots Q (F0 m 746 ls [])) : W p l e room_1 s m #[Value.ref bs] below meth c H locs cells slots Q (F0 m 243 ls []) := by
  obtain ⟨hex, hbc, hml, hown, hts, hX, hbl, hL8, hK, hA, h4⟩ := C
  obtain ⟨hI, hIM, hHs, hN, hFl, hFk⟩ := Rel_use hR
  obtain ⟨h64, h1m, h16⟩ := Inv_b hI
  refine lv_aload_n hex hbc dL_law_243 rfl (lv_at hl 1 rfl) ?_
  refine l_callX [] ⟨hex, hbc, hml, hown, hts⟩ (mX4_find l G cx a σ  hHs hI) (cwV 0 hts gL_law_X4_find rfl rfl rfl (by decide +kernel) ⟨Nat.le_of_ble_eq_true rfl, Nat.le_of_ble_eq_true rfl⟩) hK hL hA hS rfl rfl hl.1 (Nat.le_of_ble_eq_true rfl) dL_law_244 hcs (fun r u H locs hx hL hS => ?_)
  refine lv_aload_n hex hbc dL_law_247 rfl (lv_at hl 2 rfl) ?_
  refine l_callM [] ⟨hex, hbc, hml, hown, hts⟩ (mX5_find l G cx b τ  hN hIM) (cwV 0 hts gL_law_X5_find rfl rfl rfl (by decide +kernel) ⟨Nat.le_of_ble_eq_true rfl, Nat.le_of_ble_eq_true rfl⟩) hK hL hA hS rfl rfl hl.1 (Nat.le_of_ble_eq_true rfl) dL_law_248 hcs (fun q t H locs hm hL hS => ?_)
  have hst := st_find  hR (nx_find  hI h64 h1m h16 hx) hm
  refine lv_icmp_eq (tgt := 746) hex hbc dL_law_251 (by decide) (fun c => ?_) (fun c => ?_)
  · exact kk _ _ _ _ _ hst.2 hL hS (lv_sub hl [0, 1, 2, 3] rfl)
  · exact absurd hst.1 c
set_option maxHeartbeats 2000000 in
set_option maxRecDepth 20000 in
theorem law_mark {p : Program} {l : Launch} {e : Env} {s : State} {m : MethodId} {below : List Frame} {meth : Method} {c : Code} {H : Heap} {locs : List Loc} {ls : Array Slot} {cells slots : Nat} {Q : State → Prop} {bs L tl th : Nat} {xs : Nat → Int32} {G : va_G} {cx a b : Nat → Nat} {σ τ : Nat → Int → Int} {i : Int} (C : LC p s m c bs L xs G cx a b tl th) (hcs : cells ≤ room_1.cells ∧ slots ≤ room_1.slots) (hi : 0 ≤ i ∧ i + 4 ≤ (L : Int)) (hR : Rel (Nx σ) τ) (hL : Lw G cx a b σ τ H) (hS : va_S (fun q => s.heap.size ≤ q) s.heap H locs) (hl : lv_has ls 8 [(0, .ref bs), (1, .ref (a 0)), (2, .ref (b 0)), (3, .int (iI i))]) (kk : ∀ (u t : Nat → Int → Int) (H : Heap) (locs : List Loc) (ls : Array Slot), Rel (Nx u) t → Lw G cx a b u t H → va_S (fun q => s.heap.size ≤ q) s.heap H locs → lv_has ls 8 [(0, .ref bs), (1, .ref (a 0)), (2, .ref (b 0)), (3, .int (iI i))] → W p l e room_1 s m #[Value.ref bs] below meth c H locs cells slots Q (F0 m 746 ls [])) : W p l e room_1 s m #[Value.ref bs] below meth c H locs cells slots Q (F0 m 256 ls []) := by
  obtain ⟨hex, hbc, hml, hown, hts, hX, hbl, hL8, hK, hA, h4⟩ := C
  obtain ⟨hI, hIM, hHs, hN, hFl, hFk⟩ := Rel_use hR
  obtain ⟨h64, h1m, h16⟩ := Inv_b hI
  refine lv_aload_n hex hbc dL_law_256 rfl (lv_at hl 1 rfl) ?_
  refine lv_aload_n hex hbc dL_law_257 rfl (lv_at hl 0 rfl) ?_
  refine lv_iload_n hex hbc dL_law_258 rfl (lv_at hl 3 rfl) ?_
  refine lv_iconst (v := iI 1) hex hbc dL_law_259 rfl ?_
  refine zt_iadd hex hbc dL_law_260 ?_
  refine l_sld (z := (i + 1)) hex hbc hX hbl hS (by omega) hL8 dL_law_261 ?_
  refine l_callX [.int (iI (scv xs (i + 1)))] ⟨hex, hbc, hml, hown, hts⟩ (mX4_mark l G cx a σ (scv xs (i + 1)) (scv_in xs _) hHs hI) (cwV 1 hts gL_law_X4_mark rfl rfl rfl (by decide +kernel) ⟨Nat.le_of_ble_eq_true rfl, Nat.le_of_ble_eq_true rfl⟩) hK hL hA hS rfl rfl hl.1 (Nat.le_of_ble_eq_true rfl) dL_law_262 hcs (fun r u H locs hx hL hS => ?_)
  refine lv_aload_n hex hbc dL_law_265 rfl (lv_at hl 2 rfl) ?_
  refine lv_aload_n hex hbc dL_law_266 rfl (lv_at hl 0 rfl) ?_
  refine lv_iload_n hex hbc dL_law_267 rfl (lv_at hl 3 rfl) ?_
  refine lv_iconst (v := iI 1) hex hbc dL_law_268 rfl ?_
  refine zt_iadd hex hbc dL_law_269 ?_
  refine l_sld (z := (i + 1)) hex hbc hX hbl hS (by omega) hL8 dL_law_270 ?_
  refine l_callM [.int (iI (scv xs (i + 1)))] ⟨hex, hbc, hml, hown, hts⟩ (mX5_mark l G cx b τ (scv xs (i + 1)) (scv_in xs _) hN hIM) (cwV 1 hts gL_law_X5_mark rfl rfl rfl (by decide +kernel) ⟨Nat.le_of_ble_eq_true rfl, Nat.le_of_ble_eq_true rfl⟩) hK hL hA hS rfl rfl hl.1 (Nat.le_of_ble_eq_true rfl) dL_law_271 hcs (fun q t H locs hm hL hS => ?_)
  have hst := st_mark (scv xs (i + 1)) hR (nx_mark (scv xs (i + 1)) hI h64 h1m h16 hx) hm
  refine lv_icmp_eq (tgt := 746) hex hbc dL_law_274 (by decide) (fun c => ?_) (fun c => ?_)
  · exact kk _ _ _ _ _ hst.2 hL hS (lv_sub hl [0, 1, 2, 3] rfl)
  · exact absurd hst.1 c
set_option maxHeartbeats 2000000 in
set_option maxRecDepth 20000 in
theorem law_unmark {p : Program} {l : Launch} {e : Env} {s : State} {m : MethodId} {below : List Frame} {meth : Method} {c : Code} {H : Heap} {locs : List Loc} {ls : Array Slot} {cells slots : Nat} {Q : State → Prop} {bs L tl th : Nat} {xs : Nat → Int32} {G : va_G} {cx a b : Nat → Nat} {σ τ : Nat → Int → Int} {i : Int} (C : LC p s m c bs L xs G cx a b tl th) (hcs : cells ≤ room_1.cells ∧ slots ≤ room_1.slots) (hi : 0 ≤ i ∧ i + 4 ≤ (L : Int)) (hR : Rel (Nx σ) τ) (hL : Lw G cx a b σ τ H) (hS : va_S (fun q => s.heap.size ≤ q) s.heap H locs) (hl : lv_has ls 8 [(0, .ref bs), (1, .ref (a 0)), (2, .ref (b 0)), (3, .int (iI i))]) (kk : ∀ (u t : Nat → Int → Int) (H : Heap) (locs : List Loc) (ls : Array Slot), Rel (Nx u) t → Lw G cx a b u t H → va_S (fun q => s.heap.size ≤ q) s.heap H locs → lv_has ls 8 [(0, .ref bs), (1, .ref (a 0)), (2, .ref (b 0)), (3, .int (iI i))] → W p l e room_1 s m #[Value.ref bs] below meth c H locs cells slots Q (F0 m 746 ls [])) : W p l e room_1 s m #[Value.ref bs] below meth c H locs cells slots Q (F0 m 279 ls []) := by
  obtain ⟨hex, hbc, hml, hown, hts, hX, hbl, hL8, hK, hA, h4⟩ := C
  obtain ⟨hI, hIM, hHs, hN, hFl, hFk⟩ := Rel_use hR
  obtain ⟨h64, h1m, h16⟩ := Inv_b hI
  refine lv_aload_n hex hbc dL_law_279 rfl (lv_at hl 1 rfl) ?_
  refine lv_aload_n hex hbc dL_law_280 rfl (lv_at hl 0 rfl) ?_
  refine lv_iload_n hex hbc dL_law_281 rfl (lv_at hl 3 rfl) ?_
  refine lv_iconst (v := iI 1) hex hbc dL_law_282 rfl ?_
  refine zt_iadd hex hbc dL_law_283 ?_
  refine l_sld (z := (i + 1)) hex hbc hX hbl hS (by omega) hL8 dL_law_284 ?_
  refine l_callX [.int (iI (scv xs (i + 1)))] ⟨hex, hbc, hml, hown, hts⟩ (mX4_unmark l G cx a σ (scv xs (i + 1)) (scv_in xs _) hHs hI) (cwV 1 hts gL_law_X4_unmark rfl rfl rfl (by decide +kernel) ⟨Nat.le_of_ble_eq_true rfl, Nat.le_of_ble_eq_true rfl⟩) hK hL hA hS rfl rfl hl.1 (Nat.le_of_ble_eq_true rfl) dL_law_285 hcs (fun r u H locs hx hL hS => ?_)
  refine lv_aload_n hex hbc dL_law_288 rfl (lv_at hl 2 rfl) ?_
  refine lv_aload_n hex hbc dL_law_289 rfl (lv_at hl 0 rfl) ?_
  refine lv_iload_n hex hbc dL_law_290 rfl (lv_at hl 3 rfl) ?_
  refine lv_iconst (v := iI 1) hex hbc dL_law_291 rfl ?_
  refine zt_iadd hex hbc dL_law_292 ?_
  refine l_sld (z := (i + 1)) hex hbc hX hbl hS (by omega) hL8 dL_law_293 ?_
  refine l_callM [.int (iI (scv xs (i + 1)))] ⟨hex, hbc, hml, hown, hts⟩ (mX5_unmark l G cx b τ (scv xs (i + 1)) (scv_in xs _) hN hIM) (cwV 1 hts gL_law_X5_unmark rfl rfl rfl (by decide +kernel) ⟨Nat.le_of_ble_eq_true rfl, Nat.le_of_ble_eq_true rfl⟩) hK hL hA hS rfl rfl hl.1 (Nat.le_of_ble_eq_true rfl) dL_law_294 hcs (fun q t H locs hm hL hS => ?_)
  have hst := st_unmark (scv xs (i + 1)) hR (nx_unmark (scv xs (i + 1)) hI h64 h1m h16 hx) hm
  refine lv_icmp_eq (tgt := 746) hex hbc dL_law_297 (by decide) (fun c => ?_) (fun c => ?_)
  · exact kk _ _ _ _ _ hst.2 hL hS (lv_sub hl [0, 1, 2, 3] rfl)
  · exact absurd hst.1 c
set_option maxHeartbeats 2000000 in
set_option maxRecDepth 20000 in
theorem law_moveMark {p : Program} {l : Launch} {e : Env} {s : State} {m : MethodId} {below : List Frame} {meth : Method} {c : Code} {H : Heap} {locs : List Loc} {ls : Array Slot} {cells slots : Nat} {Q : State → Prop} {bs L tl th : Nat} {xs : Nat → Int32} {G : va_G} {cx a b : Nat → Nat} {σ τ : Nat → Int → Int} {i : Int} (C : LC p s m c bs L xs G cx a b tl th) (hcs : cells ≤ room_1.cells ∧ slots ≤ room_1.slots) (hi : 0 ≤ i ∧ i + 4 ≤ (L : Int)) (hR : Rel (Nx σ) τ) (hL : Lw G cx a b σ τ H) (hS : va_S (fun q => s.heap.size ≤ q) s.heap H locs) (hl : lv_has ls 8 [(0, .ref bs), (1, .ref (a 0)), (2, .ref (b 0)), (3, .int (iI i))]) (kk : ∀ (u t : Nat → Int → Int) (H : Heap) (locs : List Loc) (ls : Array Slot), Rel (Nx u) t → Lw G cx a b u t H → va_S (fun q => s.heap.size ≤ q) s.heap H locs → lv_has ls 8 [(0, .ref bs), (1, .ref (a 0)), (2, .ref (b 0)), (3, .int (iI i))] → W p l e room_1 s m #[Value.ref bs] below meth c H locs cells slots Q (F0 m 746 ls [])) : W p l e room_1 s m #[Value.ref bs] below meth c H locs cells slots Q (F0 m 302 ls []) := by
  obtain ⟨hex, hbc, hml, hown, hts, hX, hbl, hL8, hK, hA, h4⟩ := C
  obtain ⟨hI, hIM, hHs, hN, hFl, hFk⟩ := Rel_use hR
  obtain ⟨h64, h1m, h16⟩ := Inv_b hI
  refine lv_aload_n hex hbc dL_law_302 rfl (lv_at hl 1 rfl) ?_
  refine lv_aload_n hex hbc dL_law_303 rfl (lv_at hl 0 rfl) ?_
  refine lv_iload_n hex hbc dL_law_304 rfl (lv_at hl 3 rfl) ?_
  refine lv_iconst (v := iI 1) hex hbc dL_law_305 rfl ?_
  refine zt_iadd hex hbc dL_law_306 ?_
  refine l_sld (z := (i + 1)) hex hbc hX hbl hS (by omega) hL8 dL_law_307 ?_
  refine lv_aload_n hex hbc dL_law_308 rfl (lv_at hl 0 rfl) ?_
  refine lv_iload_n hex hbc dL_law_309 rfl (lv_at hl 3 rfl) ?_
  refine lv_iconst (v := iI 2) hex hbc dL_law_310 rfl ?_
  refine zt_iadd hex hbc dL_law_311 ?_
  refine l_sld (z := (i + 2)) hex hbc hX hbl hS (by omega) hL8 dL_law_312 ?_
  refine l_callX [.int (iI (scv xs (i + 1))), .int (iI (scv xs (i + 2)))] ⟨hex, hbc, hml, hown, hts⟩ (mX4_moveMark l G cx a σ (scv xs (i + 1)) (scv xs (i + 2)) (scv_in xs _) (scv_in xs _) hHs hI) (cwV 2 hts gL_law_X4_moveMark rfl rfl rfl (by decide +kernel) ⟨Nat.le_of_ble_eq_true rfl, Nat.le_of_ble_eq_true rfl⟩) hK hL hA hS rfl rfl hl.1 (Nat.le_of_ble_eq_true rfl) dL_law_313 hcs (fun r u H locs hx hL hS => ?_)
  refine lv_aload_n hex hbc dL_law_316 rfl (lv_at hl 2 rfl) ?_
  refine lv_aload_n hex hbc dL_law_317 rfl (lv_at hl 0 rfl) ?_
  refine lv_iload_n hex hbc dL_law_318 rfl (lv_at hl 3 rfl) ?_
  refine lv_iconst (v := iI 1) hex hbc dL_law_319 rfl ?_
  refine zt_iadd hex hbc dL_law_320 ?_
  refine l_sld (z := (i + 1)) hex hbc hX hbl hS (by omega) hL8 dL_law_321 ?_
  refine lv_aload_n hex hbc dL_law_322 rfl (lv_at hl 0 rfl) ?_
  refine lv_iload_n hex hbc dL_law_323 rfl (lv_at hl 3 rfl) ?_
  refine lv_iconst (v := iI 2) hex hbc dL_law_324 rfl ?_
  refine zt_iadd hex hbc dL_law_325 ?_
  refine l_sld (z := (i + 2)) hex hbc hX hbl hS (by omega) hL8 dL_law_326 ?_
  refine l_callM [.int (iI (scv xs (i + 1))), .int (iI (scv xs (i + 2)))] ⟨hex, hbc, hml, hown, hts⟩ (mX5_moveMark l G cx b τ (scv xs (i + 1)) (scv xs (i + 2)) (scv_in xs _) (scv_in xs _) hN hIM) (cwV 2 hts gL_law_X5_moveMark rfl rfl rfl (by decide +kernel) ⟨Nat.le_of_ble_eq_true rfl, Nat.le_of_ble_eq_true rfl⟩) hK hL hA hS rfl rfl hl.1 (Nat.le_of_ble_eq_true rfl) dL_law_327 hcs (fun q t H locs hm hL hS => ?_)
  have hst := st_moveMark (scv xs (i + 1)) (scv xs (i + 2)) hR (nx_moveMark (scv xs (i + 1)) (scv xs (i + 2)) hI h64 h1m h16 hx) hm
  refine lv_icmp_eq (tgt := 746) hex hbc dL_law_330 (by decide) (fun c => ?_) (fun c => ?_)
  · exact kk _ _ _ _ _ hst.2 hL hS (lv_sub hl [0, 1, 2, 3] rfl)
  · exact absurd hst.1 c
set_option maxHeartbeats 2000000 in
set_option maxRecDepth 20000 in
theorem law_swap {p : Program} {l : Launch} {e : Env} {s : State} {m : MethodId} {below : List Frame} {meth : Method} {c : Code} {H : Heap} {locs : List Loc} {ls : Array Slot} {cells slots : Nat} {Q : State → Prop} {bs L tl th : Nat} {xs : Nat → Int32} {G : va_G} {cx a b : Nat → Nat} {σ τ : Nat → Int → Int} {i : Int} (C : LC p s m c bs L xs G cx a b tl th) (hcs : cells ≤ room_1.cells ∧ slots ≤ room_1.slots) (hi : 0 ≤ i ∧ i + 4 ≤ (L : Int)) (hR : Rel (Nx σ) τ) (hL : Lw G cx a b σ τ H) (hS : va_S (fun q => s.heap.size ≤ q) s.heap H locs) (hl : lv_has ls 8 [(0, .ref bs), (1, .ref (a 0)), (2, .ref (b 0)), (3, .int (iI i))]) (kk : ∀ (u t : Nat → Int → Int) (H : Heap) (locs : List Loc) (ls : Array Slot), Rel (Nx u) t → Lw G cx a b u t H → va_S (fun q => s.heap.size ≤ q) s.heap H locs → lv_has ls 8 [(0, .ref bs), (1, .ref (a 0)), (2, .ref (b 0)), (3, .int (iI i))] → W p l e room_1 s m #[Value.ref bs] below meth c H locs cells slots Q (F0 m 746 ls [])) : W p l e room_1 s m #[Value.ref bs] below meth c H locs cells slots Q (F0 m 335 ls []) := by
  obtain ⟨hex, hbc, hml, hown, hts, hX, hbl, hL8, hK, hA, h4⟩ := C
  obtain ⟨hI, hIM, hHs, hN, hFl, hFk⟩ := Rel_use hR
  obtain ⟨h64, h1m, h16⟩ := Inv_b hI
  refine lv_aload_n hex hbc dL_law_335 rfl (lv_at hl 1 rfl) ?_
  refine lv_aload_n hex hbc dL_law_336 rfl (lv_at hl 0 rfl) ?_
  refine lv_iload_n hex hbc dL_law_337 rfl (lv_at hl 3 rfl) ?_
  refine lv_iconst (v := iI 1) hex hbc dL_law_338 rfl ?_
  refine zt_iadd hex hbc dL_law_339 ?_
  refine l_sld (z := (i + 1)) hex hbc hX hbl hS (by omega) hL8 dL_law_340 ?_
  refine lv_aload_n hex hbc dL_law_341 rfl (lv_at hl 0 rfl) ?_
  refine lv_iload_n hex hbc dL_law_342 rfl (lv_at hl 3 rfl) ?_
  refine lv_iconst (v := iI 2) hex hbc dL_law_343 rfl ?_
  refine zt_iadd hex hbc dL_law_344 ?_
  refine l_sld (z := (i + 2)) hex hbc hX hbl hS (by omega) hL8 dL_law_345 ?_
  refine l_callX [.int (iI (scv xs (i + 1))), .int (iI (scv xs (i + 2)))] ⟨hex, hbc, hml, hown, hts⟩ (mX4_swap l G cx a σ (scv xs (i + 1)) (scv xs (i + 2)) (scv_in xs _) (scv_in xs _) hHs hI) (cwV 2 hts gL_law_X4_swap rfl rfl rfl (by decide +kernel) ⟨Nat.le_of_ble_eq_true rfl, Nat.le_of_ble_eq_true rfl⟩) hK hL hA hS rfl rfl hl.1 (Nat.le_of_ble_eq_true rfl) dL_law_346 hcs (fun r u H locs hx hL hS => ?_)
  refine lv_aload_n hex hbc dL_law_349 rfl (lv_at hl 2 rfl) ?_
  refine lv_aload_n hex hbc dL_law_350 rfl (lv_at hl 0 rfl) ?_
  refine lv_iload_n hex hbc dL_law_351 rfl (lv_at hl 3 rfl) ?_
  refine lv_iconst (v := iI 1) hex hbc dL_law_352 rfl ?_
  refine zt_iadd hex hbc dL_law_353 ?_
  refine l_sld (z := (i + 1)) hex hbc hX hbl hS (by omega) hL8 dL_law_354 ?_
  refine lv_aload_n hex hbc dL_law_355 rfl (lv_at hl 0 rfl) ?_
  refine lv_iload_n hex hbc dL_law_356 rfl (lv_at hl 3 rfl) ?_
  refine lv_iconst (v := iI 2) hex hbc dL_law_357 rfl ?_
  refine zt_iadd hex hbc dL_law_358 ?_
  refine l_sld (z := (i + 2)) hex hbc hX hbl hS (by omega) hL8 dL_law_359 ?_
  refine l_callM [.int (iI (scv xs (i + 1))), .int (iI (scv xs (i + 2)))] ⟨hex, hbc, hml, hown, hts⟩ (mX5_swap l G cx b τ (scv xs (i + 1)) (scv xs (i + 2)) (scv_in xs _) (scv_in xs _) hN hIM) (cwV 2 hts gL_law_X5_swap rfl rfl rfl (by decide +kernel) ⟨Nat.le_of_ble_eq_true rfl, Nat.le_of_ble_eq_true rfl⟩) hK hL hA hS rfl rfl hl.1 (Nat.le_of_ble_eq_true rfl) dL_law_360 hcs (fun q t H locs hm hL hS => ?_)
  have hst := st_swap (scv xs (i + 1)) (scv xs (i + 2)) hR (nx_swap (scv xs (i + 1)) (scv xs (i + 2)) hI h64 h1m h16 hx) hm
  refine lv_icmp_eq (tgt := 746) hex hbc dL_law_363 (by decide) (fun c => ?_) (fun c => ?_)
  · exact kk _ _ _ _ _ hst.2 hL hS (lv_sub hl [0, 1, 2, 3] rfl)
  · exact absurd hst.1 c
set_option maxHeartbeats 2000000 in
set_option maxRecDepth 20000 in
theorem law_reverse {p : Program} {l : Launch} {e : Env} {s : State} {m : MethodId} {below : List Frame} {meth : Method} {c : Code} {H : Heap} {locs : List Loc} {ls : Array Slot} {cells slots : Nat} {Q : State → Prop} {bs L tl th : Nat} {xs : Nat → Int32} {G : va_G} {cx a b : Nat → Nat} {σ τ : Nat → Int → Int} {i : Int} (C : LC p s m c bs L xs G cx a b tl th) (hcs : cells ≤ room_1.cells ∧ slots ≤ room_1.slots) (hi : 0 ≤ i ∧ i + 4 ≤ (L : Int)) (hR : Rel (Nx σ) τ) (hL : Lw G cx a b σ τ H) (hS : va_S (fun q => s.heap.size ≤ q) s.heap H locs) (hl : lv_has ls 8 [(0, .ref bs), (1, .ref (a 0)), (2, .ref (b 0)), (3, .int (iI i))]) (kk : ∀ (u t : Nat → Int → Int) (H : Heap) (locs : List Loc) (ls : Array Slot), Rel (Nx u) t → Lw G cx a b u t H → va_S (fun q => s.heap.size ≤ q) s.heap H locs → lv_has ls 8 [(0, .ref bs), (1, .ref (a 0)), (2, .ref (b 0)), (3, .int (iI i))] → W p l e room_1 s m #[Value.ref bs] below meth c H locs cells slots Q (F0 m 746 ls [])) : W p l e room_1 s m #[Value.ref bs] below meth c H locs cells slots Q (F0 m 368 ls []) := by
  obtain ⟨hex, hbc, hml, hown, hts, hX, hbl, hL8, hK, hA, h4⟩ := C
  obtain ⟨hI, hIM, hHs, hN, hFl, hFk⟩ := Rel_use hR
  obtain ⟨h64, h1m, h16⟩ := Inv_b hI
  refine lv_aload_n hex hbc dL_law_368 rfl (lv_at hl 1 rfl) ?_
  refine l_callX [] ⟨hex, hbc, hml, hown, hts⟩ (mX4_reverse l G cx a σ  hHs hI) (cwV 0 hts gL_law_X4_reverse rfl rfl rfl (by decide +kernel) ⟨Nat.le_of_ble_eq_true rfl, Nat.le_of_ble_eq_true rfl⟩) hK hL hA hS rfl rfl hl.1 (Nat.le_of_ble_eq_true rfl) dL_law_369 hcs (fun r u H locs hx hL hS => ?_)
  refine lv_aload_n hex hbc dL_law_372 rfl (lv_at hl 2 rfl) ?_
  refine l_callM [] ⟨hex, hbc, hml, hown, hts⟩ (mX5_reverse l G cx b τ  hN hIM) (cwV 0 hts gL_law_X5_reverse rfl rfl rfl (by decide +kernel) ⟨Nat.le_of_ble_eq_true rfl, Nat.le_of_ble_eq_true rfl⟩) hK hL hA hS rfl rfl hl.1 (Nat.le_of_ble_eq_true rfl) dL_law_373 hcs (fun q t H locs hm hL hS => ?_)
  have hst := st_reverse  hR (nx_reverse  hI h64 h1m h16 hx) hm
  refine lv_icmp_eq (tgt := 746) hex hbc dL_law_376 (by decide) (fun c => ?_) (fun c => ?_)
  · exact kk _ _ _ _ _ hst.2 hL hS (lv_sub hl [0, 1, 2, 3] rfl)
  · exact absurd hst.1 c
set_option maxHeartbeats 2000000 in
set_option maxRecDepth 20000 in
theorem law_undo {p : Program} {l : Launch} {e : Env} {s : State} {m : MethodId} {below : List Frame} {meth : Method} {c : Code} {H : Heap} {locs : List Loc} {ls : Array Slot} {cells slots : Nat} {Q : State → Prop} {bs L tl th : Nat} {xs : Nat → Int32} {G : va_G} {cx a b : Nat → Nat} {σ τ : Nat → Int → Int} {i : Int} (C : LC p s m c bs L xs G cx a b tl th) (hcs : cells ≤ room_1.cells ∧ slots ≤ room_1.slots) (hi : 0 ≤ i ∧ i + 4 ≤ (L : Int)) (hR : Rel (Nx σ) τ) (hL : Lw G cx a b σ τ H) (hS : va_S (fun q => s.heap.size ≤ q) s.heap H locs) (hl : lv_has ls 8 [(0, .ref bs), (1, .ref (a 0)), (2, .ref (b 0)), (3, .int (iI i))]) (kk : ∀ (u t : Nat → Int → Int) (H : Heap) (locs : List Loc) (ls : Array Slot), Rel (Nx u) t → Lw G cx a b u t H → va_S (fun q => s.heap.size ≤ q) s.heap H locs → lv_has ls 8 [(0, .ref bs), (1, .ref (a 0)), (2, .ref (b 0)), (3, .int (iI i))] → W p l e room_1 s m #[Value.ref bs] below meth c H locs cells slots Q (F0 m 746 ls [])) : W p l e room_1 s m #[Value.ref bs] below meth c H locs cells slots Q (F0 m 381 ls []) := by
  obtain ⟨hex, hbc, hml, hown, hts, hX, hbl, hL8, hK, hA, h4⟩ := C
  obtain ⟨hI, hIM, hHs, hN, hFl, hFk⟩ := Rel_use hR
  obtain ⟨h64, h1m, h16⟩ := Inv_b hI
  refine lv_aload_n hex hbc dL_law_381 rfl (lv_at hl 1 rfl) ?_
  refine l_callX [] ⟨hex, hbc, hml, hown, hts⟩ (mX4_undo l G cx a σ  hHs hI) (cwV 0 hts gL_law_X4_undo rfl rfl rfl (by decide +kernel) ⟨Nat.le_of_ble_eq_true rfl, Nat.le_of_ble_eq_true rfl⟩) hK hL hA hS rfl rfl hl.1 (Nat.le_of_ble_eq_true rfl) dL_law_382 hcs (fun r u H locs hx hL hS => ?_)
  refine lv_aload_n hex hbc dL_law_385 rfl (lv_at hl 2 rfl) ?_
  refine l_callM [] ⟨hex, hbc, hml, hown, hts⟩ (mX5_undo l G cx b τ  hN hIM) (cwV 0 hts gL_law_X5_undo rfl rfl rfl (by decide +kernel) ⟨Nat.le_of_ble_eq_true rfl, Nat.le_of_ble_eq_true rfl⟩) hK hL hA hS rfl rfl hl.1 (Nat.le_of_ble_eq_true rfl) dL_law_386 hcs (fun q t H locs hm hL hS => ?_)
  have hst := st_undo  hR (nx_undo  hI h64 h1m h16 hx) hm
  refine lv_icmp_eq (tgt := 746) hex hbc dL_law_389 (by decide) (fun c => ?_) (fun c => ?_)
  · exact kk _ _ _ _ _ hst.2 hL hS (lv_sub hl [0, 1, 2, 3] rfl)
  · exact absurd hst.1 c
set_option maxHeartbeats 2000000 in
set_option maxRecDepth 20000 in
theorem law_told {p : Program} {l : Launch} {e : Env} {s : State} {m : MethodId} {below : List Frame} {meth : Method} {c : Code} {H : Heap} {locs : List Loc} {ls : Array Slot} {cells slots : Nat} {Q : State → Prop} {bs L tl th : Nat} {xs : Nat → Int32} {G : va_G} {cx a b : Nat → Nat} {σ τ : Nat → Int → Int} {i : Int} (C : LC p s m c bs L xs G cx a b tl th) (hcs : cells ≤ room_1.cells ∧ slots ≤ room_1.slots) (hi : 0 ≤ i ∧ i + 4 ≤ (L : Int)) (hR : Rel (Nx σ) τ) (hL : Lw G cx a b σ τ H) (hS : va_S (fun q => s.heap.size ≤ q) s.heap H locs) (hl : lv_has ls 8 [(0, .ref bs), (1, .ref (a 0)), (2, .ref (b 0)), (3, .int (iI i))]) (kk : ∀ (u t : Nat → Int → Int) (H : Heap) (locs : List Loc) (ls : Array Slot), Rel (Nx u) t → Lw G cx a b u t H → va_S (fun q => s.heap.size ≤ q) s.heap H locs → lv_has ls 8 [(0, .ref bs), (1, .ref (a 0)), (2, .ref (b 0)), (3, .int (iI i))] → W p l e room_1 s m #[Value.ref bs] below meth c H locs cells slots Q (F0 m 746 ls [])) : W p l e room_1 s m #[Value.ref bs] below meth c H locs cells slots Q (F0 m 394 ls []) := by
  obtain ⟨hex, hbc, hml, hown, hts, hX, hbl, hL8, hK, hA, h4⟩ := C
  obtain ⟨hI, hIM, hHs, hN, hFl, hFk⟩ := Rel_use hR
  obtain ⟨h64, h1m, h16⟩ := Inv_b hI
  refine lv_aload_n hex hbc dL_law_394 rfl (lv_at hl 1 rfl) ?_
  refine lv_aload_n hex hbc dL_law_395 rfl (lv_at hl 0 rfl) ?_
  refine lv_iload_n hex hbc dL_law_396 rfl (lv_at hl 3 rfl) ?_
  refine lv_iconst (v := iI 1) hex hbc dL_law_397 rfl ?_
  refine zt_iadd hex hbc dL_law_398 ?_
  refine l_sld (z := (i + 1)) hex hbc hX hbl hS (by omega) hL8 dL_law_399 ?_
  refine l_callX [.int (iI (scv xs (i + 1)))] ⟨hex, hbc, hml, hown, hts⟩ (mX4_told l G cx a σ (scv xs (i + 1)) (scv_in xs _) hI) (cwV 1 hts gL_law_X4_told rfl rfl rfl (by decide +kernel) ⟨Nat.le_of_ble_eq_true rfl, Nat.le_of_ble_eq_true rfl⟩) hK hL hA hS rfl rfl hl.1 (Nat.le_of_ble_eq_true rfl) dL_law_400 hcs (fun r u H locs hx hL hS => ?_)
  refine lv_aload_n hex hbc dL_law_403 rfl (lv_at hl 2 rfl) ?_
  refine lv_aload_n hex hbc dL_law_404 rfl (lv_at hl 0 rfl) ?_
  refine lv_iload_n hex hbc dL_law_405 rfl (lv_at hl 3 rfl) ?_
  refine lv_iconst (v := iI 1) hex hbc dL_law_406 rfl ?_
  refine zt_iadd hex hbc dL_law_407 ?_
  refine l_sld (z := (i + 1)) hex hbc hX hbl hS (by omega) hL8 dL_law_408 ?_
  refine l_callM [.int (iI (scv xs (i + 1)))] ⟨hex, hbc, hml, hown, hts⟩ (mX5_told l G cx b τ (scv xs (i + 1)) (scv_in xs _) hIM) (cwV 1 hts gL_law_X5_told rfl rfl rfl (by decide +kernel) ⟨Nat.le_of_ble_eq_true rfl, Nat.le_of_ble_eq_true rfl⟩) hK hL hA hS rfl rfl hl.1 (Nat.le_of_ble_eq_true rfl) dL_law_409 hcs (fun q t H locs hm hL hS => ?_)
  have hst := st_told (scv xs (i + 1)) hR (nx_told (scv xs (i + 1)) hI h64 h1m h16 hx) hm
  refine lv_icmp_eq (tgt := 746) hex hbc dL_law_412 (by decide) (fun c => ?_) (fun c => ?_)
  · exact kk _ _ _ _ _ hst.2 hL hS (lv_sub hl [0, 1, 2, 3] rfl)
  · exact absurd hst.1 c
set_option maxHeartbeats 2000000 in
set_option maxRecDepth 20000 in
theorem law_setting {p : Program} {l : Launch} {e : Env} {s : State} {m : MethodId} {below : List Frame} {meth : Method} {c : Code} {H : Heap} {locs : List Loc} {ls : Array Slot} {cells slots : Nat} {Q : State → Prop} {bs L tl th : Nat} {xs : Nat → Int32} {G : va_G} {cx a b : Nat → Nat} {σ τ : Nat → Int → Int} {i : Int} (C : LC p s m c bs L xs G cx a b tl th) (hcs : cells ≤ room_1.cells ∧ slots ≤ room_1.slots) (hi : 0 ≤ i ∧ i + 4 ≤ (L : Int)) (hR : Rel (Nx σ) τ) (hL : Lw G cx a b σ τ H) (hS : va_S (fun q => s.heap.size ≤ q) s.heap H locs) (hl : lv_has ls 8 [(0, .ref bs), (1, .ref (a 0)), (2, .ref (b 0)), (3, .int (iI i))]) (kk : ∀ (u t : Nat → Int → Int) (H : Heap) (locs : List Loc) (ls : Array Slot), Rel (Nx u) t → Lw G cx a b u t H → va_S (fun q => s.heap.size ≤ q) s.heap H locs → lv_has ls 8 [(0, .ref bs), (1, .ref (a 0)), (2, .ref (b 0)), (3, .int (iI i))] → W p l e room_1 s m #[Value.ref bs] below meth c H locs cells slots Q (F0 m 746 ls [])) : W p l e room_1 s m #[Value.ref bs] below meth c H locs cells slots Q (F0 m 417 ls []) := by
  obtain ⟨hex, hbc, hml, hown, hts, hX, hbl, hL8, hK, hA, h4⟩ := C
  obtain ⟨hI, hIM, hHs, hN, hFl, hFk⟩ := Rel_use hR
  obtain ⟨h64, h1m, h16⟩ := Inv_b hI
  refine lv_aload_n hex hbc dL_law_417 rfl (lv_at hl 1 rfl) ?_
  refine lv_aload_n hex hbc dL_law_418 rfl (lv_at hl 0 rfl) ?_
  refine lv_iload_n hex hbc dL_law_419 rfl (lv_at hl 3 rfl) ?_
  refine lv_iconst (v := iI 1) hex hbc dL_law_420 rfl ?_
  refine zt_iadd hex hbc dL_law_421 ?_
  refine l_sld (z := (i + 1)) hex hbc hX hbl hS (by omega) hL8 dL_law_422 ?_
  refine l_callX [.int (iI (scv xs (i + 1)))] ⟨hex, hbc, hml, hown, hts⟩ (mX4_setting l G cx a σ (scv xs (i + 1)) (scv_in xs _) hI) (cwV 1 hts gL_law_X4_setting rfl rfl rfl (by decide +kernel) ⟨Nat.le_of_ble_eq_true rfl, Nat.le_of_ble_eq_true rfl⟩) hK hL hA hS rfl rfl hl.1 (Nat.le_of_ble_eq_true rfl) dL_law_423 hcs (fun r u H locs hx hL hS => ?_)
  refine lv_aload_n hex hbc dL_law_426 rfl (lv_at hl 2 rfl) ?_
  refine lv_aload_n hex hbc dL_law_427 rfl (lv_at hl 0 rfl) ?_
  refine lv_iload_n hex hbc dL_law_428 rfl (lv_at hl 3 rfl) ?_
  refine lv_iconst (v := iI 1) hex hbc dL_law_429 rfl ?_
  refine zt_iadd hex hbc dL_law_430 ?_
  refine l_sld (z := (i + 1)) hex hbc hX hbl hS (by omega) hL8 dL_law_431 ?_
  refine l_callM [.int (iI (scv xs (i + 1)))] ⟨hex, hbc, hml, hown, hts⟩ (mX5_setting l G cx b τ (scv xs (i + 1)) (scv_in xs _) hIM) (cwV 1 hts gL_law_X5_setting rfl rfl rfl (by decide +kernel) ⟨Nat.le_of_ble_eq_true rfl, Nat.le_of_ble_eq_true rfl⟩) hK hL hA hS rfl rfl hl.1 (Nat.le_of_ble_eq_true rfl) dL_law_432 hcs (fun q t H locs hm hL hS => ?_)
  have hst := st_setting (scv xs (i + 1)) hR (nx_setting (scv xs (i + 1)) hI h64 h1m h16 hx) hm
  refine lv_icmp_eq (tgt := 746) hex hbc dL_law_435 (by decide) (fun c => ?_) (fun c => ?_)
  · exact kk _ _ _ _ _ hst.2 hL hS (lv_sub hl [0, 1, 2, 3] rfl)
  · exact absurd hst.1 c
