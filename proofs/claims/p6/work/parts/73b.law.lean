set_option maxHeartbeats 4000000 in
set_option maxRecDepth 100000 in
theorem law_c0 {p : Program} {l : Launch} {e : Env} {s : State} {m : MethodId} {below : List Frame} {meth : Method} {c : Code} {b Ln : Nat} {xs : Nat → Int32} (C0 : lw_At p s m meth c b Ln xs) {D : va_G} {cy : Nat → ClassId} {A : Nat → Prop} (hA : ∀ q, s.heap.size ≤ q → A q) (hA2 : ∀ q, A q → s.heap.size ≤ q) (hbA : ¬ A b) (hN : NW s) (hK : va_K D vwCl (tysC cy) s) (hST : STAT A s) {xa za : Nat} {j : Nat} {H : Heap} {locs : List Loc} {cells slots : Nat} {ls : Array Slot} (hj : 6 * j + 6 ≤ Ln) (hLn : Ln ≤ 3072) (hc : cells + 720 ≤ 600000) (hs : slots + 4320 ≤ 7302250) (hLS : LSt D cy A xa za j H) (hS : va_S A s.heap H locs) (hl : lv_has ls 4 [(3, .int (nI (6 * j))), (2, .ref za), (1, .ref xa), (0, .ref b)]) (kk : ∀ (H1 : Heap) (locs1 : List Loc) (c1 s1 : Nat), c1 ≤ cells + 720 → s1 ≤ slots + 4320 → LSt D cy A xa za (j + 1) H1 → va_S A s.heap H1 locs1 → W p l e room_1 s m #[Value.ref b] below meth c H1 locs1 c1 s1 (lw_Z below #[Value.ref b] s) (F0 m 1695 ls [])) : W p l e room_1 s m #[Value.ref b] below meth c H locs cells slots (lw_Z below #[Value.ref b] s) (F0 m 196 ls []) := by
  obtain ⟨hx, hb, hr, hml, hown, hts, hX, hbl, hlocks, hgv⟩ := id C0
  have hg : ∀ w ∈ lw_good, w.before #[Value.ref b] s = true := fun w h => hts w (List.mem_filter.mp h).1
  have hown : s.vm.findClass RL = some m.cls := hown
  obtain ⟨n, n3, T, PK, PT, SX, SY, WH, CA, W1, W2, hT, hXS, hZS, hP1, hP2, hD1, hD2, hap⟩ := hLS
  have q1 := inbN (6 * j + 1) Ln (by omega) (by omega)
  have q2 : (cells + 21) ≤ 600000 ∧ (slots + 2800) ≤ 7302250 := ⟨by omega, by omega⟩
  have q3 : 0 ≤ T ∧ T ≤ 900000 := ⟨by omega, by omega⟩
  have q4 : ((cells + 21) + 0) ≤ 600000 ∧ ((slots + 2800) + 0) ≤ 7302250 := ⟨by omega, by omega⟩
  have q5 : ((cells + 21) + 0) ≤ cells + 720 := by omega
  have q6 : ((slots + 2800) + 0) ≤ slots + 4320 := by omega
  have q7 : 0 ≤ (T + 1) ∧ (T + 1) ≤ ((j + 1 : Nat) : Int) := ⟨by omega, by omega⟩
  refine lv_aload_n hx hb dL_law_196 rfl (lv_at hl 2 rfl) ?_
  refine lv_aload_n hx hb dL_law_197 rfl (lv_at hl 3 rfl) ?_
  refine lv_iload_n hx hb dL_law_198 rfl (lv_at hl 0 rfl) ?_
  refine lv_iconst (v := 1) hx hb dL_law_199 (by decide) ?_
  refine lv_iadd hx hb dL_law_200 ?_
  refine lv_topi (fun f1 ef1 => ?_)
  obtain rfl : f1 = nI (6 * j + 1) := ef1.trans (nI_add (6 * j) 1)
  refine va_sld hx hb hX hbl hbA hS q1 dL_law_201 ?_
  refine cx_house C0 hA hN hK hST (xs ((nI (6 * j + 1)) : Int32).toNatClampNeg) q2 q3 hZS.svhi hXS hP1 hP2 hD1 hap hS hl (fun r2 W1 H locs _hr hXS hP1 hP2 hD1 hap hS => ?_)
  refine lv_pop hx hb dL_law_205 rfl ?_
  refine lv_aload_n hx hb dL_law_206 rfl (lv_at hl 1 rfl) ?_
  refine lv_aload_n hx hb dL_law_207 rfl (lv_at hl 3 rfl) ?_
  refine lv_iload_n hx hb dL_law_208 rfl (lv_at hl 0 rfl) ?_
  refine lv_iconst (v := 1) hx hb dL_law_209 (by decide) ?_
  refine lv_iadd hx hb dL_law_210 ?_
  refine lv_topi (fun f3 ef3 => ?_)
  obtain rfl : f3 = nI (6 * j + 1) := ef3.trans (nI_add (6 * j) 1)
  refine va_sld hx hb hX hbl hbA hS q1 dL_law_211 ?_
  refine cz_house C0 hA hN hK hST (xs ((nI (6 * j + 1)) : Int32).toNatClampNeg) q4 hZS hP2 hP1 hD2 hap.sy hS hl (fun r4 W2 H locs _hr hZS hP2 hP1 hD2 hap hS => ?_)
  have hap := hap.sy
  obtain ⟨X9, Y9, hc9, hZS⟩ := hZS
  have hXS := hXS.imp (Q := PS _ _ (T + 1) _ _ _ _ _ _) (fun x0 x2 x5 x6 x8 x7 x9 x10 K L M h => ⟨h.1 X9 Y9 hc9, h.2.1, h.2.2.1, h.2.2.2.1, h.2.2.2.2 X9 Y9 hc9⟩)
  refine lv_pop hx hb dL_law_215 rfl ?_
  refine lv_goto (tgt := 1695) hx hb dL_law_216 (by decide) ?_
  exact kk H locs _ _ q5 q6 ⟨_, _, (T + 1), _, _, _, _, _, _, _, _, q7, hXS, hZS, hP1, hP2, hD1, hD2, hap⟩ hS
set_option maxHeartbeats 4000000 in
set_option maxRecDepth 100000 in
theorem law_c1 {p : Program} {l : Launch} {e : Env} {s : State} {m : MethodId} {below : List Frame} {meth : Method} {c : Code} {b Ln : Nat} {xs : Nat → Int32} (C0 : lw_At p s m meth c b Ln xs) {D : va_G} {cy : Nat → ClassId} {A : Nat → Prop} (hA : ∀ q, s.heap.size ≤ q → A q) (hA2 : ∀ q, A q → s.heap.size ≤ q) (hbA : ¬ A b) (hN : NW s) (hK : va_K D vwCl (tysC cy) s) (hST : STAT A s) {xa za : Nat} {j : Nat} {H : Heap} {locs : List Loc} {cells slots : Nat} {ls : Array Slot} (hj : 6 * j + 6 ≤ Ln) (hLn : Ln ≤ 3072) (hc : cells + 720 ≤ 600000) (hs : slots + 4320 ≤ 7302250) (hLS : LSt D cy A xa za j H) (hS : va_S A s.heap H locs) (hl : lv_has ls 4 [(3, .int (nI (6 * j))), (2, .ref za), (1, .ref xa), (0, .ref b)]) (kk : ∀ (H1 : Heap) (locs1 : List Loc) (c1 s1 : Nat), c1 ≤ cells + 720 → s1 ≤ slots + 4320 → LSt D cy A xa za (j + 1) H1 → va_S A s.heap H1 locs1 → W p l e room_1 s m #[Value.ref b] below meth c H1 locs1 c1 s1 (lw_Z below #[Value.ref b] s) (F0 m 1695 ls [])) : W p l e room_1 s m #[Value.ref b] below meth c H locs cells slots (lw_Z below #[Value.ref b] s) (F0 m 219 ls []) := by
  obtain ⟨hx, hb, hr, hml, hown, hts, hX, hbl, hlocks, hgv⟩ := id C0
  have hg : ∀ w ∈ lw_good, w.before #[Value.ref b] s = true := fun w h => hts w (List.mem_filter.mp h).1
  have hown : s.vm.findClass RL = some m.cls := hown
  obtain ⟨n, n3, T, PK, PT, SX, SY, WH, CA, W1, W2, hT, hXS, hZS, hP1, hP2, hD1, hD2, hap⟩ := hLS
  have q1 := inbN (6 * j + 1) Ln (by omega) (by omega)
  have q2 := inbN (6 * j + 2) Ln (by omega) (by omega)
  have q3 : (cells + 1) ≤ 600000 ∧ (slots + 4) ≤ 7302250 := ⟨by omega, by omega⟩
  have q4 : 0 ≤ T ∧ T ≤ 900000 := ⟨by omega, by omega⟩
  have q5 : ((cells + 1) + 0) ≤ 600000 ∧ ((slots + 4) + 0) ≤ 7302250 := ⟨by omega, by omega⟩
  have q6 : ((cells + 1) + 0) ≤ cells + 720 := by omega
  have q7 : ((slots + 4) + 0) ≤ slots + 4320 := by omega
  have q8 : 0 ≤ (T + 1) ∧ (T + 1) ≤ ((j + 1 : Nat) : Int) := ⟨by omega, by omega⟩
  refine lv_aload_n hx hb dL_law_219 rfl (lv_at hl 2 rfl) ?_
  refine lv_aload_n hx hb dL_law_220 rfl (lv_at hl 3 rfl) ?_
  refine lv_iload_n hx hb dL_law_221 rfl (lv_at hl 0 rfl) ?_
  refine lv_iconst (v := 1) hx hb dL_law_222 (by decide) ?_
  refine lv_iadd hx hb dL_law_223 ?_
  refine lv_topi (fun f1 ef1 => ?_)
  obtain rfl : f1 = nI (6 * j + 1) := ef1.trans (nI_add (6 * j) 1)
  refine va_sld hx hb hX hbl hbA hS q1 dL_law_224 ?_
  refine lv_aload_n hx hb dL_law_225 rfl (lv_at hl 3 rfl) ?_
  refine lv_iload_n hx hb dL_law_226 rfl (lv_at hl 0 rfl) ?_
  refine lv_iconst (v := 2) hx hb dL_law_227 (by decide) ?_
  refine lv_iadd hx hb dL_law_228 ?_
  refine lv_topi (fun f2 ef2 => ?_)
  obtain rfl : f2 = nI (6 * j + 2) := ef2.trans (nI_add (6 * j) 2)
  refine va_sld hx hb hX hbl hbA hS q2 dL_law_229 ?_
  refine cx_partner C0 hA hN hK hST (xs ((nI (6 * j + 1)) : Int32).toNatClampNeg) (xs ((nI (6 * j + 2)) : Int32).toNatClampNeg) q3 q4 hZS.svhi hXS hP1 hP2 hD1 hap hS hl (fun r3 W1 H locs _hr hXS hP1 hP2 hD1 hap hS => ?_)
  refine lv_pop hx hb dL_law_233 rfl ?_
  refine lv_aload_n hx hb dL_law_234 rfl (lv_at hl 1 rfl) ?_
  refine lv_aload_n hx hb dL_law_235 rfl (lv_at hl 3 rfl) ?_
  refine lv_iload_n hx hb dL_law_236 rfl (lv_at hl 0 rfl) ?_
  refine lv_iconst (v := 1) hx hb dL_law_237 (by decide) ?_
  refine lv_iadd hx hb dL_law_238 ?_
  refine lv_topi (fun f4 ef4 => ?_)
  obtain rfl : f4 = nI (6 * j + 1) := ef4.trans (nI_add (6 * j) 1)
  refine va_sld hx hb hX hbl hbA hS q1 dL_law_239 ?_
  refine lv_aload_n hx hb dL_law_240 rfl (lv_at hl 3 rfl) ?_
  refine lv_iload_n hx hb dL_law_241 rfl (lv_at hl 0 rfl) ?_
  refine lv_iconst (v := 2) hx hb dL_law_242 (by decide) ?_
  refine lv_iadd hx hb dL_law_243 ?_
  refine lv_topi (fun f5 ef5 => ?_)
  obtain rfl : f5 = nI (6 * j + 2) := ef5.trans (nI_add (6 * j) 2)
  refine va_sld hx hb hX hbl hbA hS q2 dL_law_244 ?_
  refine cz_partner C0 hA hN hK hST (xs ((nI (6 * j + 1)) : Int32).toNatClampNeg) (xs ((nI (6 * j + 2)) : Int32).toNatClampNeg) q5 hZS hP2 hP1 hD2 hap.sy hS hl (fun r6 W2 H locs _hr hZS hP2 hP1 hD2 hap hS => ?_)
  have hap := hap.sy
  have hXS := hXS.imp (Q := PS _ _ (T + 1) _ _ _ _ _ _) (fun x0 x2 x5 x6 x8 x7 x9 x10 K L M h => h)
  refine lv_pop hx hb dL_law_248 rfl ?_
  refine lv_goto (tgt := 1695) hx hb dL_law_249 (by decide) ?_
  exact kk H locs _ _ q6 q7 ⟨_, _, (T + 1), _, _, _, _, _, _, _, _, q8, hXS, hZS, hP1, hP2, hD1, hD2, hap⟩ hS
set_option maxHeartbeats 4000000 in
set_option maxRecDepth 100000 in
theorem law_c2 {p : Program} {l : Launch} {e : Env} {s : State} {m : MethodId} {below : List Frame} {meth : Method} {c : Code} {b Ln : Nat} {xs : Nat → Int32} (C0 : lw_At p s m meth c b Ln xs) {D : va_G} {cy : Nat → ClassId} {A : Nat → Prop} (hA : ∀ q, s.heap.size ≤ q → A q) (hA2 : ∀ q, A q → s.heap.size ≤ q) (hbA : ¬ A b) (hN : NW s) (hK : va_K D vwCl (tysC cy) s) (hST : STAT A s) {xa za : Nat} {j : Nat} {H : Heap} {locs : List Loc} {cells slots : Nat} {ls : Array Slot} (hj : 6 * j + 6 ≤ Ln) (hLn : Ln ≤ 3072) (hc : cells + 720 ≤ 600000) (hs : slots + 4320 ≤ 7302250) (hLS : LSt D cy A xa za j H) (hS : va_S A s.heap H locs) (hl : lv_has ls 4 [(3, .int (nI (6 * j))), (2, .ref za), (1, .ref xa), (0, .ref b)]) (kk : ∀ (H1 : Heap) (locs1 : List Loc) (c1 s1 : Nat), c1 ≤ cells + 720 → s1 ≤ slots + 4320 → LSt D cy A xa za (j + 1) H1 → va_S A s.heap H1 locs1 → W p l e room_1 s m #[Value.ref b] below meth c H1 locs1 c1 s1 (lw_Z below #[Value.ref b] s) (F0 m 1695 ls [])) : W p l e room_1 s m #[Value.ref b] below meth c H locs cells slots (lw_Z below #[Value.ref b] s) (F0 m 252 ls []) := by
  obtain ⟨hx, hb, hr, hml, hown, hts, hX, hbl, hlocks, hgv⟩ := id C0
  have hg : ∀ w ∈ lw_good, w.before #[Value.ref b] s = true := fun w h => hts w (List.mem_filter.mp h).1
  have hown : s.vm.findClass RL = some m.cls := hown
  obtain ⟨n, n3, T, PK, PT, SX, SY, WH, CA, W1, W2, hT, hXS, hZS, hP1, hP2, hD1, hD2, hap⟩ := hLS
  have q1 := inbN (6 * j + 1) Ln (by omega) (by omega)
  have q2 := inbN (6 * j + 2) Ln (by omega) (by omega)
  have q3 := inbN (6 * j + 3) Ln (by omega) (by omega)
  have q4 : (cells + 0) ≤ 600000 ∧ (slots + 0) ≤ 7302250 := ⟨by omega, by omega⟩
  have q5 : 0 ≤ T ∧ T ≤ 900000 := ⟨by omega, by omega⟩
  have q6 : ((cells + 0) + 0) ≤ 600000 ∧ ((slots + 0) + 0) ≤ 7302250 := ⟨by omega, by omega⟩
  have q7 : ((cells + 0) + 0) ≤ cells + 720 := by omega
  have q8 : ((slots + 0) + 0) ≤ slots + 4320 := by omega
  have q9 : 0 ≤ (T + 1) ∧ (T + 1) ≤ ((j + 1 : Nat) : Int) := ⟨by omega, by omega⟩
  refine lv_aload_n hx hb dL_law_252 rfl (lv_at hl 2 rfl) ?_
  refine lv_aload_n hx hb dL_law_253 rfl (lv_at hl 3 rfl) ?_
  refine lv_iload_n hx hb dL_law_254 rfl (lv_at hl 0 rfl) ?_
  refine lv_iconst (v := 1) hx hb dL_law_255 (by decide) ?_
  refine lv_iadd hx hb dL_law_256 ?_
  refine lv_topi (fun f1 ef1 => ?_)
  obtain rfl : f1 = nI (6 * j + 1) := ef1.trans (nI_add (6 * j) 1)
  refine va_sld hx hb hX hbl hbA hS q1 dL_law_257 ?_
  refine lv_aload_n hx hb dL_law_258 rfl (lv_at hl 3 rfl) ?_
  refine lv_iload_n hx hb dL_law_259 rfl (lv_at hl 0 rfl) ?_
  refine lv_iconst (v := 2) hx hb dL_law_260 (by decide) ?_
  refine lv_iadd hx hb dL_law_261 ?_
  refine lv_topi (fun f2 ef2 => ?_)
  obtain rfl : f2 = nI (6 * j + 2) := ef2.trans (nI_add (6 * j) 2)
  refine va_sld hx hb hX hbl hbA hS q2 dL_law_262 ?_
  refine lv_aload_n hx hb dL_law_263 rfl (lv_at hl 3 rfl) ?_
  refine lv_iload_n hx hb dL_law_264 rfl (lv_at hl 0 rfl) ?_
  refine lv_iconst (v := 3) hx hb dL_law_265 (by decide) ?_
  refine lv_iadd hx hb dL_law_266 ?_
  refine lv_topi (fun f3 ef3 => ?_)
  obtain rfl : f3 = nI (6 * j + 3) := ef3.trans (nI_add (6 * j) 3)
  refine va_sld hx hb hX hbl hbA hS q3 dL_law_267 ?_
  refine cx_letter C0 hA hN hK hST (xs ((nI (6 * j + 1)) : Int32).toNatClampNeg) (xs ((nI (6 * j + 2)) : Int32).toNatClampNeg) (xs ((nI (6 * j + 3)) : Int32).toNatClampNeg) q4 q5 hZS.svhi hXS hP1 hP2 hD1 hap hS hl (fun r4 W1 H locs _hr hXS hP1 hP2 hD1 hap hS => ?_)
  refine lv_pop hx hb dL_law_271 rfl ?_
  refine lv_aload_n hx hb dL_law_272 rfl (lv_at hl 1 rfl) ?_
  refine lv_aload_n hx hb dL_law_273 rfl (lv_at hl 3 rfl) ?_
  refine lv_iload_n hx hb dL_law_274 rfl (lv_at hl 0 rfl) ?_
  refine lv_iconst (v := 1) hx hb dL_law_275 (by decide) ?_
  refine lv_iadd hx hb dL_law_276 ?_
  refine lv_topi (fun f5 ef5 => ?_)
  obtain rfl : f5 = nI (6 * j + 1) := ef5.trans (nI_add (6 * j) 1)
  refine va_sld hx hb hX hbl hbA hS q1 dL_law_277 ?_
  refine lv_aload_n hx hb dL_law_278 rfl (lv_at hl 3 rfl) ?_
  refine lv_iload_n hx hb dL_law_279 rfl (lv_at hl 0 rfl) ?_
  refine lv_iconst (v := 2) hx hb dL_law_280 (by decide) ?_
  refine lv_iadd hx hb dL_law_281 ?_
  refine lv_topi (fun f6 ef6 => ?_)
  obtain rfl : f6 = nI (6 * j + 2) := ef6.trans (nI_add (6 * j) 2)
  refine va_sld hx hb hX hbl hbA hS q2 dL_law_282 ?_
  refine lv_aload_n hx hb dL_law_283 rfl (lv_at hl 3 rfl) ?_
  refine lv_iload_n hx hb dL_law_284 rfl (lv_at hl 0 rfl) ?_
  refine lv_iconst (v := 3) hx hb dL_law_285 (by decide) ?_
  refine lv_iadd hx hb dL_law_286 ?_
  refine lv_topi (fun f7 ef7 => ?_)
  obtain rfl : f7 = nI (6 * j + 3) := ef7.trans (nI_add (6 * j) 3)
  refine va_sld hx hb hX hbl hbA hS q3 dL_law_287 ?_
  refine cz_letter C0 hA hN hK hST (xs ((nI (6 * j + 1)) : Int32).toNatClampNeg) (xs ((nI (6 * j + 2)) : Int32).toNatClampNeg) (xs ((nI (6 * j + 3)) : Int32).toNatClampNeg) q6 hZS hP2 hP1 hD2 hap.sy hS hl (fun r8 W2 H locs _hr hZS hP2 hP1 hD2 hap hS => ?_)
  have hap := hap.sy
  have hXS := hXS.imp (Q := PS _ _ (T + 1) _ _ _ _ _ _) (fun x0 x2 x5 x6 x8 x7 x9 x10 K L M h => h)
  refine lv_pop hx hb dL_law_291 rfl ?_
  refine lv_goto (tgt := 1695) hx hb dL_law_292 (by decide) ?_
  exact kk H locs _ _ q7 q8 ⟨_, _, (T + 1), _, _, _, _, _, _, _, _, q9, hXS, hZS, hP1, hP2, hD1, hD2, hap⟩ hS
set_option maxHeartbeats 4000000 in
set_option maxRecDepth 100000 in
theorem law_c3 {p : Program} {l : Launch} {e : Env} {s : State} {m : MethodId} {below : List Frame} {meth : Method} {c : Code} {b Ln : Nat} {xs : Nat → Int32} (C0 : lw_At p s m meth c b Ln xs) {D : va_G} {cy : Nat → ClassId} {A : Nat → Prop} (hA : ∀ q, s.heap.size ≤ q → A q) (hA2 : ∀ q, A q → s.heap.size ≤ q) (hbA : ¬ A b) (hN : NW s) (hK : va_K D vwCl (tysC cy) s) (hST : STAT A s) {xa za : Nat} {j : Nat} {H : Heap} {locs : List Loc} {cells slots : Nat} {ls : Array Slot} (hj : 6 * j + 6 ≤ Ln) (hLn : Ln ≤ 3072) (hc : cells + 720 ≤ 600000) (hs : slots + 4320 ≤ 7302250) (hLS : LSt D cy A xa za j H) (hS : va_S A s.heap H locs) (hl : lv_has ls 4 [(3, .int (nI (6 * j))), (2, .ref za), (1, .ref xa), (0, .ref b)]) (kk : ∀ (H1 : Heap) (locs1 : List Loc) (c1 s1 : Nat), c1 ≤ cells + 720 → s1 ≤ slots + 4320 → LSt D cy A xa za (j + 1) H1 → va_S A s.heap H1 locs1 → W p l e room_1 s m #[Value.ref b] below meth c H1 locs1 c1 s1 (lw_Z below #[Value.ref b] s) (F0 m 1695 ls [])) : W p l e room_1 s m #[Value.ref b] below meth c H locs cells slots (lw_Z below #[Value.ref b] s) (F0 m 295 ls []) := by
  obtain ⟨hx, hb, hr, hml, hown, hts, hX, hbl, hlocks, hgv⟩ := id C0
  have hg : ∀ w ∈ lw_good, w.before #[Value.ref b] s = true := fun w h => hts w (List.mem_filter.mp h).1
  have hown : s.vm.findClass RL = some m.cls := hown
  obtain ⟨n, n3, T, PK, PT, SX, SY, WH, CA, W1, W2, hT, hXS, hZS, hP1, hP2, hD1, hD2, hap⟩ := hLS
  have q1 := inbN (6 * j + 1) Ln (by omega) (by omega)
  have q2 := inbN (6 * j + 2) Ln (by omega) (by omega)
  have q3 : (cells + 0) ≤ 600000 ∧ (slots + 0) ≤ 7302250 := ⟨by omega, by omega⟩
  have q4 : 0 ≤ T ∧ T ≤ 900000 := ⟨by omega, by omega⟩
  have q5 : ((cells + 0) + 0) ≤ 600000 ∧ ((slots + 0) + 0) ≤ 7302250 := ⟨by omega, by omega⟩
  have q6 : ((cells + 0) + 0) ≤ cells + 720 := by omega
  have q7 : ((slots + 0) + 0) ≤ slots + 4320 := by omega
  have q8 : 0 ≤ (T + 1) ∧ (T + 1) ≤ ((j + 1 : Nat) : Int) := ⟨by omega, by omega⟩
  refine lv_aload_n hx hb dL_law_295 rfl (lv_at hl 2 rfl) ?_
  refine lv_aload_n hx hb dL_law_296 rfl (lv_at hl 3 rfl) ?_
  refine lv_iload_n hx hb dL_law_297 rfl (lv_at hl 0 rfl) ?_
  refine lv_iconst (v := 1) hx hb dL_law_298 (by decide) ?_
  refine lv_iadd hx hb dL_law_299 ?_
  refine lv_topi (fun f1 ef1 => ?_)
  obtain rfl : f1 = nI (6 * j + 1) := ef1.trans (nI_add (6 * j) 1)
  refine va_sld hx hb hX hbl hbA hS q1 dL_law_300 ?_
  refine lv_aload_n hx hb dL_law_301 rfl (lv_at hl 3 rfl) ?_
  refine lv_iload_n hx hb dL_law_302 rfl (lv_at hl 0 rfl) ?_
  refine lv_iconst (v := 2) hx hb dL_law_303 (by decide) ?_
  refine lv_iadd hx hb dL_law_304 ?_
  refine lv_topi (fun f2 ef2 => ?_)
  obtain rfl : f2 = nI (6 * j + 2) := ef2.trans (nI_add (6 * j) 2)
  refine va_sld hx hb hX hbl hbA hS q2 dL_law_305 ?_
  refine cx_unseal C0 hA hN hK hST (xs ((nI (6 * j + 1)) : Int32).toNatClampNeg) (xs ((nI (6 * j + 2)) : Int32).toNatClampNeg) q3 q4 hZS.svhi hXS hP1 hP2 hD1 hap hS hl (fun r3 W1 H locs _hr hXS hP1 hP2 hD1 hap hS => ?_)
  refine lv_pop hx hb dL_law_309 rfl ?_
  refine lv_aload_n hx hb dL_law_310 rfl (lv_at hl 1 rfl) ?_
  refine lv_aload_n hx hb dL_law_311 rfl (lv_at hl 3 rfl) ?_
  refine lv_iload_n hx hb dL_law_312 rfl (lv_at hl 0 rfl) ?_
  refine lv_iconst (v := 1) hx hb dL_law_313 (by decide) ?_
  refine lv_iadd hx hb dL_law_314 ?_
  refine lv_topi (fun f4 ef4 => ?_)
  obtain rfl : f4 = nI (6 * j + 1) := ef4.trans (nI_add (6 * j) 1)
  refine va_sld hx hb hX hbl hbA hS q1 dL_law_315 ?_
  refine lv_aload_n hx hb dL_law_316 rfl (lv_at hl 3 rfl) ?_
  refine lv_iload_n hx hb dL_law_317 rfl (lv_at hl 0 rfl) ?_
  refine lv_iconst (v := 2) hx hb dL_law_318 (by decide) ?_
  refine lv_iadd hx hb dL_law_319 ?_
  refine lv_topi (fun f5 ef5 => ?_)
  obtain rfl : f5 = nI (6 * j + 2) := ef5.trans (nI_add (6 * j) 2)
  refine va_sld hx hb hX hbl hbA hS q2 dL_law_320 ?_
  refine cz_unseal C0 hA hN hK hST (xs ((nI (6 * j + 1)) : Int32).toNatClampNeg) (xs ((nI (6 * j + 2)) : Int32).toNatClampNeg) q5 hZS hP2 hP1 hD2 hap.sy hS hl (fun r6 W2 H locs _hr hZS hP2 hP1 hD2 hap hS => ?_)
  have hap := hap.sy
  have hXS := hXS.imp (Q := PS _ _ (T + 1) _ _ _ _ _ _) (fun x0 x2 x5 x6 x8 x7 x9 x10 K L M h => h)
  refine lv_pop hx hb dL_law_324 rfl ?_
  refine lv_goto (tgt := 1695) hx hb dL_law_325 (by decide) ?_
  exact kk H locs _ _ q6 q7 ⟨_, _, (T + 1), _, _, _, _, _, _, _, _, q8, hXS, hZS, hP1, hP2, hD1, hD2, hap⟩ hS
set_option maxHeartbeats 4000000 in
set_option maxRecDepth 100000 in
theorem law_c4 {p : Program} {l : Launch} {e : Env} {s : State} {m : MethodId} {below : List Frame} {meth : Method} {c : Code} {b Ln : Nat} {xs : Nat → Int32} (C0 : lw_At p s m meth c b Ln xs) {D : va_G} {cy : Nat → ClassId} {A : Nat → Prop} (hA : ∀ q, s.heap.size ≤ q → A q) (hA2 : ∀ q, A q → s.heap.size ≤ q) (hbA : ¬ A b) (hN : NW s) (hK : va_K D vwCl (tysC cy) s) (hST : STAT A s) {xa za : Nat} {j : Nat} {H : Heap} {locs : List Loc} {cells slots : Nat} {ls : Array Slot} (hj : 6 * j + 6 ≤ Ln) (hLn : Ln ≤ 3072) (hc : cells + 720 ≤ 600000) (hs : slots + 4320 ≤ 7302250) (hLS : LSt D cy A xa za j H) (hS : va_S A s.heap H locs) (hl : lv_has ls 4 [(3, .int (nI (6 * j))), (2, .ref za), (1, .ref xa), (0, .ref b)]) (kk : ∀ (H1 : Heap) (locs1 : List Loc) (c1 s1 : Nat), c1 ≤ cells + 720 → s1 ≤ slots + 4320 → LSt D cy A xa za (j + 1) H1 → va_S A s.heap H1 locs1 → W p l e room_1 s m #[Value.ref b] below meth c H1 locs1 c1 s1 (lw_Z below #[Value.ref b] s) (F0 m 1695 ls [])) : W p l e room_1 s m #[Value.ref b] below meth c H locs cells slots (lw_Z below #[Value.ref b] s) (F0 m 328 ls []) := by
  obtain ⟨hx, hb, hr, hml, hown, hts, hX, hbl, hlocks, hgv⟩ := id C0
  have hg : ∀ w ∈ lw_good, w.before #[Value.ref b] s = true := fun w h => hts w (List.mem_filter.mp h).1
  have hown : s.vm.findClass RL = some m.cls := hown
  obtain ⟨n, n3, T, PK, PT, SX, SY, WH, CA, W1, W2, hT, hXS, hZS, hP1, hP2, hD1, hD2, hap⟩ := hLS
  have q1 := inbN (6 * j + 1) Ln (by omega) (by omega)
  have q2 := inbN (6 * j + 2) Ln (by omega) (by omega)
  have q3 : (cells + 0) ≤ 600000 ∧ (slots + 0) ≤ 7302250 := ⟨by omega, by omega⟩
  have q4 : 0 ≤ T ∧ T ≤ 900000 := ⟨by omega, by omega⟩
  have q5 : ((cells + 0) + 0) ≤ 600000 ∧ ((slots + 0) + 0) ≤ 7302250 := ⟨by omega, by omega⟩
  have q6 : ((cells + 0) + 0) ≤ cells + 720 := by omega
  have q7 : ((slots + 0) + 0) ≤ slots + 4320 := by omega
  have q8 : 0 ≤ (T + 1) ∧ (T + 1) ≤ ((j + 1 : Nat) : Int) := ⟨by omega, by omega⟩
  refine lv_aload_n hx hb dL_law_328 rfl (lv_at hl 2 rfl) ?_
  refine lv_aload_n hx hb dL_law_329 rfl (lv_at hl 3 rfl) ?_
  refine lv_iload_n hx hb dL_law_330 rfl (lv_at hl 0 rfl) ?_
  refine lv_iconst (v := 1) hx hb dL_law_331 (by decide) ?_
  refine lv_iadd hx hb dL_law_332 ?_
  refine lv_topi (fun f1 ef1 => ?_)
  obtain rfl : f1 = nI (6 * j + 1) := ef1.trans (nI_add (6 * j) 1)
  refine va_sld hx hb hX hbl hbA hS q1 dL_law_333 ?_
  refine lv_aload_n hx hb dL_law_334 rfl (lv_at hl 3 rfl) ?_
  refine lv_iload_n hx hb dL_law_335 rfl (lv_at hl 0 rfl) ?_
  refine lv_iconst (v := 2) hx hb dL_law_336 (by decide) ?_
  refine lv_iadd hx hb dL_law_337 ?_
  refine lv_topi (fun f2 ef2 => ?_)
  obtain rfl : f2 = nI (6 * j + 2) := ef2.trans (nI_add (6 * j) 2)
  refine va_sld hx hb hX hbl hbA hS q2 dL_law_338 ?_
  refine cx_holds C0 hA hN hK hST (xs ((nI (6 * j + 1)) : Int32).toNatClampNeg) (xs ((nI (6 * j + 2)) : Int32).toNatClampNeg) q3 q4 hZS.svhi hXS hP1 hP2 hD1 hap hS hl (fun r3 W1 H locs hr1 hXS hP1 hP2 hD1 hap hS => ?_)
  refine lv_aload_n hx hb dL_law_342 rfl (lv_at hl 1 rfl) ?_
  refine lv_aload_n hx hb dL_law_343 rfl (lv_at hl 3 rfl) ?_
  refine lv_iload_n hx hb dL_law_344 rfl (lv_at hl 0 rfl) ?_
  refine lv_iconst (v := 1) hx hb dL_law_345 (by decide) ?_
  refine lv_iadd hx hb dL_law_346 ?_
  refine lv_topi (fun f4 ef4 => ?_)
  obtain rfl : f4 = nI (6 * j + 1) := ef4.trans (nI_add (6 * j) 1)
  refine va_sld hx hb hX hbl hbA hS q1 dL_law_347 ?_
  refine lv_aload_n hx hb dL_law_348 rfl (lv_at hl 3 rfl) ?_
  refine lv_iload_n hx hb dL_law_349 rfl (lv_at hl 0 rfl) ?_
  refine lv_iconst (v := 2) hx hb dL_law_350 (by decide) ?_
  refine lv_iadd hx hb dL_law_351 ?_
  refine lv_topi (fun f5 ef5 => ?_)
  obtain rfl : f5 = nI (6 * j + 2) := ef5.trans (nI_add (6 * j) 2)
  refine va_sld hx hb hX hbl hbA hS q2 dL_law_352 ?_
  refine cz_holds C0 hA hN hK hST (xs ((nI (6 * j + 1)) : Int32).toNatClampNeg) (xs ((nI (6 * j + 2)) : Int32).toNatClampNeg) r3 q5 hZS hP2 hP1 hD2 hap.sy hS hl (fun r6 W2 H locs hr2 hZS hP2 hP1 hD2 hap hS => ?_)
  have hap := hap.sy
  have hXS := hXS.imp (Q := PS _ _ (T + 1) _ _ _ _ _ _) (fun x0 x2 x5 x6 x8 x7 x9 x10 K L M h => h)
  refine lv_icmp_eq (tgt := 1695) hx hb dL_law_356 (by decide) (fun _ => ?_) (fun h => absurd (hr1.trans hr2.symm) h)
  exact kk H locs _ _ q6 q7 ⟨_, _, (T + 1), _, _, _, _, _, _, _, _, q8, hXS, hZS, hP1, hP2, hD1, hD2, hap⟩ hS
set_option maxHeartbeats 4000000 in
set_option maxRecDepth 100000 in
theorem law_c5 {p : Program} {l : Launch} {e : Env} {s : State} {m : MethodId} {below : List Frame} {meth : Method} {c : Code} {b Ln : Nat} {xs : Nat → Int32} (C0 : lw_At p s m meth c b Ln xs) {D : va_G} {cy : Nat → ClassId} {A : Nat → Prop} (hA : ∀ q, s.heap.size ≤ q → A q) (hA2 : ∀ q, A q → s.heap.size ≤ q) (hbA : ¬ A b) (hN : NW s) (hK : va_K D vwCl (tysC cy) s) (hST : STAT A s) {xa za : Nat} {j : Nat} {H : Heap} {locs : List Loc} {cells slots : Nat} {ls : Array Slot} (hj : 6 * j + 6 ≤ Ln) (hLn : Ln ≤ 3072) (hc : cells + 720 ≤ 600000) (hs : slots + 4320 ≤ 7302250) (hLS : LSt D cy A xa za j H) (hS : va_S A s.heap H locs) (hl : lv_has ls 4 [(3, .int (nI (6 * j))), (2, .ref za), (1, .ref xa), (0, .ref b)]) (kk : ∀ (H1 : Heap) (locs1 : List Loc) (c1 s1 : Nat), c1 ≤ cells + 720 → s1 ≤ slots + 4320 → LSt D cy A xa za (j + 1) H1 → va_S A s.heap H1 locs1 → W p l e room_1 s m #[Value.ref b] below meth c H1 locs1 c1 s1 (lw_Z below #[Value.ref b] s) (F0 m 1695 ls [])) : W p l e room_1 s m #[Value.ref b] below meth c H locs cells slots (lw_Z below #[Value.ref b] s) (F0 m 361 ls []) := by
  obtain ⟨hx, hb, hr, hml, hown, hts, hX, hbl, hlocks, hgv⟩ := id C0
  have hg : ∀ w ∈ lw_good, w.before #[Value.ref b] s = true := fun w h => hts w (List.mem_filter.mp h).1
  have hown : s.vm.findClass RL = some m.cls := hown
  obtain ⟨n, n3, T, PK, PT, SX, SY, WH, CA, W1, W2, hT, hXS, hZS, hP1, hP2, hD1, hD2, hap⟩ := hLS
  have q1 := inbN (6 * j + 1) Ln (by omega) (by omega)
  have q2 := inbN (6 * j + 2) Ln (by omega) (by omega)
  have q3 := inbN (6 * j + 3) Ln (by omega) (by omega)
  have q4 := inbN (6 * j + 4) Ln (by omega) (by omega)
  have q5 := inbN (6 * j + 5) Ln (by omega) (by omega)
  have q6 : (cells + 1) ≤ 600000 ∧ (slots + 16) ≤ 7302250 := ⟨by omega, by omega⟩
  have q7 : 0 ≤ T ∧ T ≤ 900000 := ⟨by omega, by omega⟩
  have q8 : ((cells + 1) + 0) ≤ 600000 ∧ ((slots + 16) + 0) ≤ 7302250 := ⟨by omega, by omega⟩
  have q9 : ((cells + 1) + 0) ≤ cells + 720 := by omega
  have q10 : ((slots + 16) + 0) ≤ slots + 4320 := by omega
  have q11 : 0 ≤ (T + 1) ∧ (T + 1) ≤ ((j + 1 : Nat) : Int) := ⟨by omega, by omega⟩
  refine lv_aload_n hx hb dL_law_361 rfl (lv_at hl 2 rfl) ?_
  refine lv_aload_n hx hb dL_law_362 rfl (lv_at hl 3 rfl) ?_
  refine lv_iload_n hx hb dL_law_363 rfl (lv_at hl 0 rfl) ?_
  refine lv_iconst (v := 1) hx hb dL_law_364 (by decide) ?_
  refine lv_iadd hx hb dL_law_365 ?_
  refine lv_topi (fun f1 ef1 => ?_)
  obtain rfl : f1 = nI (6 * j + 1) := ef1.trans (nI_add (6 * j) 1)
  refine va_sld hx hb hX hbl hbA hS q1 dL_law_366 ?_
  refine lv_aload_n hx hb dL_law_367 rfl (lv_at hl 3 rfl) ?_
  refine lv_iload_n hx hb dL_law_368 rfl (lv_at hl 0 rfl) ?_
  refine lv_iconst (v := 2) hx hb dL_law_369 (by decide) ?_
  refine lv_iadd hx hb dL_law_370 ?_
  refine lv_topi (fun f2 ef2 => ?_)
  obtain rfl : f2 = nI (6 * j + 2) := ef2.trans (nI_add (6 * j) 2)
  refine va_sld hx hb hX hbl hbA hS q2 dL_law_371 ?_
  refine lv_aload_n hx hb dL_law_372 rfl (lv_at hl 3 rfl) ?_
  refine lv_iload_n hx hb dL_law_373 rfl (lv_at hl 0 rfl) ?_
  refine lv_iconst (v := 3) hx hb dL_law_374 (by decide) ?_
  refine lv_iadd hx hb dL_law_375 ?_
  refine lv_topi (fun f3 ef3 => ?_)
  obtain rfl : f3 = nI (6 * j + 3) := ef3.trans (nI_add (6 * j) 3)
  refine va_sld hx hb hX hbl hbA hS q3 dL_law_376 ?_
  refine lv_aload_n hx hb dL_law_377 rfl (lv_at hl 3 rfl) ?_
  refine lv_iload_n hx hb dL_law_378 rfl (lv_at hl 0 rfl) ?_
  refine lv_iconst (v := 4) hx hb dL_law_379 (by decide) ?_
  refine lv_iadd hx hb dL_law_380 ?_
  refine lv_topi (fun f4 ef4 => ?_)
  obtain rfl : f4 = nI (6 * j + 4) := ef4.trans (nI_add (6 * j) 4)
  refine va_sld hx hb hX hbl hbA hS q4 dL_law_381 ?_
  refine lv_aload_n hx hb dL_law_382 rfl (lv_at hl 3 rfl) ?_
  refine lv_iload_n hx hb dL_law_383 rfl (lv_at hl 0 rfl) ?_
  refine lv_iconst (v := 5) hx hb dL_law_384 (by decide) ?_
  refine lv_iadd hx hb dL_law_385 ?_
  refine lv_topi (fun f5 ef5 => ?_)
  obtain rfl : f5 = nI (6 * j + 5) := ef5.trans (nI_add (6 * j) 5)
  refine va_sld hx hb hX hbl hbA hS q5 dL_law_386 ?_
  refine lv_if_eq (tgt := 394) hx hb dL_law_387 (by decide) (fun c6 => ?_) (fun c6 => ?_)
  · refine lv_iconst (v := 0) hx hb dL_law_394 (by decide) ?_
    refine cx_join_0 C0 hA hN hK hST (xs ((nI (6 * j + 1)) : Int32).toNatClampNeg) (xs ((nI (6 * j + 2)) : Int32).toNatClampNeg) (xs ((nI (6 * j + 3)) : Int32).toNatClampNeg) (xs ((nI (6 * j + 4)) : Int32).toNatClampNeg) q6 q7 hZS.svhi hXS hP1 hP2 hD1 hap hS hl (fun r7 W1 H locs _hr hXS hP1 hP2 hD1 hap hS => ?_)
    refine lv_pop hx hb dL_law_398 rfl ?_
    refine lv_aload_n hx hb dL_law_399 rfl (lv_at hl 1 rfl) ?_
    refine lv_aload_n hx hb dL_law_400 rfl (lv_at hl 3 rfl) ?_
    refine lv_iload_n hx hb dL_law_401 rfl (lv_at hl 0 rfl) ?_
    refine lv_iconst (v := 1) hx hb dL_law_402 (by decide) ?_
    refine lv_iadd hx hb dL_law_403 ?_
    refine lv_topi (fun f8 ef8 => ?_)
    obtain rfl : f8 = nI (6 * j + 1) := ef8.trans (nI_add (6 * j) 1)
    refine va_sld hx hb hX hbl hbA hS q1 dL_law_404 ?_
    refine lv_aload_n hx hb dL_law_405 rfl (lv_at hl 3 rfl) ?_
    refine lv_iload_n hx hb dL_law_406 rfl (lv_at hl 0 rfl) ?_
    refine lv_iconst (v := 2) hx hb dL_law_407 (by decide) ?_
    refine lv_iadd hx hb dL_law_408 ?_
    refine lv_topi (fun f9 ef9 => ?_)
    obtain rfl : f9 = nI (6 * j + 2) := ef9.trans (nI_add (6 * j) 2)
    refine va_sld hx hb hX hbl hbA hS q2 dL_law_409 ?_
    refine lv_aload_n hx hb dL_law_410 rfl (lv_at hl 3 rfl) ?_
    refine lv_iload_n hx hb dL_law_411 rfl (lv_at hl 0 rfl) ?_
    refine lv_iconst (v := 3) hx hb dL_law_412 (by decide) ?_
    refine lv_iadd hx hb dL_law_413 ?_
    refine lv_topi (fun f10 ef10 => ?_)
    obtain rfl : f10 = nI (6 * j + 3) := ef10.trans (nI_add (6 * j) 3)
    refine va_sld hx hb hX hbl hbA hS q3 dL_law_414 ?_
    refine lv_aload_n hx hb dL_law_415 rfl (lv_at hl 3 rfl) ?_
    refine lv_iload_n hx hb dL_law_416 rfl (lv_at hl 0 rfl) ?_
    refine lv_iconst (v := 4) hx hb dL_law_417 (by decide) ?_
    refine lv_iadd hx hb dL_law_418 ?_
    refine lv_topi (fun f11 ef11 => ?_)
    obtain rfl : f11 = nI (6 * j + 4) := ef11.trans (nI_add (6 * j) 4)
    refine va_sld hx hb hX hbl hbA hS q4 dL_law_419 ?_
    refine lv_aload_n hx hb dL_law_420 rfl (lv_at hl 3 rfl) ?_
    refine lv_iload_n hx hb dL_law_421 rfl (lv_at hl 0 rfl) ?_
    refine lv_iconst (v := 5) hx hb dL_law_422 (by decide) ?_
    refine lv_iadd hx hb dL_law_423 ?_
    refine lv_topi (fun f12 ef12 => ?_)
    obtain rfl : f12 = nI (6 * j + 5) := ef12.trans (nI_add (6 * j) 5)
    refine va_sld hx hb hX hbl hbA hS q5 dL_law_424 ?_
    refine lv_if_eq (tgt := 432) hx hb dL_law_425 (by decide) (fun c13 => ?_) (fun c13 => ?_)
    · refine lv_iconst (v := 0) hx hb dL_law_432 (by decide) ?_
      refine cz_join C0 hA hN hK hST (xs ((nI (6 * j + 1)) : Int32).toNatClampNeg) (xs ((nI (6 * j + 2)) : Int32).toNatClampNeg) (xs ((nI (6 * j + 3)) : Int32).toNatClampNeg) (xs ((nI (6 * j + 4)) : Int32).toNatClampNeg) 0 (Or.inl rfl) q8 hZS hP2 hP1 hD2 hap.sy hS hl (fun r14 W2 H locs _hr hZS hP2 hP1 hD2 hap hS => ?_)
      have hap := hap.sy
      have hXS := hXS.imp (Q := PS _ _ (T + 1) _ _ _ _ _ _) (fun x0 x2 x5 x6 x8 x7 x9 x10 K L M h => h)
      refine lv_pop hx hb dL_law_436 rfl ?_
      refine lv_goto (tgt := 1695) hx hb dL_law_437 (by decide) ?_
      exact kk H locs _ _ q9 q10 ⟨_, _, (T + 1), _, _, _, _, _, _, _, _, q11, hXS, hZS, hP1, hP2, hD1, hD2, hap⟩ hS
    · exact absurd c6 c13
  · refine lv_iconst (v := 1) hx hb dL_law_390 (by decide) ?_
    refine lv_goto (tgt := 395) hx hb dL_law_391 (by decide) ?_
    refine cx_join_1 C0 hA hN hK hST (xs ((nI (6 * j + 1)) : Int32).toNatClampNeg) (xs ((nI (6 * j + 2)) : Int32).toNatClampNeg) (xs ((nI (6 * j + 3)) : Int32).toNatClampNeg) (xs ((nI (6 * j + 4)) : Int32).toNatClampNeg) q6 q7 hZS.svhi hXS hP1 hP2 hD1 hap hS hl (fun r15 W1 H locs _hr hXS hP1 hP2 hD1 hap hS => ?_)
    refine lv_pop hx hb dL_law_398 rfl ?_
    refine lv_aload_n hx hb dL_law_399 rfl (lv_at hl 1 rfl) ?_
    refine lv_aload_n hx hb dL_law_400 rfl (lv_at hl 3 rfl) ?_
    refine lv_iload_n hx hb dL_law_401 rfl (lv_at hl 0 rfl) ?_
    refine lv_iconst (v := 1) hx hb dL_law_402 (by decide) ?_
    refine lv_iadd hx hb dL_law_403 ?_
    refine lv_topi (fun f16 ef16 => ?_)
    obtain rfl : f16 = nI (6 * j + 1) := ef16.trans (nI_add (6 * j) 1)
    refine va_sld hx hb hX hbl hbA hS q1 dL_law_404 ?_
    refine lv_aload_n hx hb dL_law_405 rfl (lv_at hl 3 rfl) ?_
    refine lv_iload_n hx hb dL_law_406 rfl (lv_at hl 0 rfl) ?_
    refine lv_iconst (v := 2) hx hb dL_law_407 (by decide) ?_
    refine lv_iadd hx hb dL_law_408 ?_
    refine lv_topi (fun f17 ef17 => ?_)
    obtain rfl : f17 = nI (6 * j + 2) := ef17.trans (nI_add (6 * j) 2)
    refine va_sld hx hb hX hbl hbA hS q2 dL_law_409 ?_
    refine lv_aload_n hx hb dL_law_410 rfl (lv_at hl 3 rfl) ?_
    refine lv_iload_n hx hb dL_law_411 rfl (lv_at hl 0 rfl) ?_
    refine lv_iconst (v := 3) hx hb dL_law_412 (by decide) ?_
    refine lv_iadd hx hb dL_law_413 ?_
    refine lv_topi (fun f18 ef18 => ?_)
    obtain rfl : f18 = nI (6 * j + 3) := ef18.trans (nI_add (6 * j) 3)
    refine va_sld hx hb hX hbl hbA hS q3 dL_law_414 ?_
    refine lv_aload_n hx hb dL_law_415 rfl (lv_at hl 3 rfl) ?_
    refine lv_iload_n hx hb dL_law_416 rfl (lv_at hl 0 rfl) ?_
    refine lv_iconst (v := 4) hx hb dL_law_417 (by decide) ?_
    refine lv_iadd hx hb dL_law_418 ?_
    refine lv_topi (fun f19 ef19 => ?_)
    obtain rfl : f19 = nI (6 * j + 4) := ef19.trans (nI_add (6 * j) 4)
    refine va_sld hx hb hX hbl hbA hS q4 dL_law_419 ?_
    refine lv_aload_n hx hb dL_law_420 rfl (lv_at hl 3 rfl) ?_
    refine lv_iload_n hx hb dL_law_421 rfl (lv_at hl 0 rfl) ?_
    refine lv_iconst (v := 5) hx hb dL_law_422 (by decide) ?_
    refine lv_iadd hx hb dL_law_423 ?_
    refine lv_topi (fun f20 ef20 => ?_)
    obtain rfl : f20 = nI (6 * j + 5) := ef20.trans (nI_add (6 * j) 5)
    refine va_sld hx hb hX hbl hbA hS q5 dL_law_424 ?_
    refine lv_if_eq (tgt := 432) hx hb dL_law_425 (by decide) (fun c21 => ?_) (fun c21 => ?_)
    · exact absurd c21 c6
    · refine lv_iconst (v := 1) hx hb dL_law_428 (by decide) ?_
      refine lv_goto (tgt := 433) hx hb dL_law_429 (by decide) ?_
      refine cz_join C0 hA hN hK hST (xs ((nI (6 * j + 1)) : Int32).toNatClampNeg) (xs ((nI (6 * j + 2)) : Int32).toNatClampNeg) (xs ((nI (6 * j + 3)) : Int32).toNatClampNeg) (xs ((nI (6 * j + 4)) : Int32).toNatClampNeg) 1 (Or.inr rfl) q8 hZS hP2 hP1 hD2 hap.sy hS hl (fun r22 W2 H locs _hr hZS hP2 hP1 hD2 hap hS => ?_)
      have hap := hap.sy
      have hXS := hXS.imp (Q := PS _ _ (T + 1) _ _ _ _ _ _) (fun x0 x2 x5 x6 x8 x7 x9 x10 K L M h => h)
      refine lv_pop hx hb dL_law_436 rfl ?_
      refine lv_goto (tgt := 1695) hx hb dL_law_437 (by decide) ?_
      exact kk H locs _ _ q9 q10 ⟨_, _, (T + 1), _, _, _, _, _, _, _, _, q11, hXS, hZS, hP1, hP2, hD1, hD2, hap⟩ hS
set_option maxHeartbeats 4000000 in
set_option maxRecDepth 100000 in
theorem law_c6 {p : Program} {l : Launch} {e : Env} {s : State} {m : MethodId} {below : List Frame} {meth : Method} {c : Code} {b Ln : Nat} {xs : Nat → Int32} (C0 : lw_At p s m meth c b Ln xs) {D : va_G} {cy : Nat → ClassId} {A : Nat → Prop} (hA : ∀ q, s.heap.size ≤ q → A q) (hA2 : ∀ q, A q → s.heap.size ≤ q) (hbA : ¬ A b) (hN : NW s) (hK : va_K D vwCl (tysC cy) s) (hST : STAT A s) {xa za : Nat} {j : Nat} {H : Heap} {locs : List Loc} {cells slots : Nat} {ls : Array Slot} (hj : 6 * j + 6 ≤ Ln) (hLn : Ln ≤ 3072) (hc : cells + 720 ≤ 600000) (hs : slots + 4320 ≤ 7302250) (hLS : LSt D cy A xa za j H) (hS : va_S A s.heap H locs) (hl : lv_has ls 4 [(3, .int (nI (6 * j))), (2, .ref za), (1, .ref xa), (0, .ref b)]) (kk : ∀ (H1 : Heap) (locs1 : List Loc) (c1 s1 : Nat), c1 ≤ cells + 720 → s1 ≤ slots + 4320 → LSt D cy A xa za (j + 1) H1 → va_S A s.heap H1 locs1 → W p l e room_1 s m #[Value.ref b] below meth c H1 locs1 c1 s1 (lw_Z below #[Value.ref b] s) (F0 m 1695 ls [])) : W p l e room_1 s m #[Value.ref b] below meth c H locs cells slots (lw_Z below #[Value.ref b] s) (F0 m 440 ls []) := by
  obtain ⟨hx, hb, hr, hml, hown, hts, hX, hbl, hlocks, hgv⟩ := id C0
  have hg : ∀ w ∈ lw_good, w.before #[Value.ref b] s = true := fun w h => hts w (List.mem_filter.mp h).1
  have hown : s.vm.findClass RL = some m.cls := hown
  obtain ⟨n, n3, T, PK, PT, SX, SY, WH, CA, W1, W2, hT, hXS, hZS, hP1, hP2, hD1, hD2, hap⟩ := hLS
  have q1 := inbN (6 * j + 1) Ln (by omega) (by omega)
  have q2 := inbN (6 * j + 2) Ln (by omega) (by omega)
  have q3 := inbN (6 * j + 3) Ln (by omega) (by omega)
  have q4 := inbN (6 * j + 4) Ln (by omega) (by omega)
  have q5 := inbN (6 * j + 5) Ln (by omega) (by omega)
  have q6 : (cells + 0) ≤ 600000 ∧ (slots + 0) ≤ 7302250 := ⟨by omega, by omega⟩
  have q7 : 0 ≤ T ∧ T ≤ 900000 := ⟨by omega, by omega⟩
  have q8 : ((cells + 0) + 0) ≤ 600000 ∧ ((slots + 0) + 0) ≤ 7302250 := ⟨by omega, by omega⟩
  have q9 : ((cells + 0) + 0) ≤ cells + 720 := by omega
  have q10 : ((slots + 0) + 0) ≤ slots + 4320 := by omega
  have q11 : 0 ≤ (T + 1) ∧ (T + 1) ≤ ((j + 1 : Nat) : Int) := ⟨by omega, by omega⟩
  refine lv_aload_n hx hb dL_law_440 rfl (lv_at hl 2 rfl) ?_
  refine lv_aload_n hx hb dL_law_441 rfl (lv_at hl 3 rfl) ?_
  refine lv_iload_n hx hb dL_law_442 rfl (lv_at hl 0 rfl) ?_
  refine lv_iconst (v := 1) hx hb dL_law_443 (by decide) ?_
  refine lv_iadd hx hb dL_law_444 ?_
  refine lv_topi (fun f1 ef1 => ?_)
  obtain rfl : f1 = nI (6 * j + 1) := ef1.trans (nI_add (6 * j) 1)
  refine va_sld hx hb hX hbl hbA hS q1 dL_law_445 ?_
  refine lv_aload_n hx hb dL_law_446 rfl (lv_at hl 3 rfl) ?_
  refine lv_iload_n hx hb dL_law_447 rfl (lv_at hl 0 rfl) ?_
  refine lv_iconst (v := 2) hx hb dL_law_448 (by decide) ?_
  refine lv_iadd hx hb dL_law_449 ?_
  refine lv_topi (fun f2 ef2 => ?_)
  obtain rfl : f2 = nI (6 * j + 2) := ef2.trans (nI_add (6 * j) 2)
  refine va_sld hx hb hX hbl hbA hS q2 dL_law_450 ?_
  refine lv_aload_n hx hb dL_law_451 rfl (lv_at hl 3 rfl) ?_
  refine lv_iload_n hx hb dL_law_452 rfl (lv_at hl 0 rfl) ?_
  refine lv_iconst (v := 3) hx hb dL_law_453 (by decide) ?_
  refine lv_iadd hx hb dL_law_454 ?_
  refine lv_topi (fun f3 ef3 => ?_)
  obtain rfl : f3 = nI (6 * j + 3) := ef3.trans (nI_add (6 * j) 3)
  refine va_sld hx hb hX hbl hbA hS q3 dL_law_455 ?_
  refine lv_aload_n hx hb dL_law_456 rfl (lv_at hl 3 rfl) ?_
  refine lv_iload_n hx hb dL_law_457 rfl (lv_at hl 0 rfl) ?_
  refine lv_iconst (v := 4) hx hb dL_law_458 (by decide) ?_
  refine lv_iadd hx hb dL_law_459 ?_
  refine lv_topi (fun f4 ef4 => ?_)
  obtain rfl : f4 = nI (6 * j + 4) := ef4.trans (nI_add (6 * j) 4)
  refine va_sld hx hb hX hbl hbA hS q4 dL_law_460 ?_
  refine lv_aload_n hx hb dL_law_461 rfl (lv_at hl 3 rfl) ?_
  refine lv_iload_n hx hb dL_law_462 rfl (lv_at hl 0 rfl) ?_
  refine lv_iconst (v := 5) hx hb dL_law_463 (by decide) ?_
  refine lv_iadd hx hb dL_law_464 ?_
  refine lv_topi (fun f5 ef5 => ?_)
  obtain rfl : f5 = nI (6 * j + 5) := ef5.trans (nI_add (6 * j) 5)
  refine va_sld hx hb hX hbl hbA hS q5 dL_law_465 ?_
  refine cx_leave C0 hA hN hK hST (xs ((nI (6 * j + 1)) : Int32).toNatClampNeg) (xs ((nI (6 * j + 2)) : Int32).toNatClampNeg) (xs ((nI (6 * j + 3)) : Int32).toNatClampNeg) (xs ((nI (6 * j + 4)) : Int32).toNatClampNeg) (xs ((nI (6 * j + 5)) : Int32).toNatClampNeg) q6 q7 hZS.svhi hXS hP1 hP2 hD1 hap hS hl (fun r6 W1 H locs _hr hXS hP1 hP2 hD1 hap hS => ?_)
  refine lv_pop hx hb dL_law_469 rfl ?_
  refine lv_aload_n hx hb dL_law_470 rfl (lv_at hl 1 rfl) ?_
  refine lv_aload_n hx hb dL_law_471 rfl (lv_at hl 3 rfl) ?_
  refine lv_iload_n hx hb dL_law_472 rfl (lv_at hl 0 rfl) ?_
  refine lv_iconst (v := 1) hx hb dL_law_473 (by decide) ?_
  refine lv_iadd hx hb dL_law_474 ?_
  refine lv_topi (fun f7 ef7 => ?_)
  obtain rfl : f7 = nI (6 * j + 1) := ef7.trans (nI_add (6 * j) 1)
  refine va_sld hx hb hX hbl hbA hS q1 dL_law_475 ?_
  refine lv_aload_n hx hb dL_law_476 rfl (lv_at hl 3 rfl) ?_
  refine lv_iload_n hx hb dL_law_477 rfl (lv_at hl 0 rfl) ?_
  refine lv_iconst (v := 2) hx hb dL_law_478 (by decide) ?_
  refine lv_iadd hx hb dL_law_479 ?_
  refine lv_topi (fun f8 ef8 => ?_)
  obtain rfl : f8 = nI (6 * j + 2) := ef8.trans (nI_add (6 * j) 2)
  refine va_sld hx hb hX hbl hbA hS q2 dL_law_480 ?_
  refine lv_aload_n hx hb dL_law_481 rfl (lv_at hl 3 rfl) ?_
  refine lv_iload_n hx hb dL_law_482 rfl (lv_at hl 0 rfl) ?_
  refine lv_iconst (v := 3) hx hb dL_law_483 (by decide) ?_
  refine lv_iadd hx hb dL_law_484 ?_
  refine lv_topi (fun f9 ef9 => ?_)
  obtain rfl : f9 = nI (6 * j + 3) := ef9.trans (nI_add (6 * j) 3)
  refine va_sld hx hb hX hbl hbA hS q3 dL_law_485 ?_
  refine lv_aload_n hx hb dL_law_486 rfl (lv_at hl 3 rfl) ?_
  refine lv_iload_n hx hb dL_law_487 rfl (lv_at hl 0 rfl) ?_
  refine lv_iconst (v := 4) hx hb dL_law_488 (by decide) ?_
  refine lv_iadd hx hb dL_law_489 ?_
  refine lv_topi (fun f10 ef10 => ?_)
  obtain rfl : f10 = nI (6 * j + 4) := ef10.trans (nI_add (6 * j) 4)
  refine va_sld hx hb hX hbl hbA hS q4 dL_law_490 ?_
  refine lv_aload_n hx hb dL_law_491 rfl (lv_at hl 3 rfl) ?_
  refine lv_iload_n hx hb dL_law_492 rfl (lv_at hl 0 rfl) ?_
  refine lv_iconst (v := 5) hx hb dL_law_493 (by decide) ?_
  refine lv_iadd hx hb dL_law_494 ?_
  refine lv_topi (fun f11 ef11 => ?_)
  obtain rfl : f11 = nI (6 * j + 5) := ef11.trans (nI_add (6 * j) 5)
  refine va_sld hx hb hX hbl hbA hS q5 dL_law_495 ?_
  refine cz_leave C0 hA hN hK hST (xs ((nI (6 * j + 1)) : Int32).toNatClampNeg) (xs ((nI (6 * j + 2)) : Int32).toNatClampNeg) (xs ((nI (6 * j + 3)) : Int32).toNatClampNeg) (xs ((nI (6 * j + 4)) : Int32).toNatClampNeg) (xs ((nI (6 * j + 5)) : Int32).toNatClampNeg) q8 hZS hP2 hP1 hD2 hap.sy hS hl (fun r12 W2 H locs _hr hZS hP2 hP1 hD2 hap hS => ?_)
  have hap := hap.sy
  have hXS := hXS.imp (Q := PS _ _ (T + 1) _ _ _ _ _ _) (fun x0 x2 x5 x6 x8 x7 x9 x10 K L M h => h)
  refine lv_pop hx hb dL_law_499 rfl ?_
  refine lv_goto (tgt := 1695) hx hb dL_law_500 (by decide) ?_
  exact kk H locs _ _ q9 q10 ⟨_, _, (T + 1), _, _, _, _, _, _, _, _, q11, hXS, hZS, hP1, hP2, hD1, hD2, hap⟩ hS
set_option maxHeartbeats 4000000 in
set_option maxRecDepth 100000 in
theorem law_c7 {p : Program} {l : Launch} {e : Env} {s : State} {m : MethodId} {below : List Frame} {meth : Method} {c : Code} {b Ln : Nat} {xs : Nat → Int32} (C0 : lw_At p s m meth c b Ln xs) {D : va_G} {cy : Nat → ClassId} {A : Nat → Prop} (hA : ∀ q, s.heap.size ≤ q → A q) (hA2 : ∀ q, A q → s.heap.size ≤ q) (hbA : ¬ A b) (hN : NW s) (hK : va_K D vwCl (tysC cy) s) (hST : STAT A s) {xa za : Nat} {j : Nat} {H : Heap} {locs : List Loc} {cells slots : Nat} {ls : Array Slot} (hj : 6 * j + 6 ≤ Ln) (hLn : Ln ≤ 3072) (hc : cells + 720 ≤ 600000) (hs : slots + 4320 ≤ 7302250) (hLS : LSt D cy A xa za j H) (hS : va_S A s.heap H locs) (hl : lv_has ls 4 [(3, .int (nI (6 * j))), (2, .ref za), (1, .ref xa), (0, .ref b)]) (kk : ∀ (H1 : Heap) (locs1 : List Loc) (c1 s1 : Nat), c1 ≤ cells + 720 → s1 ≤ slots + 4320 → LSt D cy A xa za (j + 1) H1 → va_S A s.heap H1 locs1 → W p l e room_1 s m #[Value.ref b] below meth c H1 locs1 c1 s1 (lw_Z below #[Value.ref b] s) (F0 m 1695 ls [])) : W p l e room_1 s m #[Value.ref b] below meth c H locs cells slots (lw_Z below #[Value.ref b] s) (F0 m 503 ls []) := by
  obtain ⟨hx, hb, hr, hml, hown, hts, hX, hbl, hlocks, hgv⟩ := id C0
  have hg : ∀ w ∈ lw_good, w.before #[Value.ref b] s = true := fun w h => hts w (List.mem_filter.mp h).1
  have hown : s.vm.findClass RL = some m.cls := hown
  obtain ⟨n, n3, T, PK, PT, SX, SY, WH, CA, W1, W2, hT, hXS, hZS, hP1, hP2, hD1, hD2, hap⟩ := hLS
  have q1 := inbN (6 * j + 1) Ln (by omega) (by omega)
  have q2 := inbN (6 * j + 2) Ln (by omega) (by omega)
  have q3 := inbN (6 * j + 3) Ln (by omega) (by omega)
  have q4 := inbN (6 * j + 4) Ln (by omega) (by omega)
  have q5 : (cells + 1) ≤ 600000 ∧ (slots + 16) ≤ 7302250 := ⟨by omega, by omega⟩
  have q6 : 0 ≤ T ∧ T ≤ 900000 := ⟨by omega, by omega⟩
  have q7 : ((cells + 1) + 0) ≤ 600000 ∧ ((slots + 16) + 0) ≤ 7302250 := ⟨by omega, by omega⟩
  have q8 : ((cells + 1) + 0) ≤ cells + 720 := by omega
  have q9 : ((slots + 16) + 0) ≤ slots + 4320 := by omega
  have q10 : 0 ≤ (T + 1) ∧ (T + 1) ≤ ((j + 1 : Nat) : Int) := ⟨by omega, by omega⟩
  refine lv_aload_n hx hb dL_law_503 rfl (lv_at hl 2 rfl) ?_
  refine lv_aload_n hx hb dL_law_504 rfl (lv_at hl 3 rfl) ?_
  refine lv_iload_n hx hb dL_law_505 rfl (lv_at hl 0 rfl) ?_
  refine lv_iconst (v := 1) hx hb dL_law_506 (by decide) ?_
  refine lv_iadd hx hb dL_law_507 ?_
  refine lv_topi (fun f1 ef1 => ?_)
  obtain rfl : f1 = nI (6 * j + 1) := ef1.trans (nI_add (6 * j) 1)
  refine va_sld hx hb hX hbl hbA hS q1 dL_law_508 ?_
  refine lv_aload_n hx hb dL_law_509 rfl (lv_at hl 3 rfl) ?_
  refine lv_iload_n hx hb dL_law_510 rfl (lv_at hl 0 rfl) ?_
  refine lv_iconst (v := 2) hx hb dL_law_511 (by decide) ?_
  refine lv_iadd hx hb dL_law_512 ?_
  refine lv_topi (fun f2 ef2 => ?_)
  obtain rfl : f2 = nI (6 * j + 2) := ef2.trans (nI_add (6 * j) 2)
  refine va_sld hx hb hX hbl hbA hS q2 dL_law_513 ?_
  refine lv_aload_n hx hb dL_law_514 rfl (lv_at hl 3 rfl) ?_
  refine lv_iload_n hx hb dL_law_515 rfl (lv_at hl 0 rfl) ?_
  refine lv_iconst (v := 3) hx hb dL_law_516 (by decide) ?_
  refine lv_iadd hx hb dL_law_517 ?_
  refine lv_topi (fun f3 ef3 => ?_)
  obtain rfl : f3 = nI (6 * j + 3) := ef3.trans (nI_add (6 * j) 3)
  refine va_sld hx hb hX hbl hbA hS q3 dL_law_518 ?_
  refine lv_aload_n hx hb dL_law_519 rfl (lv_at hl 3 rfl) ?_
  refine lv_iload_n hx hb dL_law_520 rfl (lv_at hl 0 rfl) ?_
  refine lv_iconst (v := 4) hx hb dL_law_521 (by decide) ?_
  refine lv_iadd hx hb dL_law_522 ?_
  refine lv_topi (fun f4 ef4 => ?_)
  obtain rfl : f4 = nI (6 * j + 4) := ef4.trans (nI_add (6 * j) 4)
  refine va_sld hx hb hX hbl hbA hS q4 dL_law_523 ?_
  refine cx_die C0 hA hN hK hST (xs ((nI (6 * j + 1)) : Int32).toNatClampNeg) (xs ((nI (6 * j + 2)) : Int32).toNatClampNeg) (xs ((nI (6 * j + 3)) : Int32).toNatClampNeg) (xs ((nI (6 * j + 4)) : Int32).toNatClampNeg) q5 q6 hZS.svhi hXS hP1 hP2 hD1 hap hS hl (fun r5 W1 H locs _hr hXS hP1 hP2 hD1 hap hS => ?_)
  refine lv_pop hx hb dL_law_527 rfl ?_
  refine lv_aload_n hx hb dL_law_528 rfl (lv_at hl 1 rfl) ?_
  refine lv_aload_n hx hb dL_law_529 rfl (lv_at hl 3 rfl) ?_
  refine lv_iload_n hx hb dL_law_530 rfl (lv_at hl 0 rfl) ?_
  refine lv_iconst (v := 1) hx hb dL_law_531 (by decide) ?_
  refine lv_iadd hx hb dL_law_532 ?_
  refine lv_topi (fun f6 ef6 => ?_)
  obtain rfl : f6 = nI (6 * j + 1) := ef6.trans (nI_add (6 * j) 1)
  refine va_sld hx hb hX hbl hbA hS q1 dL_law_533 ?_
  refine lv_aload_n hx hb dL_law_534 rfl (lv_at hl 3 rfl) ?_
  refine lv_iload_n hx hb dL_law_535 rfl (lv_at hl 0 rfl) ?_
  refine lv_iconst (v := 2) hx hb dL_law_536 (by decide) ?_
  refine lv_iadd hx hb dL_law_537 ?_
  refine lv_topi (fun f7 ef7 => ?_)
  obtain rfl : f7 = nI (6 * j + 2) := ef7.trans (nI_add (6 * j) 2)
  refine va_sld hx hb hX hbl hbA hS q2 dL_law_538 ?_
  refine lv_aload_n hx hb dL_law_539 rfl (lv_at hl 3 rfl) ?_
  refine lv_iload_n hx hb dL_law_540 rfl (lv_at hl 0 rfl) ?_
  refine lv_iconst (v := 3) hx hb dL_law_541 (by decide) ?_
  refine lv_iadd hx hb dL_law_542 ?_
  refine lv_topi (fun f8 ef8 => ?_)
  obtain rfl : f8 = nI (6 * j + 3) := ef8.trans (nI_add (6 * j) 3)
  refine va_sld hx hb hX hbl hbA hS q3 dL_law_543 ?_
  refine lv_aload_n hx hb dL_law_544 rfl (lv_at hl 3 rfl) ?_
  refine lv_iload_n hx hb dL_law_545 rfl (lv_at hl 0 rfl) ?_
  refine lv_iconst (v := 4) hx hb dL_law_546 (by decide) ?_
  refine lv_iadd hx hb dL_law_547 ?_
  refine lv_topi (fun f9 ef9 => ?_)
  obtain rfl : f9 = nI (6 * j + 4) := ef9.trans (nI_add (6 * j) 4)
  refine va_sld hx hb hX hbl hbA hS q4 dL_law_548 ?_
  refine cz_die C0 hA hN hK hST (xs ((nI (6 * j + 1)) : Int32).toNatClampNeg) (xs ((nI (6 * j + 2)) : Int32).toNatClampNeg) (xs ((nI (6 * j + 3)) : Int32).toNatClampNeg) (xs ((nI (6 * j + 4)) : Int32).toNatClampNeg) q7 hZS hP2 hP1 hD2 hap.sy hS hl (fun r10 W2 H locs _hr hZS hP2 hP1 hD2 hap hS => ?_)
  have hap := hap.sy
  have hXS := hXS.imp (Q := PS _ _ (T + 1) _ _ _ _ _ _) (fun x0 x2 x5 x6 x8 x7 x9 x10 K L M h => h)
  refine lv_pop hx hb dL_law_552 rfl ?_
  refine lv_goto (tgt := 1695) hx hb dL_law_553 (by decide) ?_
  exact kk H locs _ _ q8 q9 ⟨_, _, (T + 1), _, _, _, _, _, _, _, _, q10, hXS, hZS, hP1, hP2, hD1, hD2, hap⟩ hS
set_option maxHeartbeats 4000000 in
set_option maxRecDepth 100000 in
theorem law_c8 {p : Program} {l : Launch} {e : Env} {s : State} {m : MethodId} {below : List Frame} {meth : Method} {c : Code} {b Ln : Nat} {xs : Nat → Int32} (C0 : lw_At p s m meth c b Ln xs) {D : va_G} {cy : Nat → ClassId} {A : Nat → Prop} (hA : ∀ q, s.heap.size ≤ q → A q) (hA2 : ∀ q, A q → s.heap.size ≤ q) (hbA : ¬ A b) (hN : NW s) (hK : va_K D vwCl (tysC cy) s) (hST : STAT A s) {xa za : Nat} {j : Nat} {H : Heap} {locs : List Loc} {cells slots : Nat} {ls : Array Slot} (hj : 6 * j + 6 ≤ Ln) (hLn : Ln ≤ 3072) (hc : cells + 720 ≤ 600000) (hs : slots + 4320 ≤ 7302250) (hLS : LSt D cy A xa za j H) (hS : va_S A s.heap H locs) (hl : lv_has ls 4 [(3, .int (nI (6 * j))), (2, .ref za), (1, .ref xa), (0, .ref b)]) (kk : ∀ (H1 : Heap) (locs1 : List Loc) (c1 s1 : Nat), c1 ≤ cells + 720 → s1 ≤ slots + 4320 → LSt D cy A xa za (j + 1) H1 → va_S A s.heap H1 locs1 → W p l e room_1 s m #[Value.ref b] below meth c H1 locs1 c1 s1 (lw_Z below #[Value.ref b] s) (F0 m 1695 ls [])) : W p l e room_1 s m #[Value.ref b] below meth c H locs cells slots (lw_Z below #[Value.ref b] s) (F0 m 556 ls []) := by
  obtain ⟨hx, hb, hr, hml, hown, hts, hX, hbl, hlocks, hgv⟩ := id C0
  have hg : ∀ w ∈ lw_good, w.before #[Value.ref b] s = true := fun w h => hts w (List.mem_filter.mp h).1
  have hown : s.vm.findClass RL = some m.cls := hown
  obtain ⟨n, n3, T, PK, PT, SX, SY, WH, CA, W1, W2, hT, hXS, hZS, hP1, hP2, hD1, hD2, hap⟩ := hLS
  have q1 := inbN (6 * j + 1) Ln (by omega) (by omega)
  have q2 : (cells + 0) ≤ 600000 ∧ (slots + 0) ≤ 7302250 := ⟨by omega, by omega⟩
  have q3 : 0 ≤ T ∧ T ≤ 900000 := ⟨by omega, by omega⟩
  have q4 : ((cells + 0) + 0) ≤ 600000 ∧ ((slots + 0) + 0) ≤ 7302250 := ⟨by omega, by omega⟩
  have q5 : ((cells + 0) + 0) ≤ cells + 720 := by omega
  have q6 : ((slots + 0) + 0) ≤ slots + 4320 := by omega
  have q7 : 0 ≤ (T + 1) ∧ (T + 1) ≤ ((j + 1 : Nat) : Int) := ⟨by omega, by omega⟩
  refine lv_aload_n hx hb dL_law_556 rfl (lv_at hl 2 rfl) ?_
  refine lv_aload_n hx hb dL_law_557 rfl (lv_at hl 3 rfl) ?_
  refine lv_iload_n hx hb dL_law_558 rfl (lv_at hl 0 rfl) ?_
  refine lv_iconst (v := 1) hx hb dL_law_559 (by decide) ?_
  refine lv_iadd hx hb dL_law_560 ?_
  refine lv_topi (fun f1 ef1 => ?_)
  obtain rfl : f1 = nI (6 * j + 1) := ef1.trans (nI_add (6 * j) 1)
  refine va_sld hx hb hX hbl hbA hS q1 dL_law_561 ?_
  refine cx_circle C0 hA hN hK hST (xs ((nI (6 * j + 1)) : Int32).toNatClampNeg) q2 q3 hZS.svhi hXS hP1 hP2 hD1 hap hS hl (fun r2 W1 H locs _hr hXS hP1 hP2 hD1 hap hS => ?_)
  refine lv_pop hx hb dL_law_565 rfl ?_
  refine lv_aload_n hx hb dL_law_566 rfl (lv_at hl 1 rfl) ?_
  refine lv_aload_n hx hb dL_law_567 rfl (lv_at hl 3 rfl) ?_
  refine lv_iload_n hx hb dL_law_568 rfl (lv_at hl 0 rfl) ?_
  refine lv_iconst (v := 1) hx hb dL_law_569 (by decide) ?_
  refine lv_iadd hx hb dL_law_570 ?_
  refine lv_topi (fun f3 ef3 => ?_)
  obtain rfl : f3 = nI (6 * j + 1) := ef3.trans (nI_add (6 * j) 1)
  refine va_sld hx hb hX hbl hbA hS q1 dL_law_571 ?_
  refine cz_circle C0 hA hN hK hST (xs ((nI (6 * j + 1)) : Int32).toNatClampNeg) q4 hZS hP2 hP1 hD2 hap.sy hS hl (fun r4 W2 H locs _hr hZS hP2 hP1 hD2 hap hS => ?_)
  have hap := hap.sy
  have hXS := hXS.imp (Q := PS _ _ (T + 1) _ _ _ _ _ _) (fun x0 x2 x5 x6 x8 x7 x9 x10 K L M h => h)
  refine lv_pop hx hb dL_law_575 rfl ?_
  refine lv_goto (tgt := 1695) hx hb dL_law_576 (by decide) ?_
  exact kk H locs _ _ q5 q6 ⟨_, _, (T + 1), _, _, _, _, _, _, _, _, q7, hXS, hZS, hP1, hP2, hD1, hD2, hap⟩ hS
set_option maxHeartbeats 4000000 in
set_option maxRecDepth 100000 in
theorem law_c9 {p : Program} {l : Launch} {e : Env} {s : State} {m : MethodId} {below : List Frame} {meth : Method} {c : Code} {b Ln : Nat} {xs : Nat → Int32} (C0 : lw_At p s m meth c b Ln xs) {D : va_G} {cy : Nat → ClassId} {A : Nat → Prop} (hA : ∀ q, s.heap.size ≤ q → A q) (hA2 : ∀ q, A q → s.heap.size ≤ q) (hbA : ¬ A b) (hN : NW s) (hK : va_K D vwCl (tysC cy) s) (hST : STAT A s) {xa za : Nat} {j : Nat} {H : Heap} {locs : List Loc} {cells slots : Nat} {ls : Array Slot} (hj : 6 * j + 6 ≤ Ln) (hLn : Ln ≤ 3072) (hc : cells + 720 ≤ 600000) (hs : slots + 4320 ≤ 7302250) (hLS : LSt D cy A xa za j H) (hS : va_S A s.heap H locs) (hl : lv_has ls 4 [(3, .int (nI (6 * j))), (2, .ref za), (1, .ref xa), (0, .ref b)]) (kk : ∀ (H1 : Heap) (locs1 : List Loc) (c1 s1 : Nat), c1 ≤ cells + 720 → s1 ≤ slots + 4320 → LSt D cy A xa za (j + 1) H1 → va_S A s.heap H1 locs1 → W p l e room_1 s m #[Value.ref b] below meth c H1 locs1 c1 s1 (lw_Z below #[Value.ref b] s) (F0 m 1695 ls [])) : W p l e room_1 s m #[Value.ref b] below meth c H locs cells slots (lw_Z below #[Value.ref b] s) (F0 m 579 ls []) := by
  obtain ⟨hx, hb, hr, hml, hown, hts, hX, hbl, hlocks, hgv⟩ := id C0
  have hg : ∀ w ∈ lw_good, w.before #[Value.ref b] s = true := fun w h => hts w (List.mem_filter.mp h).1
  have hown : s.vm.findClass RL = some m.cls := hown
  obtain ⟨n, n3, T, PK, PT, SX, SY, WH, CA, W1, W2, hT, hXS, hZS, hP1, hP2, hD1, hD2, hap⟩ := hLS
  have q1 := inbN (6 * j + 1) Ln (by omega) (by omega)
  have q2 := inbN (6 * j + 2) Ln (by omega) (by omega)
  have q3 : (cells + 2) ≤ 600000 ∧ (slots + 27) ≤ 7302250 := ⟨by omega, by omega⟩
  have q4 : 0 ≤ T ∧ T ≤ 900000 := ⟨by omega, by omega⟩
  have q5 : ((cells + 2) + 0) ≤ 600000 ∧ ((slots + 27) + 0) ≤ 7302250 := ⟨by omega, by omega⟩
  have q6 : ((cells + 2) + 0) ≤ cells + 720 := by omega
  have q7 : ((slots + 27) + 0) ≤ slots + 4320 := by omega
  have q8 : 0 ≤ (T + 1) ∧ (T + 1) ≤ ((j + 1 : Nat) : Int) := ⟨by omega, by omega⟩
  refine lv_aload_n hx hb dL_law_579 rfl (lv_at hl 2 rfl) ?_
  refine lv_aload_n hx hb dL_law_580 rfl (lv_at hl 3 rfl) ?_
  refine lv_iload_n hx hb dL_law_581 rfl (lv_at hl 0 rfl) ?_
  refine lv_iconst (v := 1) hx hb dL_law_582 (by decide) ?_
  refine lv_iadd hx hb dL_law_583 ?_
  refine lv_topi (fun f1 ef1 => ?_)
  obtain rfl : f1 = nI (6 * j + 1) := ef1.trans (nI_add (6 * j) 1)
  refine va_sld hx hb hX hbl hbA hS q1 dL_law_584 ?_
  refine lv_aload_n hx hb dL_law_585 rfl (lv_at hl 3 rfl) ?_
  refine lv_iload_n hx hb dL_law_586 rfl (lv_at hl 0 rfl) ?_
  refine lv_iconst (v := 2) hx hb dL_law_587 (by decide) ?_
  refine lv_iadd hx hb dL_law_588 ?_
  refine lv_topi (fun f2 ef2 => ?_)
  obtain rfl : f2 = nI (6 * j + 2) := ef2.trans (nI_add (6 * j) 2)
  refine va_sld hx hb hX hbl hbA hS q2 dL_law_589 ?_
  refine cx_rule C0 hA hN hK hST (xs ((nI (6 * j + 1)) : Int32).toNatClampNeg) (xs ((nI (6 * j + 2)) : Int32).toNatClampNeg) q3 q4 hZS.svhi hXS hP1 hP2 hD1 hap hS hl (fun r3 W1 H locs _hr hXS hP1 hP2 hD1 hap hS => ?_)
  refine lv_pop hx hb dL_law_593 rfl ?_
  refine lv_aload_n hx hb dL_law_594 rfl (lv_at hl 1 rfl) ?_
  refine lv_aload_n hx hb dL_law_595 rfl (lv_at hl 3 rfl) ?_
  refine lv_iload_n hx hb dL_law_596 rfl (lv_at hl 0 rfl) ?_
  refine lv_iconst (v := 1) hx hb dL_law_597 (by decide) ?_
  refine lv_iadd hx hb dL_law_598 ?_
  refine lv_topi (fun f4 ef4 => ?_)
  obtain rfl : f4 = nI (6 * j + 1) := ef4.trans (nI_add (6 * j) 1)
  refine va_sld hx hb hX hbl hbA hS q1 dL_law_599 ?_
  refine lv_aload_n hx hb dL_law_600 rfl (lv_at hl 3 rfl) ?_
  refine lv_iload_n hx hb dL_law_601 rfl (lv_at hl 0 rfl) ?_
  refine lv_iconst (v := 2) hx hb dL_law_602 (by decide) ?_
  refine lv_iadd hx hb dL_law_603 ?_
  refine lv_topi (fun f5 ef5 => ?_)
  obtain rfl : f5 = nI (6 * j + 2) := ef5.trans (nI_add (6 * j) 2)
  refine va_sld hx hb hX hbl hbA hS q2 dL_law_604 ?_
  refine cz_rule C0 hA hN hK hST (xs ((nI (6 * j + 1)) : Int32).toNatClampNeg) (xs ((nI (6 * j + 2)) : Int32).toNatClampNeg) q5 hZS hP2 hP1 hD2 hap.sy hS hl (fun r6 W2 H locs _hr hZS hP2 hP1 hD2 hap hS => ?_)
  have hap := hap.sy
  obtain ⟨g9, hc9, hZS⟩ := hZS
  have hXS := hXS.imp (Q := PS _ _ (T + 1) _ _ _ _ _ _) (fun x0 x2 x5 x6 x8 x7 x9 x10 K L M h => ⟨h.1 g9 hc9, h.2.1, h.2.2.1, h.2.2.2.1, h.2.2.2.2 g9 hc9⟩)
  refine lv_pop hx hb dL_law_608 rfl ?_
  refine lv_goto (tgt := 1695) hx hb dL_law_609 (by decide) ?_
  exact kk H locs _ _ q6 q7 ⟨_, _, (T + 1), _, _, _, _, _, _, _, _, q8, hXS, hZS, hP1, hP2, hD1, hD2, hap⟩ hS
set_option maxHeartbeats 4000000 in
set_option maxRecDepth 100000 in
theorem law_c10 {p : Program} {l : Launch} {e : Env} {s : State} {m : MethodId} {below : List Frame} {meth : Method} {c : Code} {b Ln : Nat} {xs : Nat → Int32} (C0 : lw_At p s m meth c b Ln xs) {D : va_G} {cy : Nat → ClassId} {A : Nat → Prop} (hA : ∀ q, s.heap.size ≤ q → A q) (hA2 : ∀ q, A q → s.heap.size ≤ q) (hbA : ¬ A b) (hN : NW s) (hK : va_K D vwCl (tysC cy) s) (hST : STAT A s) {xa za : Nat} {j : Nat} {H : Heap} {locs : List Loc} {cells slots : Nat} {ls : Array Slot} (hj : 6 * j + 6 ≤ Ln) (hLn : Ln ≤ 3072) (hc : cells + 720 ≤ 600000) (hs : slots + 4320 ≤ 7302250) (hLS : LSt D cy A xa za j H) (hS : va_S A s.heap H locs) (hl : lv_has ls 4 [(3, .int (nI (6 * j))), (2, .ref za), (1, .ref xa), (0, .ref b)]) (kk : ∀ (H1 : Heap) (locs1 : List Loc) (c1 s1 : Nat), c1 ≤ cells + 720 → s1 ≤ slots + 4320 → LSt D cy A xa za (j + 1) H1 → va_S A s.heap H1 locs1 → W p l e room_1 s m #[Value.ref b] below meth c H1 locs1 c1 s1 (lw_Z below #[Value.ref b] s) (F0 m 1695 ls [])) : W p l e room_1 s m #[Value.ref b] below meth c H locs cells slots (lw_Z below #[Value.ref b] s) (F0 m 612 ls []) := by
  obtain ⟨hx, hb, hr, hml, hown, hts, hX, hbl, hlocks, hgv⟩ := id C0
  have hg : ∀ w ∈ lw_good, w.before #[Value.ref b] s = true := fun w h => hts w (List.mem_filter.mp h).1
  have hown : s.vm.findClass RL = some m.cls := hown
  obtain ⟨n, n3, T, PK, PT, SX, SY, WH, CA, W1, W2, hT, hXS, hZS, hP1, hP2, hD1, hD2, hap⟩ := hLS
  have q1 := inbN (6 * j + 1) Ln (by omega) (by omega)
  have q2 := inbN (6 * j + 2) Ln (by omega) (by omega)
  have q3 := inbN (6 * j + 3) Ln (by omega) (by omega)
  have q4 := inbN (6 * j + 4) Ln (by omega) (by omega)
  have q5 : (cells + 0) ≤ 600000 ∧ (slots + 0) ≤ 7302250 := ⟨by omega, by omega⟩
  have q6 : 0 ≤ T ∧ T ≤ 900000 := ⟨by omega, by omega⟩
  have q7 : ((cells + 0) + 0) ≤ 600000 ∧ ((slots + 0) + 0) ≤ 7302250 := ⟨by omega, by omega⟩
  have q8 : ((cells + 0) + 0) ≤ cells + 720 := by omega
  have q9 : ((slots + 0) + 0) ≤ slots + 4320 := by omega
  have q10 : 0 ≤ (T + 1) ∧ (T + 1) ≤ ((j + 1 : Nat) : Int) := ⟨by omega, by omega⟩
  refine lv_aload_n hx hb dL_law_612 rfl (lv_at hl 2 rfl) ?_
  refine lv_aload_n hx hb dL_law_613 rfl (lv_at hl 3 rfl) ?_
  refine lv_iload_n hx hb dL_law_614 rfl (lv_at hl 0 rfl) ?_
  refine lv_iconst (v := 1) hx hb dL_law_615 (by decide) ?_
  refine lv_iadd hx hb dL_law_616 ?_
  refine lv_topi (fun f1 ef1 => ?_)
  obtain rfl : f1 = nI (6 * j + 1) := ef1.trans (nI_add (6 * j) 1)
  refine va_sld hx hb hX hbl hbA hS q1 dL_law_617 ?_
  refine lv_aload_n hx hb dL_law_618 rfl (lv_at hl 3 rfl) ?_
  refine lv_iload_n hx hb dL_law_619 rfl (lv_at hl 0 rfl) ?_
  refine lv_iconst (v := 2) hx hb dL_law_620 (by decide) ?_
  refine lv_iadd hx hb dL_law_621 ?_
  refine lv_topi (fun f2 ef2 => ?_)
  obtain rfl : f2 = nI (6 * j + 2) := ef2.trans (nI_add (6 * j) 2)
  refine va_sld hx hb hX hbl hbA hS q2 dL_law_622 ?_
  refine lv_aload_n hx hb dL_law_623 rfl (lv_at hl 3 rfl) ?_
  refine lv_iload_n hx hb dL_law_624 rfl (lv_at hl 0 rfl) ?_
  refine lv_iconst (v := 3) hx hb dL_law_625 (by decide) ?_
  refine lv_iadd hx hb dL_law_626 ?_
  refine lv_topi (fun f3 ef3 => ?_)
  obtain rfl : f3 = nI (6 * j + 3) := ef3.trans (nI_add (6 * j) 3)
  refine va_sld hx hb hX hbl hbA hS q3 dL_law_627 ?_
  refine lv_aload_n hx hb dL_law_628 rfl (lv_at hl 3 rfl) ?_
  refine lv_iload_n hx hb dL_law_629 rfl (lv_at hl 0 rfl) ?_
  refine lv_iconst (v := 4) hx hb dL_law_630 (by decide) ?_
  refine lv_iadd hx hb dL_law_631 ?_
  refine lv_topi (fun f4 ef4 => ?_)
  obtain rfl : f4 = nI (6 * j + 4) := ef4.trans (nI_add (6 * j) 4)
  refine va_sld hx hb hX hbl hbA hS q4 dL_law_632 ?_
  refine cx_term C0 hA hN hK hST (xs ((nI (6 * j + 1)) : Int32).toNatClampNeg) (xs ((nI (6 * j + 2)) : Int32).toNatClampNeg) (xs ((nI (6 * j + 3)) : Int32).toNatClampNeg) (xs ((nI (6 * j + 4)) : Int32).toNatClampNeg) q5 q6 hZS.svhi hXS hP1 hP2 hD1 hap hS hl (fun r5 W1 H locs _hr hXS hP1 hP2 hD1 hap hS => ?_)
  refine lv_pop hx hb dL_law_636 rfl ?_
  refine lv_aload_n hx hb dL_law_637 rfl (lv_at hl 1 rfl) ?_
  refine lv_aload_n hx hb dL_law_638 rfl (lv_at hl 3 rfl) ?_
  refine lv_iload_n hx hb dL_law_639 rfl (lv_at hl 0 rfl) ?_
  refine lv_iconst (v := 1) hx hb dL_law_640 (by decide) ?_
  refine lv_iadd hx hb dL_law_641 ?_
  refine lv_topi (fun f6 ef6 => ?_)
  obtain rfl : f6 = nI (6 * j + 1) := ef6.trans (nI_add (6 * j) 1)
  refine va_sld hx hb hX hbl hbA hS q1 dL_law_642 ?_
  refine lv_aload_n hx hb dL_law_643 rfl (lv_at hl 3 rfl) ?_
  refine lv_iload_n hx hb dL_law_644 rfl (lv_at hl 0 rfl) ?_
  refine lv_iconst (v := 2) hx hb dL_law_645 (by decide) ?_
  refine lv_iadd hx hb dL_law_646 ?_
  refine lv_topi (fun f7 ef7 => ?_)
  obtain rfl : f7 = nI (6 * j + 2) := ef7.trans (nI_add (6 * j) 2)
  refine va_sld hx hb hX hbl hbA hS q2 dL_law_647 ?_
  refine lv_aload_n hx hb dL_law_648 rfl (lv_at hl 3 rfl) ?_
  refine lv_iload_n hx hb dL_law_649 rfl (lv_at hl 0 rfl) ?_
  refine lv_iconst (v := 3) hx hb dL_law_650 (by decide) ?_
  refine lv_iadd hx hb dL_law_651 ?_
  refine lv_topi (fun f8 ef8 => ?_)
  obtain rfl : f8 = nI (6 * j + 3) := ef8.trans (nI_add (6 * j) 3)
  refine va_sld hx hb hX hbl hbA hS q3 dL_law_652 ?_
  refine lv_aload_n hx hb dL_law_653 rfl (lv_at hl 3 rfl) ?_
  refine lv_iload_n hx hb dL_law_654 rfl (lv_at hl 0 rfl) ?_
  refine lv_iconst (v := 4) hx hb dL_law_655 (by decide) ?_
  refine lv_iadd hx hb dL_law_656 ?_
  refine lv_topi (fun f9 ef9 => ?_)
  obtain rfl : f9 = nI (6 * j + 4) := ef9.trans (nI_add (6 * j) 4)
  refine va_sld hx hb hX hbl hbA hS q4 dL_law_657 ?_
  refine cz_term C0 hA hN hK hST (xs ((nI (6 * j + 1)) : Int32).toNatClampNeg) (xs ((nI (6 * j + 2)) : Int32).toNatClampNeg) (xs ((nI (6 * j + 3)) : Int32).toNatClampNeg) (xs ((nI (6 * j + 4)) : Int32).toNatClampNeg) q7 hZS hP2 hP1 hD2 hap.sy hS hl (fun r10 W2 H locs _hr hZS hP2 hP1 hD2 hap hS => ?_)
  have hap := hap.sy
  have hXS := hXS.imp (Q := PS _ _ (T + 1) _ _ _ _ _ _) (fun x0 x2 x5 x6 x8 x7 x9 x10 K L M h => h)
  refine lv_pop hx hb dL_law_661 rfl ?_
  refine lv_goto (tgt := 1695) hx hb dL_law_662 (by decide) ?_
  exact kk H locs _ _ q8 q9 ⟨_, _, (T + 1), _, _, _, _, _, _, _, _, q10, hXS, hZS, hP1, hP2, hD1, hD2, hap⟩ hS
set_option maxHeartbeats 4000000 in
set_option maxRecDepth 100000 in
theorem law_c11 {p : Program} {l : Launch} {e : Env} {s : State} {m : MethodId} {below : List Frame} {meth : Method} {c : Code} {b Ln : Nat} {xs : Nat → Int32} (C0 : lw_At p s m meth c b Ln xs) {D : va_G} {cy : Nat → ClassId} {A : Nat → Prop} (hA : ∀ q, s.heap.size ≤ q → A q) (hA2 : ∀ q, A q → s.heap.size ≤ q) (hbA : ¬ A b) (hN : NW s) (hK : va_K D vwCl (tysC cy) s) (hST : STAT A s) {xa za : Nat} {j : Nat} {H : Heap} {locs : List Loc} {cells slots : Nat} {ls : Array Slot} (hj : 6 * j + 6 ≤ Ln) (hLn : Ln ≤ 3072) (hc : cells + 720 ≤ 600000) (hs : slots + 4320 ≤ 7302250) (hLS : LSt D cy A xa za j H) (hS : va_S A s.heap H locs) (hl : lv_has ls 4 [(3, .int (nI (6 * j))), (2, .ref za), (1, .ref xa), (0, .ref b)]) (kk : ∀ (H1 : Heap) (locs1 : List Loc) (c1 s1 : Nat), c1 ≤ cells + 720 → s1 ≤ slots + 4320 → LSt D cy A xa za (j + 1) H1 → va_S A s.heap H1 locs1 → W p l e room_1 s m #[Value.ref b] below meth c H1 locs1 c1 s1 (lw_Z below #[Value.ref b] s) (F0 m 1695 ls [])) : W p l e room_1 s m #[Value.ref b] below meth c H locs cells slots (lw_Z below #[Value.ref b] s) (F0 m 665 ls []) := by
  obtain ⟨hx, hb, hr, hml, hown, hts, hX, hbl, hlocks, hgv⟩ := id C0
  have hg : ∀ w ∈ lw_good, w.before #[Value.ref b] s = true := fun w h => hts w (List.mem_filter.mp h).1
  have hown : s.vm.findClass RL = some m.cls := hown
  obtain ⟨n, n3, T, PK, PT, SX, SY, WH, CA, W1, W2, hT, hXS, hZS, hP1, hP2, hD1, hD2, hap⟩ := hLS
  have q1 := inbN (6 * j + 1) Ln (by omega) (by omega)
  have q2 := inbN (6 * j + 2) Ln (by omega) (by omega)
  have q3 := inbN (6 * j + 3) Ln (by omega) (by omega)
  have q4 := inbN (6 * j + 4) Ln (by omega) (by omega)
  have q5 : (cells + 2) ≤ 600000 ∧ (slots + 9) ≤ 7302250 := ⟨by omega, by omega⟩
  have q6 : 0 ≤ T ∧ T ≤ 900000 := ⟨by omega, by omega⟩
  have q7 : ((cells + 2) + 0) ≤ 600000 ∧ ((slots + 9) + 0) ≤ 7302250 := ⟨by omega, by omega⟩
  have q8 : ((cells + 2) + 0) ≤ cells + 720 := by omega
  have q9 : ((slots + 9) + 0) ≤ slots + 4320 := by omega
  have q10 : 0 ≤ (T + 1) ∧ (T + 1) ≤ ((j + 1 : Nat) : Int) := ⟨by omega, by omega⟩
  refine lv_aload_n hx hb dL_law_665 rfl (lv_at hl 2 rfl) ?_
  refine lv_aload_n hx hb dL_law_666 rfl (lv_at hl 3 rfl) ?_
  refine lv_iload_n hx hb dL_law_667 rfl (lv_at hl 0 rfl) ?_
  refine lv_iconst (v := 1) hx hb dL_law_668 (by decide) ?_
  refine lv_iadd hx hb dL_law_669 ?_
  refine lv_topi (fun f1 ef1 => ?_)
  obtain rfl : f1 = nI (6 * j + 1) := ef1.trans (nI_add (6 * j) 1)
  refine va_sld hx hb hX hbl hbA hS q1 dL_law_670 ?_
  refine lv_aload_n hx hb dL_law_671 rfl (lv_at hl 3 rfl) ?_
  refine lv_iload_n hx hb dL_law_672 rfl (lv_at hl 0 rfl) ?_
  refine lv_iconst (v := 2) hx hb dL_law_673 (by decide) ?_
  refine lv_iadd hx hb dL_law_674 ?_
  refine lv_topi (fun f2 ef2 => ?_)
  obtain rfl : f2 = nI (6 * j + 2) := ef2.trans (nI_add (6 * j) 2)
  refine va_sld hx hb hX hbl hbA hS q2 dL_law_675 ?_
  refine lv_aload_n hx hb dL_law_676 rfl (lv_at hl 3 rfl) ?_
  refine lv_iload_n hx hb dL_law_677 rfl (lv_at hl 0 rfl) ?_
  refine lv_iconst (v := 3) hx hb dL_law_678 (by decide) ?_
  refine lv_iadd hx hb dL_law_679 ?_
  refine lv_topi (fun f3 ef3 => ?_)
  obtain rfl : f3 = nI (6 * j + 3) := ef3.trans (nI_add (6 * j) 3)
  refine va_sld hx hb hX hbl hbA hS q3 dL_law_680 ?_
  refine lv_aload_n hx hb dL_law_681 rfl (lv_at hl 3 rfl) ?_
  refine lv_iload_n hx hb dL_law_682 rfl (lv_at hl 0 rfl) ?_
  refine lv_iconst (v := 4) hx hb dL_law_683 (by decide) ?_
  refine lv_iadd hx hb dL_law_684 ?_
  refine lv_topi (fun f4 ef4 => ?_)
  obtain rfl : f4 = nI (6 * j + 4) := ef4.trans (nI_add (6 * j) 4)
  refine va_sld hx hb hX hbl hbA hS q4 dL_law_685 ?_
  refine cx_leaf C0 hA hN hK hST (xs ((nI (6 * j + 1)) : Int32).toNatClampNeg) (xs ((nI (6 * j + 2)) : Int32).toNatClampNeg) (xs ((nI (6 * j + 3)) : Int32).toNatClampNeg) (xs ((nI (6 * j + 4)) : Int32).toNatClampNeg) q5 q6 hZS.svhi hXS hP1 hP2 hD1 hap hS hl (fun r5 W1 H locs _hr hXS hP1 hP2 hD1 hap hS => ?_)
  refine lv_pop hx hb dL_law_689 rfl ?_
  refine lv_aload_n hx hb dL_law_690 rfl (lv_at hl 1 rfl) ?_
  refine lv_aload_n hx hb dL_law_691 rfl (lv_at hl 3 rfl) ?_
  refine lv_iload_n hx hb dL_law_692 rfl (lv_at hl 0 rfl) ?_
  refine lv_iconst (v := 1) hx hb dL_law_693 (by decide) ?_
  refine lv_iadd hx hb dL_law_694 ?_
  refine lv_topi (fun f6 ef6 => ?_)
  obtain rfl : f6 = nI (6 * j + 1) := ef6.trans (nI_add (6 * j) 1)
  refine va_sld hx hb hX hbl hbA hS q1 dL_law_695 ?_
  refine lv_aload_n hx hb dL_law_696 rfl (lv_at hl 3 rfl) ?_
  refine lv_iload_n hx hb dL_law_697 rfl (lv_at hl 0 rfl) ?_
  refine lv_iconst (v := 2) hx hb dL_law_698 (by decide) ?_
  refine lv_iadd hx hb dL_law_699 ?_
  refine lv_topi (fun f7 ef7 => ?_)
  obtain rfl : f7 = nI (6 * j + 2) := ef7.trans (nI_add (6 * j) 2)
  refine va_sld hx hb hX hbl hbA hS q2 dL_law_700 ?_
  refine lv_aload_n hx hb dL_law_701 rfl (lv_at hl 3 rfl) ?_
  refine lv_iload_n hx hb dL_law_702 rfl (lv_at hl 0 rfl) ?_
  refine lv_iconst (v := 3) hx hb dL_law_703 (by decide) ?_
  refine lv_iadd hx hb dL_law_704 ?_
  refine lv_topi (fun f8 ef8 => ?_)
  obtain rfl : f8 = nI (6 * j + 3) := ef8.trans (nI_add (6 * j) 3)
  refine va_sld hx hb hX hbl hbA hS q3 dL_law_705 ?_
  refine lv_aload_n hx hb dL_law_706 rfl (lv_at hl 3 rfl) ?_
  refine lv_iload_n hx hb dL_law_707 rfl (lv_at hl 0 rfl) ?_
  refine lv_iconst (v := 4) hx hb dL_law_708 (by decide) ?_
  refine lv_iadd hx hb dL_law_709 ?_
  refine lv_topi (fun f9 ef9 => ?_)
  obtain rfl : f9 = nI (6 * j + 4) := ef9.trans (nI_add (6 * j) 4)
  refine va_sld hx hb hX hbl hbA hS q4 dL_law_710 ?_
  refine cz_leaf C0 hA hN hK hST (xs ((nI (6 * j + 1)) : Int32).toNatClampNeg) (xs ((nI (6 * j + 2)) : Int32).toNatClampNeg) (xs ((nI (6 * j + 3)) : Int32).toNatClampNeg) (xs ((nI (6 * j + 4)) : Int32).toNatClampNeg) q7 hZS hP2 hP1 hD2 hap.sy hS hl (fun r10 W2 H locs _hr hZS hP2 hP1 hD2 hap hS => ?_)
  have hap := hap.sy
  have hXS := hXS.imp (Q := PS _ _ (T + 1) _ _ _ _ _ _) (fun x0 x2 x5 x6 x8 x7 x9 x10 K L M h => h)
  refine lv_pop hx hb dL_law_714 rfl ?_
  refine lv_goto (tgt := 1695) hx hb dL_law_715 (by decide) ?_
  exact kk H locs _ _ q8 q9 ⟨_, _, (T + 1), _, _, _, _, _, _, _, _, q10, hXS, hZS, hP1, hP2, hD1, hD2, hap⟩ hS
set_option maxHeartbeats 4000000 in
set_option maxRecDepth 100000 in
theorem law_c12 {p : Program} {l : Launch} {e : Env} {s : State} {m : MethodId} {below : List Frame} {meth : Method} {c : Code} {b Ln : Nat} {xs : Nat → Int32} (C0 : lw_At p s m meth c b Ln xs) {D : va_G} {cy : Nat → ClassId} {A : Nat → Prop} (hA : ∀ q, s.heap.size ≤ q → A q) (hA2 : ∀ q, A q → s.heap.size ≤ q) (hbA : ¬ A b) (hN : NW s) (hK : va_K D vwCl (tysC cy) s) (hST : STAT A s) {xa za : Nat} {j : Nat} {H : Heap} {locs : List Loc} {cells slots : Nat} {ls : Array Slot} (hj : 6 * j + 6 ≤ Ln) (hLn : Ln ≤ 3072) (hc : cells + 720 ≤ 600000) (hs : slots + 4320 ≤ 7302250) (hLS : LSt D cy A xa za j H) (hS : va_S A s.heap H locs) (hl : lv_has ls 4 [(3, .int (nI (6 * j))), (2, .ref za), (1, .ref xa), (0, .ref b)]) (kk : ∀ (H1 : Heap) (locs1 : List Loc) (c1 s1 : Nat), c1 ≤ cells + 720 → s1 ≤ slots + 4320 → LSt D cy A xa za (j + 1) H1 → va_S A s.heap H1 locs1 → W p l e room_1 s m #[Value.ref b] below meth c H1 locs1 c1 s1 (lw_Z below #[Value.ref b] s) (F0 m 1695 ls [])) : W p l e room_1 s m #[Value.ref b] below meth c H locs cells slots (lw_Z below #[Value.ref b] s) (F0 m 718 ls []) := by
  obtain ⟨hx, hb, hr, hml, hown, hts, hX, hbl, hlocks, hgv⟩ := id C0
  have hg : ∀ w ∈ lw_good, w.before #[Value.ref b] s = true := fun w h => hts w (List.mem_filter.mp h).1
  have hown : s.vm.findClass RL = some m.cls := hown
  obtain ⟨n, n3, T, PK, PT, SX, SY, WH, CA, W1, W2, hT, hXS, hZS, hP1, hP2, hD1, hD2, hap⟩ := hLS
  have q1 := inbN (6 * j + 1) Ln (by omega) (by omega)
  have q2 := inbN (6 * j + 2) Ln (by omega) (by omega)
  have q3 : (cells + 0) ≤ 600000 ∧ (slots + 0) ≤ 7302250 := ⟨by omega, by omega⟩
  have q4 : 0 ≤ T ∧ T ≤ 900000 := ⟨by omega, by omega⟩
  have q5 : ((cells + 0) + 0) ≤ 600000 ∧ ((slots + 0) + 0) ≤ 7302250 := ⟨by omega, by omega⟩
  have q6 : ((cells + 0) + 0) ≤ cells + 720 := by omega
  have q7 : ((slots + 0) + 0) ≤ slots + 4320 := by omega
  have q8 : 0 ≤ (T + 1) ∧ (T + 1) ≤ ((j + 1 : Nat) : Int) := ⟨by omega, by omega⟩
  refine lv_aload_n hx hb dL_law_718 rfl (lv_at hl 2 rfl) ?_
  refine lv_aload_n hx hb dL_law_719 rfl (lv_at hl 3 rfl) ?_
  refine lv_iload_n hx hb dL_law_720 rfl (lv_at hl 0 rfl) ?_
  refine lv_iconst (v := 1) hx hb dL_law_721 (by decide) ?_
  refine lv_iadd hx hb dL_law_722 ?_
  refine lv_topi (fun f1 ef1 => ?_)
  obtain rfl : f1 = nI (6 * j + 1) := ef1.trans (nI_add (6 * j) 1)
  refine va_sld hx hb hX hbl hbA hS q1 dL_law_723 ?_
  refine lv_aload_n hx hb dL_law_724 rfl (lv_at hl 3 rfl) ?_
  refine lv_iload_n hx hb dL_law_725 rfl (lv_at hl 0 rfl) ?_
  refine lv_iconst (v := 2) hx hb dL_law_726 (by decide) ?_
  refine lv_iadd hx hb dL_law_727 ?_
  refine lv_topi (fun f2 ef2 => ?_)
  obtain rfl : f2 = nI (6 * j + 2) := ef2.trans (nI_add (6 * j) 2)
  refine va_sld hx hb hX hbl hbA hS q2 dL_law_728 ?_
  refine cx_tear C0 hA hN hK hST (xs ((nI (6 * j + 1)) : Int32).toNatClampNeg) (xs ((nI (6 * j + 2)) : Int32).toNatClampNeg) q3 q4 hZS.svhi hXS hP1 hP2 hD1 hap hS hl (fun r3 W1 H locs _hr hXS hP1 hP2 hD1 hap hS => ?_)
  refine lv_pop hx hb dL_law_732 rfl ?_
  refine lv_aload_n hx hb dL_law_733 rfl (lv_at hl 1 rfl) ?_
  refine lv_aload_n hx hb dL_law_734 rfl (lv_at hl 3 rfl) ?_
  refine lv_iload_n hx hb dL_law_735 rfl (lv_at hl 0 rfl) ?_
  refine lv_iconst (v := 1) hx hb dL_law_736 (by decide) ?_
  refine lv_iadd hx hb dL_law_737 ?_
  refine lv_topi (fun f4 ef4 => ?_)
  obtain rfl : f4 = nI (6 * j + 1) := ef4.trans (nI_add (6 * j) 1)
  refine va_sld hx hb hX hbl hbA hS q1 dL_law_738 ?_
  refine lv_aload_n hx hb dL_law_739 rfl (lv_at hl 3 rfl) ?_
  refine lv_iload_n hx hb dL_law_740 rfl (lv_at hl 0 rfl) ?_
  refine lv_iconst (v := 2) hx hb dL_law_741 (by decide) ?_
  refine lv_iadd hx hb dL_law_742 ?_
  refine lv_topi (fun f5 ef5 => ?_)
  obtain rfl : f5 = nI (6 * j + 2) := ef5.trans (nI_add (6 * j) 2)
  refine va_sld hx hb hX hbl hbA hS q2 dL_law_743 ?_
  refine cz_tear C0 hA hN hK hST (xs ((nI (6 * j + 1)) : Int32).toNatClampNeg) (xs ((nI (6 * j + 2)) : Int32).toNatClampNeg) q5 hZS hP2 hP1 hD2 hap.sy hS hl (fun r6 W2 H locs _hr hZS hP2 hP1 hD2 hap hS => ?_)
  have hap := hap.sy
  have hXS := hXS.imp (Q := PS _ _ (T + 1) _ _ _ _ _ _) (fun x0 x2 x5 x6 x8 x7 x9 x10 K L M h => h)
  refine lv_pop hx hb dL_law_747 rfl ?_
  refine lv_goto (tgt := 1695) hx hb dL_law_748 (by decide) ?_
  exact kk H locs _ _ q6 q7 ⟨_, _, (T + 1), _, _, _, _, _, _, _, _, q8, hXS, hZS, hP1, hP2, hD1, hD2, hap⟩ hS
set_option maxHeartbeats 4000000 in
set_option maxRecDepth 100000 in
theorem law_c13 {p : Program} {l : Launch} {e : Env} {s : State} {m : MethodId} {below : List Frame} {meth : Method} {c : Code} {b Ln : Nat} {xs : Nat → Int32} (C0 : lw_At p s m meth c b Ln xs) {D : va_G} {cy : Nat → ClassId} {A : Nat → Prop} (hA : ∀ q, s.heap.size ≤ q → A q) (hA2 : ∀ q, A q → s.heap.size ≤ q) (hbA : ¬ A b) (hN : NW s) (hK : va_K D vwCl (tysC cy) s) (hST : STAT A s) {xa za : Nat} {j : Nat} {H : Heap} {locs : List Loc} {cells slots : Nat} {ls : Array Slot} (hj : 6 * j + 6 ≤ Ln) (hLn : Ln ≤ 3072) (hc : cells + 720 ≤ 600000) (hs : slots + 4320 ≤ 7302250) (hLS : LSt D cy A xa za j H) (hS : va_S A s.heap H locs) (hl : lv_has ls 4 [(3, .int (nI (6 * j))), (2, .ref za), (1, .ref xa), (0, .ref b)]) (kk : ∀ (H1 : Heap) (locs1 : List Loc) (c1 s1 : Nat), c1 ≤ cells + 720 → s1 ≤ slots + 4320 → LSt D cy A xa za (j + 1) H1 → va_S A s.heap H1 locs1 → W p l e room_1 s m #[Value.ref b] below meth c H1 locs1 c1 s1 (lw_Z below #[Value.ref b] s) (F0 m 1695 ls [])) : W p l e room_1 s m #[Value.ref b] below meth c H locs cells slots (lw_Z below #[Value.ref b] s) (F0 m 751 ls []) := by
  obtain ⟨hx, hb, hr, hml, hown, hts, hX, hbl, hlocks, hgv⟩ := id C0
  have hg : ∀ w ∈ lw_good, w.before #[Value.ref b] s = true := fun w h => hts w (List.mem_filter.mp h).1
  have hown : s.vm.findClass RL = some m.cls := hown
  obtain ⟨n, n3, T, PK, PT, SX, SY, WH, CA, W1, W2, hT, hXS, hZS, hP1, hP2, hD1, hD2, hap⟩ := hLS
  have q1 := inbN (6 * j + 1) Ln (by omega) (by omega)
  have q2 := inbN (6 * j + 2) Ln (by omega) (by omega)
  have q3 := inbN (6 * j + 3) Ln (by omega) (by omega)
  have q4 : (cells + 0) ≤ 600000 ∧ (slots + 0) ≤ 7302250 := ⟨by omega, by omega⟩
  have q5 : 0 ≤ T ∧ T ≤ 900000 := ⟨by omega, by omega⟩
  have q6 : ((cells + 0) + 0) ≤ 600000 ∧ ((slots + 0) + 0) ≤ 7302250 := ⟨by omega, by omega⟩
  have q7 : ((cells + 0) + 0) ≤ cells + 720 := by omega
  have q8 : ((slots + 0) + 0) ≤ slots + 4320 := by omega
  have q9 : 0 ≤ (T + 1) ∧ (T + 1) ≤ ((j + 1 : Nat) : Int) := ⟨by omega, by omega⟩
  refine lv_aload_n hx hb dL_law_751 rfl (lv_at hl 2 rfl) ?_
  refine lv_aload_n hx hb dL_law_752 rfl (lv_at hl 3 rfl) ?_
  refine lv_iload_n hx hb dL_law_753 rfl (lv_at hl 0 rfl) ?_
  refine lv_iconst (v := 1) hx hb dL_law_754 (by decide) ?_
  refine lv_iadd hx hb dL_law_755 ?_
  refine lv_topi (fun f1 ef1 => ?_)
  obtain rfl : f1 = nI (6 * j + 1) := ef1.trans (nI_add (6 * j) 1)
  refine va_sld hx hb hX hbl hbA hS q1 dL_law_756 ?_
  refine lv_aload_n hx hb dL_law_757 rfl (lv_at hl 3 rfl) ?_
  refine lv_iload_n hx hb dL_law_758 rfl (lv_at hl 0 rfl) ?_
  refine lv_iconst (v := 2) hx hb dL_law_759 (by decide) ?_
  refine lv_iadd hx hb dL_law_760 ?_
  refine lv_topi (fun f2 ef2 => ?_)
  obtain rfl : f2 = nI (6 * j + 2) := ef2.trans (nI_add (6 * j) 2)
  refine va_sld hx hb hX hbl hbA hS q2 dL_law_761 ?_
  refine lv_aload_n hx hb dL_law_762 rfl (lv_at hl 3 rfl) ?_
  refine lv_iload_n hx hb dL_law_763 rfl (lv_at hl 0 rfl) ?_
  refine lv_iconst (v := 3) hx hb dL_law_764 (by decide) ?_
  refine lv_iadd hx hb dL_law_765 ?_
  refine lv_topi (fun f3 ef3 => ?_)
  obtain rfl : f3 = nI (6 * j + 3) := ef3.trans (nI_add (6 * j) 3)
  refine va_sld hx hb hX hbl hbA hS q3 dL_law_766 ?_
  refine cx_earn C0 hA hN hK hST (xs ((nI (6 * j + 1)) : Int32).toNatClampNeg) (xs ((nI (6 * j + 2)) : Int32).toNatClampNeg) (xs ((nI (6 * j + 3)) : Int32).toNatClampNeg) q4 q5 hZS.svhi hXS hP1 hP2 hD1 hap hS hl (fun r4 W1 H locs _hr hXS hP1 hP2 hD1 hap hS => ?_)
  refine lv_pop hx hb dL_law_770 rfl ?_
  refine lv_aload_n hx hb dL_law_771 rfl (lv_at hl 1 rfl) ?_
  refine lv_aload_n hx hb dL_law_772 rfl (lv_at hl 3 rfl) ?_
  refine lv_iload_n hx hb dL_law_773 rfl (lv_at hl 0 rfl) ?_
  refine lv_iconst (v := 1) hx hb dL_law_774 (by decide) ?_
  refine lv_iadd hx hb dL_law_775 ?_
  refine lv_topi (fun f5 ef5 => ?_)
  obtain rfl : f5 = nI (6 * j + 1) := ef5.trans (nI_add (6 * j) 1)
  refine va_sld hx hb hX hbl hbA hS q1 dL_law_776 ?_
  refine lv_aload_n hx hb dL_law_777 rfl (lv_at hl 3 rfl) ?_
  refine lv_iload_n hx hb dL_law_778 rfl (lv_at hl 0 rfl) ?_
  refine lv_iconst (v := 2) hx hb dL_law_779 (by decide) ?_
  refine lv_iadd hx hb dL_law_780 ?_
  refine lv_topi (fun f6 ef6 => ?_)
  obtain rfl : f6 = nI (6 * j + 2) := ef6.trans (nI_add (6 * j) 2)
  refine va_sld hx hb hX hbl hbA hS q2 dL_law_781 ?_
  refine lv_aload_n hx hb dL_law_782 rfl (lv_at hl 3 rfl) ?_
  refine lv_iload_n hx hb dL_law_783 rfl (lv_at hl 0 rfl) ?_
  refine lv_iconst (v := 3) hx hb dL_law_784 (by decide) ?_
  refine lv_iadd hx hb dL_law_785 ?_
  refine lv_topi (fun f7 ef7 => ?_)
  obtain rfl : f7 = nI (6 * j + 3) := ef7.trans (nI_add (6 * j) 3)
  refine va_sld hx hb hX hbl hbA hS q3 dL_law_786 ?_
  refine cz_earn C0 hA hN hK hST (xs ((nI (6 * j + 1)) : Int32).toNatClampNeg) (xs ((nI (6 * j + 2)) : Int32).toNatClampNeg) (xs ((nI (6 * j + 3)) : Int32).toNatClampNeg) q6 hZS hP2 hP1 hD2 hap.sy hS hl (fun r8 W2 H locs _hr hZS hP2 hP1 hD2 hap hS => ?_)
  have hap := hap.sy
  obtain ⟨n9, l9, hc9, hZS⟩ := hZS
  have hXS := hXS.imp (Q := PS _ _ (T + 1) _ _ _ _ _ _) (fun x0 x2 x5 x6 x8 x7 x9 x10 K L M h => ⟨h.1 n9 l9 hc9, h.2.1, h.2.2.1, h.2.2.2.1, h.2.2.2.2 n9 l9 hc9⟩)
  refine lv_pop hx hb dL_law_790 rfl ?_
  refine lv_goto (tgt := 1695) hx hb dL_law_791 (by decide) ?_
  exact kk H locs _ _ q7 q8 ⟨_, _, (T + 1), _, _, _, _, _, _, _, _, q9, hXS, hZS, hP1, hP2, hD1, hD2, hap⟩ hS
set_option maxHeartbeats 4000000 in
set_option maxRecDepth 100000 in
theorem law_c14 {p : Program} {l : Launch} {e : Env} {s : State} {m : MethodId} {below : List Frame} {meth : Method} {c : Code} {b Ln : Nat} {xs : Nat → Int32} (C0 : lw_At p s m meth c b Ln xs) {D : va_G} {cy : Nat → ClassId} {A : Nat → Prop} (hA : ∀ q, s.heap.size ≤ q → A q) (hA2 : ∀ q, A q → s.heap.size ≤ q) (hbA : ¬ A b) (hN : NW s) (hK : va_K D vwCl (tysC cy) s) (hST : STAT A s) {xa za : Nat} {j : Nat} {H : Heap} {locs : List Loc} {cells slots : Nat} {ls : Array Slot} (hj : 6 * j + 6 ≤ Ln) (hLn : Ln ≤ 3072) (hc : cells + 720 ≤ 600000) (hs : slots + 4320 ≤ 7302250) (hLS : LSt D cy A xa za j H) (hS : va_S A s.heap H locs) (hl : lv_has ls 4 [(3, .int (nI (6 * j))), (2, .ref za), (1, .ref xa), (0, .ref b)]) (kk : ∀ (H1 : Heap) (locs1 : List Loc) (c1 s1 : Nat), c1 ≤ cells + 720 → s1 ≤ slots + 4320 → LSt D cy A xa za (j + 1) H1 → va_S A s.heap H1 locs1 → W p l e room_1 s m #[Value.ref b] below meth c H1 locs1 c1 s1 (lw_Z below #[Value.ref b] s) (F0 m 1695 ls [])) : W p l e room_1 s m #[Value.ref b] below meth c H locs cells slots (lw_Z below #[Value.ref b] s) (F0 m 794 ls []) := by
  obtain ⟨hx, hb, hr, hml, hown, hts, hX, hbl, hlocks, hgv⟩ := id C0
  have hg : ∀ w ∈ lw_good, w.before #[Value.ref b] s = true := fun w h => hts w (List.mem_filter.mp h).1
  have hown : s.vm.findClass RL = some m.cls := hown
  obtain ⟨n, n3, T, PK, PT, SX, SY, WH, CA, W1, W2, hT, hXS, hZS, hP1, hP2, hD1, hD2, hap⟩ := hLS
  have q1 := inbN (6 * j + 1) Ln (by omega) (by omega)
  have q2 := inbN (6 * j + 2) Ln (by omega) (by omega)
  have q3 := inbN (6 * j + 3) Ln (by omega) (by omega)
  have q4 : (cells + 0) ≤ 600000 ∧ (slots + 0) ≤ 7302250 := ⟨by omega, by omega⟩
  have q5 : 0 ≤ T ∧ T ≤ 900000 := ⟨by omega, by omega⟩
  have q6 : ((cells + 0) + 0) ≤ 600000 ∧ ((slots + 0) + 0) ≤ 7302250 := ⟨by omega, by omega⟩
  have q7 : ((cells + 0) + 0) ≤ cells + 720 := by omega
  have q8 : ((slots + 0) + 0) ≤ slots + 4320 := by omega
  have q9 : 0 ≤ (T + 1) ∧ (T + 1) ≤ ((j + 1 : Nat) : Int) := ⟨by omega, by omega⟩
  refine lv_aload_n hx hb dL_law_794 rfl (lv_at hl 2 rfl) ?_
  refine lv_aload_n hx hb dL_law_795 rfl (lv_at hl 3 rfl) ?_
  refine lv_iload_n hx hb dL_law_796 rfl (lv_at hl 0 rfl) ?_
  refine lv_iconst (v := 1) hx hb dL_law_797 (by decide) ?_
  refine lv_iadd hx hb dL_law_798 ?_
  refine lv_topi (fun f1 ef1 => ?_)
  obtain rfl : f1 = nI (6 * j + 1) := ef1.trans (nI_add (6 * j) 1)
  refine va_sld hx hb hX hbl hbA hS q1 dL_law_799 ?_
  refine lv_aload_n hx hb dL_law_800 rfl (lv_at hl 3 rfl) ?_
  refine lv_iload_n hx hb dL_law_801 rfl (lv_at hl 0 rfl) ?_
  refine lv_iconst (v := 2) hx hb dL_law_802 (by decide) ?_
  refine lv_iadd hx hb dL_law_803 ?_
  refine lv_topi (fun f2 ef2 => ?_)
  obtain rfl : f2 = nI (6 * j + 2) := ef2.trans (nI_add (6 * j) 2)
  refine va_sld hx hb hX hbl hbA hS q2 dL_law_804 ?_
  refine lv_aload_n hx hb dL_law_805 rfl (lv_at hl 3 rfl) ?_
  refine lv_iload_n hx hb dL_law_806 rfl (lv_at hl 0 rfl) ?_
  refine lv_iconst (v := 3) hx hb dL_law_807 (by decide) ?_
  refine lv_iadd hx hb dL_law_808 ?_
  refine lv_topi (fun f3 ef3 => ?_)
  obtain rfl : f3 = nI (6 * j + 3) := ef3.trans (nI_add (6 * j) 3)
  refine va_sld hx hb hX hbl hbA hS q3 dL_law_809 ?_
  refine cx_spend C0 hA hN hK hST (xs ((nI (6 * j + 1)) : Int32).toNatClampNeg) (xs ((nI (6 * j + 2)) : Int32).toNatClampNeg) (xs ((nI (6 * j + 3)) : Int32).toNatClampNeg) q4 q5 hZS.svhi hXS hP1 hP2 hD1 hap hS hl (fun r4 W1 H locs _hr hXS hP1 hP2 hD1 hap hS => ?_)
  refine lv_pop hx hb dL_law_813 rfl ?_
  refine lv_aload_n hx hb dL_law_814 rfl (lv_at hl 1 rfl) ?_
  refine lv_aload_n hx hb dL_law_815 rfl (lv_at hl 3 rfl) ?_
  refine lv_iload_n hx hb dL_law_816 rfl (lv_at hl 0 rfl) ?_
  refine lv_iconst (v := 1) hx hb dL_law_817 (by decide) ?_
  refine lv_iadd hx hb dL_law_818 ?_
  refine lv_topi (fun f5 ef5 => ?_)
  obtain rfl : f5 = nI (6 * j + 1) := ef5.trans (nI_add (6 * j) 1)
  refine va_sld hx hb hX hbl hbA hS q1 dL_law_819 ?_
  refine lv_aload_n hx hb dL_law_820 rfl (lv_at hl 3 rfl) ?_
  refine lv_iload_n hx hb dL_law_821 rfl (lv_at hl 0 rfl) ?_
  refine lv_iconst (v := 2) hx hb dL_law_822 (by decide) ?_
  refine lv_iadd hx hb dL_law_823 ?_
  refine lv_topi (fun f6 ef6 => ?_)
  obtain rfl : f6 = nI (6 * j + 2) := ef6.trans (nI_add (6 * j) 2)
  refine va_sld hx hb hX hbl hbA hS q2 dL_law_824 ?_
  refine lv_aload_n hx hb dL_law_825 rfl (lv_at hl 3 rfl) ?_
  refine lv_iload_n hx hb dL_law_826 rfl (lv_at hl 0 rfl) ?_
  refine lv_iconst (v := 3) hx hb dL_law_827 (by decide) ?_
  refine lv_iadd hx hb dL_law_828 ?_
  refine lv_topi (fun f7 ef7 => ?_)
  obtain rfl : f7 = nI (6 * j + 3) := ef7.trans (nI_add (6 * j) 3)
  refine va_sld hx hb hX hbl hbA hS q3 dL_law_829 ?_
  refine cz_spend C0 hA hN hK hST (xs ((nI (6 * j + 1)) : Int32).toNatClampNeg) (xs ((nI (6 * j + 2)) : Int32).toNatClampNeg) (xs ((nI (6 * j + 3)) : Int32).toNatClampNeg) q6 hZS hP2 hP1 hD2 hap.sy hS hl (fun r8 W2 H locs _hr hZS hP2 hP1 hD2 hap hS => ?_)
  have hap := hap.sy
  obtain ⟨n9, l9, hc9, hZS⟩ := hZS
  have hXS := hXS.imp (Q := PS _ _ (T + 1) _ _ _ _ _ _) (fun x0 x2 x5 x6 x8 x7 x9 x10 K L M h => ⟨h.1 n9 l9 hc9, h.2.1, h.2.2.1, h.2.2.2.1, h.2.2.2.2 n9 l9 hc9⟩)
  refine lv_pop hx hb dL_law_833 rfl ?_
  refine lv_goto (tgt := 1695) hx hb dL_law_834 (by decide) ?_
  exact kk H locs _ _ q7 q8 ⟨_, _, (T + 1), _, _, _, _, _, _, _, _, q9, hXS, hZS, hP1, hP2, hD1, hD2, hap⟩ hS
set_option maxHeartbeats 4000000 in
set_option maxRecDepth 100000 in
theorem law_c15 {p : Program} {l : Launch} {e : Env} {s : State} {m : MethodId} {below : List Frame} {meth : Method} {c : Code} {b Ln : Nat} {xs : Nat → Int32} (C0 : lw_At p s m meth c b Ln xs) {D : va_G} {cy : Nat → ClassId} {A : Nat → Prop} (hA : ∀ q, s.heap.size ≤ q → A q) (hA2 : ∀ q, A q → s.heap.size ≤ q) (hbA : ¬ A b) (hN : NW s) (hK : va_K D vwCl (tysC cy) s) (hST : STAT A s) {xa za : Nat} {j : Nat} {H : Heap} {locs : List Loc} {cells slots : Nat} {ls : Array Slot} (hj : 6 * j + 6 ≤ Ln) (hLn : Ln ≤ 3072) (hc : cells + 720 ≤ 600000) (hs : slots + 4320 ≤ 7302250) (hLS : LSt D cy A xa za j H) (hS : va_S A s.heap H locs) (hl : lv_has ls 4 [(3, .int (nI (6 * j))), (2, .ref za), (1, .ref xa), (0, .ref b)]) (kk : ∀ (H1 : Heap) (locs1 : List Loc) (c1 s1 : Nat), c1 ≤ cells + 720 → s1 ≤ slots + 4320 → LSt D cy A xa za (j + 1) H1 → va_S A s.heap H1 locs1 → W p l e room_1 s m #[Value.ref b] below meth c H1 locs1 c1 s1 (lw_Z below #[Value.ref b] s) (F0 m 1695 ls [])) : W p l e room_1 s m #[Value.ref b] below meth c H locs cells slots (lw_Z below #[Value.ref b] s) (F0 m 837 ls []) := by
  obtain ⟨hx, hb, hr, hml, hown, hts, hX, hbl, hlocks, hgv⟩ := id C0
  have hg : ∀ w ∈ lw_good, w.before #[Value.ref b] s = true := fun w h => hts w (List.mem_filter.mp h).1
  have hown : s.vm.findClass RL = some m.cls := hown
  obtain ⟨n, n3, T, PK, PT, SX, SY, WH, CA, W1, W2, hT, hXS, hZS, hP1, hP2, hD1, hD2, hap⟩ := hLS
  have q1 := inbN (6 * j + 1) Ln (by omega) (by omega)
  have q2 := inbN (6 * j + 2) Ln (by omega) (by omega)
  have q3 : (cells + 0) ≤ 600000 ∧ (slots + 0) ≤ 7302250 := ⟨by omega, by omega⟩
  have q4 : 0 ≤ T ∧ T ≤ 900000 := ⟨by omega, by omega⟩
  have q5 : ((cells + 0) + 0) ≤ 600000 ∧ ((slots + 0) + 0) ≤ 7302250 := ⟨by omega, by omega⟩
  have q6 : ((cells + 0) + 0) ≤ cells + 720 := by omega
  have q7 : ((slots + 0) + 0) ≤ slots + 4320 := by omega
  have q8 : 0 ≤ (T + 1) ∧ (T + 1) ≤ ((j + 1 : Nat) : Int) := ⟨by omega, by omega⟩
  refine lv_aload_n hx hb dL_law_837 rfl (lv_at hl 2 rfl) ?_
  refine lv_aload_n hx hb dL_law_838 rfl (lv_at hl 3 rfl) ?_
  refine lv_iload_n hx hb dL_law_839 rfl (lv_at hl 0 rfl) ?_
  refine lv_iconst (v := 1) hx hb dL_law_840 (by decide) ?_
  refine lv_iadd hx hb dL_law_841 ?_
  refine lv_topi (fun f1 ef1 => ?_)
  obtain rfl : f1 = nI (6 * j + 1) := ef1.trans (nI_add (6 * j) 1)
  refine va_sld hx hb hX hbl hbA hS q1 dL_law_842 ?_
  refine lv_aload_n hx hb dL_law_843 rfl (lv_at hl 3 rfl) ?_
  refine lv_iload_n hx hb dL_law_844 rfl (lv_at hl 0 rfl) ?_
  refine lv_iconst (v := 2) hx hb dL_law_845 (by decide) ?_
  refine lv_iadd hx hb dL_law_846 ?_
  refine lv_topi (fun f2 ef2 => ?_)
  obtain rfl : f2 = nI (6 * j + 2) := ef2.trans (nI_add (6 * j) 2)
  refine va_sld hx hb hX hbl hbA hS q2 dL_law_847 ?_
  refine cx_loose C0 hA hN hK hST (xs ((nI (6 * j + 1)) : Int32).toNatClampNeg) (xs ((nI (6 * j + 2)) : Int32).toNatClampNeg) q3 q4 hZS.svhi hXS hP1 hP2 hD1 hap hS hl (fun r3 W1 H locs hXS hP1 hP2 hD1 hap hS => ?_)
  refine lv_pop hx hb dL_law_851 rfl ?_
  refine lv_aload_n hx hb dL_law_852 rfl (lv_at hl 1 rfl) ?_
  refine lv_aload_n hx hb dL_law_853 rfl (lv_at hl 3 rfl) ?_
  refine lv_iload_n hx hb dL_law_854 rfl (lv_at hl 0 rfl) ?_
  refine lv_iconst (v := 1) hx hb dL_law_855 (by decide) ?_
  refine lv_iadd hx hb dL_law_856 ?_
  refine lv_topi (fun f4 ef4 => ?_)
  obtain rfl : f4 = nI (6 * j + 1) := ef4.trans (nI_add (6 * j) 1)
  refine va_sld hx hb hX hbl hbA hS q1 dL_law_857 ?_
  refine lv_aload_n hx hb dL_law_858 rfl (lv_at hl 3 rfl) ?_
  refine lv_iload_n hx hb dL_law_859 rfl (lv_at hl 0 rfl) ?_
  refine lv_iconst (v := 2) hx hb dL_law_860 (by decide) ?_
  refine lv_iadd hx hb dL_law_861 ?_
  refine lv_topi (fun f5 ef5 => ?_)
  obtain rfl : f5 = nI (6 * j + 2) := ef5.trans (nI_add (6 * j) 2)
  refine va_sld hx hb hX hbl hbA hS q2 dL_law_862 ?_
  refine cz_loose C0 hA hN hK hST (xs ((nI (6 * j + 1)) : Int32).toNatClampNeg) (xs ((nI (6 * j + 2)) : Int32).toNatClampNeg) q5 hZS hP2 hP1 hD2 hap.sy hS hl (fun r6 W2 H locs hZS hP2 hP1 hD2 hap hS => ?_)
  have hap := hap.sy
  have hXS := hXS.imp (Q := PS _ _ (T + 1) _ _ _ _ _ _) (fun x0 x2 x5 x6 x8 x7 x9 x10 K L M h => h)
  refine lv_pop hx hb dL_law_866 rfl ?_
  refine lv_goto (tgt := 1695) hx hb dL_law_867 (by decide) ?_
  exact kk H locs _ _ q6 q7 ⟨_, _, (T + 1), _, _, _, _, _, _, _, _, q8, hXS, hZS, hP1, hP2, hD1, hD2, hap⟩ hS
set_option maxHeartbeats 4000000 in
set_option maxRecDepth 100000 in
theorem law_c16 {p : Program} {l : Launch} {e : Env} {s : State} {m : MethodId} {below : List Frame} {meth : Method} {c : Code} {b Ln : Nat} {xs : Nat → Int32} (C0 : lw_At p s m meth c b Ln xs) {D : va_G} {cy : Nat → ClassId} {A : Nat → Prop} (hA : ∀ q, s.heap.size ≤ q → A q) (hA2 : ∀ q, A q → s.heap.size ≤ q) (hbA : ¬ A b) (hN : NW s) (hK : va_K D vwCl (tysC cy) s) (hST : STAT A s) {xa za : Nat} {j : Nat} {H : Heap} {locs : List Loc} {cells slots : Nat} {ls : Array Slot} (hj : 6 * j + 6 ≤ Ln) (hLn : Ln ≤ 3072) (hc : cells + 720 ≤ 600000) (hs : slots + 4320 ≤ 7302250) (hLS : LSt D cy A xa za j H) (hS : va_S A s.heap H locs) (hl : lv_has ls 4 [(3, .int (nI (6 * j))), (2, .ref za), (1, .ref xa), (0, .ref b)]) (kk : ∀ (H1 : Heap) (locs1 : List Loc) (c1 s1 : Nat), c1 ≤ cells + 720 → s1 ≤ slots + 4320 → LSt D cy A xa za (j + 1) H1 → va_S A s.heap H1 locs1 → W p l e room_1 s m #[Value.ref b] below meth c H1 locs1 c1 s1 (lw_Z below #[Value.ref b] s) (F0 m 1695 ls [])) : W p l e room_1 s m #[Value.ref b] below meth c H locs cells slots (lw_Z below #[Value.ref b] s) (F0 m 870 ls []) := by
  obtain ⟨hx, hb, hr, hml, hown, hts, hX, hbl, hlocks, hgv⟩ := id C0
  have hg : ∀ w ∈ lw_good, w.before #[Value.ref b] s = true := fun w h => hts w (List.mem_filter.mp h).1
  have hown : s.vm.findClass RL = some m.cls := hown
  obtain ⟨n, n3, T, PK, PT, SX, SY, WH, CA, W1, W2, hT, hXS, hZS, hP1, hP2, hD1, hD2, hap⟩ := hLS
  have q1 := inbN (6 * j + 1) Ln (by omega) (by omega)
  have q2 := inbN (6 * j + 2) Ln (by omega) (by omega)
  have q3 := inbN (6 * j + 3) Ln (by omega) (by omega)
  have q4 := inbN (6 * j + 4) Ln (by omega) (by omega)
  have q5 := inbN (6 * j + 5) Ln (by omega) (by omega)
  have q6 : (cells + 0) ≤ 600000 ∧ (slots + 0) ≤ 7302250 := ⟨by omega, by omega⟩
  have q7 : 0 ≤ T ∧ T ≤ 900000 := ⟨by omega, by omega⟩
  have q8 : ((cells + 0) + 0) ≤ 600000 ∧ ((slots + 0) + 0) ≤ 7302250 := ⟨by omega, by omega⟩
  have q9 : ((cells + 0) + 0) ≤ cells + 720 := by omega
  have q10 : ((slots + 0) + 0) ≤ slots + 4320 := by omega
  have q11 : 0 ≤ (T + 1) ∧ (T + 1) ≤ ((j + 1 : Nat) : Int) := ⟨by omega, by omega⟩
  refine lv_aload_n hx hb dL_law_870 rfl (lv_at hl 2 rfl) ?_
  refine lv_aload_n hx hb dL_law_871 rfl (lv_at hl 3 rfl) ?_
  refine lv_iload_n hx hb dL_law_872 rfl (lv_at hl 0 rfl) ?_
  refine lv_iconst (v := 1) hx hb dL_law_873 (by decide) ?_
  refine lv_iadd hx hb dL_law_874 ?_
  refine lv_topi (fun f1 ef1 => ?_)
  obtain rfl : f1 = nI (6 * j + 1) := ef1.trans (nI_add (6 * j) 1)
  refine va_sld hx hb hX hbl hbA hS q1 dL_law_875 ?_
  refine lv_aload_n hx hb dL_law_876 rfl (lv_at hl 3 rfl) ?_
  refine lv_iload_n hx hb dL_law_877 rfl (lv_at hl 0 rfl) ?_
  refine lv_iconst (v := 2) hx hb dL_law_878 (by decide) ?_
  refine lv_iadd hx hb dL_law_879 ?_
  refine lv_topi (fun f2 ef2 => ?_)
  obtain rfl : f2 = nI (6 * j + 2) := ef2.trans (nI_add (6 * j) 2)
  refine va_sld hx hb hX hbl hbA hS q2 dL_law_880 ?_
  refine lv_aload_n hx hb dL_law_881 rfl (lv_at hl 3 rfl) ?_
  refine lv_iload_n hx hb dL_law_882 rfl (lv_at hl 0 rfl) ?_
  refine lv_iconst (v := 3) hx hb dL_law_883 (by decide) ?_
  refine lv_iadd hx hb dL_law_884 ?_
  refine lv_topi (fun f3 ef3 => ?_)
  obtain rfl : f3 = nI (6 * j + 3) := ef3.trans (nI_add (6 * j) 3)
  refine va_sld hx hb hX hbl hbA hS q3 dL_law_885 ?_
  refine lv_aload_n hx hb dL_law_886 rfl (lv_at hl 3 rfl) ?_
  refine lv_iload_n hx hb dL_law_887 rfl (lv_at hl 0 rfl) ?_
  refine lv_iconst (v := 4) hx hb dL_law_888 (by decide) ?_
  refine lv_iadd hx hb dL_law_889 ?_
  refine lv_topi (fun f4 ef4 => ?_)
  obtain rfl : f4 = nI (6 * j + 4) := ef4.trans (nI_add (6 * j) 4)
  refine va_sld hx hb hX hbl hbA hS q4 dL_law_890 ?_
  refine lv_aload_n hx hb dL_law_891 rfl (lv_at hl 3 rfl) ?_
  refine lv_iload_n hx hb dL_law_892 rfl (lv_at hl 0 rfl) ?_
  refine lv_iconst (v := 5) hx hb dL_law_893 (by decide) ?_
  refine lv_iadd hx hb dL_law_894 ?_
  refine lv_topi (fun f5 ef5 => ?_)
  obtain rfl : f5 = nI (6 * j + 5) := ef5.trans (nI_add (6 * j) 5)
  refine va_sld hx hb hX hbl hbA hS q5 dL_law_895 ?_
  refine lv_if_eq (tgt := 903) hx hb dL_law_896 (by decide) (fun c6 => ?_) (fun c6 => ?_)
  · refine lv_iconst (v := 0) hx hb dL_law_903 (by decide) ?_
    refine cx_move C0 hA hN hK hST (xs ((nI (6 * j + 1)) : Int32).toNatClampNeg) (xs ((nI (6 * j + 2)) : Int32).toNatClampNeg) (xs ((nI (6 * j + 3)) : Int32).toNatClampNeg) (xs ((nI (6 * j + 4)) : Int32).toNatClampNeg) 0 (Or.inl rfl) q6 q7 hZS.svhi hXS hP1 hP2 hD1 hap hS hl (fun r7 W1 H locs _hr hXS hP1 hP2 hD1 hap hS => ?_)
    refine lv_pop hx hb dL_law_907 rfl ?_
    refine lv_aload_n hx hb dL_law_908 rfl (lv_at hl 1 rfl) ?_
    refine lv_aload_n hx hb dL_law_909 rfl (lv_at hl 3 rfl) ?_
    refine lv_iload_n hx hb dL_law_910 rfl (lv_at hl 0 rfl) ?_
    refine lv_iconst (v := 1) hx hb dL_law_911 (by decide) ?_
    refine lv_iadd hx hb dL_law_912 ?_
    refine lv_topi (fun f8 ef8 => ?_)
    obtain rfl : f8 = nI (6 * j + 1) := ef8.trans (nI_add (6 * j) 1)
    refine va_sld hx hb hX hbl hbA hS q1 dL_law_913 ?_
    refine lv_aload_n hx hb dL_law_914 rfl (lv_at hl 3 rfl) ?_
    refine lv_iload_n hx hb dL_law_915 rfl (lv_at hl 0 rfl) ?_
    refine lv_iconst (v := 2) hx hb dL_law_916 (by decide) ?_
    refine lv_iadd hx hb dL_law_917 ?_
    refine lv_topi (fun f9 ef9 => ?_)
    obtain rfl : f9 = nI (6 * j + 2) := ef9.trans (nI_add (6 * j) 2)
    refine va_sld hx hb hX hbl hbA hS q2 dL_law_918 ?_
    refine lv_aload_n hx hb dL_law_919 rfl (lv_at hl 3 rfl) ?_
    refine lv_iload_n hx hb dL_law_920 rfl (lv_at hl 0 rfl) ?_
    refine lv_iconst (v := 3) hx hb dL_law_921 (by decide) ?_
    refine lv_iadd hx hb dL_law_922 ?_
    refine lv_topi (fun f10 ef10 => ?_)
    obtain rfl : f10 = nI (6 * j + 3) := ef10.trans (nI_add (6 * j) 3)
    refine va_sld hx hb hX hbl hbA hS q3 dL_law_923 ?_
    refine lv_aload_n hx hb dL_law_924 rfl (lv_at hl 3 rfl) ?_
    refine lv_iload_n hx hb dL_law_925 rfl (lv_at hl 0 rfl) ?_
    refine lv_iconst (v := 4) hx hb dL_law_926 (by decide) ?_
    refine lv_iadd hx hb dL_law_927 ?_
    refine lv_topi (fun f11 ef11 => ?_)
    obtain rfl : f11 = nI (6 * j + 4) := ef11.trans (nI_add (6 * j) 4)
    refine va_sld hx hb hX hbl hbA hS q4 dL_law_928 ?_
    refine lv_aload_n hx hb dL_law_929 rfl (lv_at hl 3 rfl) ?_
    refine lv_iload_n hx hb dL_law_930 rfl (lv_at hl 0 rfl) ?_
    refine lv_iconst (v := 5) hx hb dL_law_931 (by decide) ?_
    refine lv_iadd hx hb dL_law_932 ?_
    refine lv_topi (fun f12 ef12 => ?_)
    obtain rfl : f12 = nI (6 * j + 5) := ef12.trans (nI_add (6 * j) 5)
    refine va_sld hx hb hX hbl hbA hS q5 dL_law_933 ?_
    refine lv_if_eq (tgt := 941) hx hb dL_law_934 (by decide) (fun c13 => ?_) (fun c13 => ?_)
    · refine lv_iconst (v := 0) hx hb dL_law_941 (by decide) ?_
      refine cz_move C0 hA hN hK hST (xs ((nI (6 * j + 1)) : Int32).toNatClampNeg) (xs ((nI (6 * j + 2)) : Int32).toNatClampNeg) (xs ((nI (6 * j + 3)) : Int32).toNatClampNeg) (xs ((nI (6 * j + 4)) : Int32).toNatClampNeg) 0 (Or.inl rfl) q8 hZS hP2 hP1 hD2 hap.sy hS hl (fun r14 W2 H locs _hr hZS hP2 hP1 hD2 hap hS => ?_)
      have hap := hap.sy
      obtain ⟨n9, l9, hc9, hZS⟩ := hZS
      have hXS := hXS.imp (Q := PS _ _ (T + 1) _ _ _ _ _ _) (fun x0 x2 x5 x6 x8 x7 x9 x10 K L M h => ⟨h.1 n9 l9 hc9, h.2.1, h.2.2.1, h.2.2.2.1, h.2.2.2.2 n9 l9 hc9⟩)
      refine lv_pop hx hb dL_law_945 rfl ?_
      refine lv_goto (tgt := 1695) hx hb dL_law_946 (by decide) ?_
      exact kk H locs _ _ q9 q10 ⟨_, _, (T + 1), _, _, _, _, _, _, _, _, q11, hXS, hZS, hP1, hP2, hD1, hD2, hap⟩ hS
    · exact absurd c6 c13
  · refine lv_iconst (v := 1) hx hb dL_law_899 (by decide) ?_
    refine lv_goto (tgt := 904) hx hb dL_law_900 (by decide) ?_
    refine cx_move C0 hA hN hK hST (xs ((nI (6 * j + 1)) : Int32).toNatClampNeg) (xs ((nI (6 * j + 2)) : Int32).toNatClampNeg) (xs ((nI (6 * j + 3)) : Int32).toNatClampNeg) (xs ((nI (6 * j + 4)) : Int32).toNatClampNeg) 1 (Or.inr rfl) q6 q7 hZS.svhi hXS hP1 hP2 hD1 hap hS hl (fun r15 W1 H locs _hr hXS hP1 hP2 hD1 hap hS => ?_)
    refine lv_pop hx hb dL_law_907 rfl ?_
    refine lv_aload_n hx hb dL_law_908 rfl (lv_at hl 1 rfl) ?_
    refine lv_aload_n hx hb dL_law_909 rfl (lv_at hl 3 rfl) ?_
    refine lv_iload_n hx hb dL_law_910 rfl (lv_at hl 0 rfl) ?_
    refine lv_iconst (v := 1) hx hb dL_law_911 (by decide) ?_
    refine lv_iadd hx hb dL_law_912 ?_
    refine lv_topi (fun f16 ef16 => ?_)
    obtain rfl : f16 = nI (6 * j + 1) := ef16.trans (nI_add (6 * j) 1)
    refine va_sld hx hb hX hbl hbA hS q1 dL_law_913 ?_
    refine lv_aload_n hx hb dL_law_914 rfl (lv_at hl 3 rfl) ?_
    refine lv_iload_n hx hb dL_law_915 rfl (lv_at hl 0 rfl) ?_
    refine lv_iconst (v := 2) hx hb dL_law_916 (by decide) ?_
    refine lv_iadd hx hb dL_law_917 ?_
    refine lv_topi (fun f17 ef17 => ?_)
    obtain rfl : f17 = nI (6 * j + 2) := ef17.trans (nI_add (6 * j) 2)
    refine va_sld hx hb hX hbl hbA hS q2 dL_law_918 ?_
    refine lv_aload_n hx hb dL_law_919 rfl (lv_at hl 3 rfl) ?_
    refine lv_iload_n hx hb dL_law_920 rfl (lv_at hl 0 rfl) ?_
    refine lv_iconst (v := 3) hx hb dL_law_921 (by decide) ?_
    refine lv_iadd hx hb dL_law_922 ?_
    refine lv_topi (fun f18 ef18 => ?_)
    obtain rfl : f18 = nI (6 * j + 3) := ef18.trans (nI_add (6 * j) 3)
    refine va_sld hx hb hX hbl hbA hS q3 dL_law_923 ?_
    refine lv_aload_n hx hb dL_law_924 rfl (lv_at hl 3 rfl) ?_
    refine lv_iload_n hx hb dL_law_925 rfl (lv_at hl 0 rfl) ?_
    refine lv_iconst (v := 4) hx hb dL_law_926 (by decide) ?_
    refine lv_iadd hx hb dL_law_927 ?_
    refine lv_topi (fun f19 ef19 => ?_)
    obtain rfl : f19 = nI (6 * j + 4) := ef19.trans (nI_add (6 * j) 4)
    refine va_sld hx hb hX hbl hbA hS q4 dL_law_928 ?_
    refine lv_aload_n hx hb dL_law_929 rfl (lv_at hl 3 rfl) ?_
    refine lv_iload_n hx hb dL_law_930 rfl (lv_at hl 0 rfl) ?_
    refine lv_iconst (v := 5) hx hb dL_law_931 (by decide) ?_
    refine lv_iadd hx hb dL_law_932 ?_
    refine lv_topi (fun f20 ef20 => ?_)
    obtain rfl : f20 = nI (6 * j + 5) := ef20.trans (nI_add (6 * j) 5)
    refine va_sld hx hb hX hbl hbA hS q5 dL_law_933 ?_
    refine lv_if_eq (tgt := 941) hx hb dL_law_934 (by decide) (fun c21 => ?_) (fun c21 => ?_)
    · exact absurd c21 c6
    · refine lv_iconst (v := 1) hx hb dL_law_937 (by decide) ?_
      refine lv_goto (tgt := 942) hx hb dL_law_938 (by decide) ?_
      refine cz_move C0 hA hN hK hST (xs ((nI (6 * j + 1)) : Int32).toNatClampNeg) (xs ((nI (6 * j + 2)) : Int32).toNatClampNeg) (xs ((nI (6 * j + 3)) : Int32).toNatClampNeg) (xs ((nI (6 * j + 4)) : Int32).toNatClampNeg) 1 (Or.inr rfl) q8 hZS hP2 hP1 hD2 hap.sy hS hl (fun r22 W2 H locs _hr hZS hP2 hP1 hD2 hap hS => ?_)
      have hap := hap.sy
      obtain ⟨n9, l9, hc9, hZS⟩ := hZS
      have hXS := hXS.imp (Q := PS _ _ (T + 1) _ _ _ _ _ _) (fun x0 x2 x5 x6 x8 x7 x9 x10 K L M h => ⟨h.1 n9 l9 hc9, h.2.1, h.2.2.1, h.2.2.2.1, h.2.2.2.2 n9 l9 hc9⟩)
      refine lv_pop hx hb dL_law_945 rfl ?_
      refine lv_goto (tgt := 1695) hx hb dL_law_946 (by decide) ?_
      exact kk H locs _ _ q9 q10 ⟨_, _, (T + 1), _, _, _, _, _, _, _, _, q11, hXS, hZS, hP1, hP2, hD1, hD2, hap⟩ hS
set_option maxHeartbeats 4000000 in
set_option maxRecDepth 100000 in
theorem law_c17 {p : Program} {l : Launch} {e : Env} {s : State} {m : MethodId} {below : List Frame} {meth : Method} {c : Code} {b Ln : Nat} {xs : Nat → Int32} (C0 : lw_At p s m meth c b Ln xs) {D : va_G} {cy : Nat → ClassId} {A : Nat → Prop} (hA : ∀ q, s.heap.size ≤ q → A q) (hA2 : ∀ q, A q → s.heap.size ≤ q) (hbA : ¬ A b) (hN : NW s) (hK : va_K D vwCl (tysC cy) s) (hST : STAT A s) {xa za : Nat} {j : Nat} {H : Heap} {locs : List Loc} {cells slots : Nat} {ls : Array Slot} (hj : 6 * j + 6 ≤ Ln) (hLn : Ln ≤ 3072) (hc : cells + 720 ≤ 600000) (hs : slots + 4320 ≤ 7302250) (hLS : LSt D cy A xa za j H) (hS : va_S A s.heap H locs) (hl : lv_has ls 4 [(3, .int (nI (6 * j))), (2, .ref za), (1, .ref xa), (0, .ref b)]) (kk : ∀ (H1 : Heap) (locs1 : List Loc) (c1 s1 : Nat), c1 ≤ cells + 720 → s1 ≤ slots + 4320 → LSt D cy A xa za (j + 1) H1 → va_S A s.heap H1 locs1 → W p l e room_1 s m #[Value.ref b] below meth c H1 locs1 c1 s1 (lw_Z below #[Value.ref b] s) (F0 m 1695 ls [])) : W p l e room_1 s m #[Value.ref b] below meth c H locs cells slots (lw_Z below #[Value.ref b] s) (F0 m 949 ls []) := by
  obtain ⟨hx, hb, hr, hml, hown, hts, hX, hbl, hlocks, hgv⟩ := id C0
  have hg : ∀ w ∈ lw_good, w.before #[Value.ref b] s = true := fun w h => hts w (List.mem_filter.mp h).1
  have hown : s.vm.findClass RL = some m.cls := hown
  obtain ⟨n, n3, T, PK, PT, SX, SY, WH, CA, W1, W2, hT, hXS, hZS, hP1, hP2, hD1, hD2, hap⟩ := hLS
  have q1 := inbN (6 * j + 1) Ln (by omega) (by omega)
  have q2 := inbN (6 * j + 2) Ln (by omega) (by omega)
  have q3 := inbN (6 * j + 3) Ln (by omega) (by omega)
  have q4 := inbN (6 * j + 4) Ln (by omega) (by omega)
  have q5 : (cells + 0) ≤ 600000 ∧ (slots + 0) ≤ 7302250 := ⟨by omega, by omega⟩
  have q6 : 0 ≤ T ∧ T ≤ 900000 := ⟨by omega, by omega⟩
  have q7 : ((cells + 0) + 0) ≤ 600000 ∧ ((slots + 0) + 0) ≤ 7302250 := ⟨by omega, by omega⟩
  have q8 : ((cells + 0) + 0) ≤ cells + 720 := by omega
  have q9 : ((slots + 0) + 0) ≤ slots + 4320 := by omega
  have q10 : 0 ≤ (T + 1) ∧ (T + 1) ≤ ((j + 1 : Nat) : Int) := ⟨by omega, by omega⟩
  refine lv_aload_n hx hb dL_law_949 rfl (lv_at hl 2 rfl) ?_
  refine lv_aload_n hx hb dL_law_950 rfl (lv_at hl 3 rfl) ?_
  refine lv_iload_n hx hb dL_law_951 rfl (lv_at hl 0 rfl) ?_
  refine lv_iconst (v := 1) hx hb dL_law_952 (by decide) ?_
  refine lv_iadd hx hb dL_law_953 ?_
  refine lv_topi (fun f1 ef1 => ?_)
  obtain rfl : f1 = nI (6 * j + 1) := ef1.trans (nI_add (6 * j) 1)
  refine va_sld hx hb hX hbl hbA hS q1 dL_law_954 ?_
  refine lv_aload_n hx hb dL_law_955 rfl (lv_at hl 3 rfl) ?_
  refine lv_iload_n hx hb dL_law_956 rfl (lv_at hl 0 rfl) ?_
  refine lv_iconst (v := 2) hx hb dL_law_957 (by decide) ?_
  refine lv_iadd hx hb dL_law_958 ?_
  refine lv_topi (fun f2 ef2 => ?_)
  obtain rfl : f2 = nI (6 * j + 2) := ef2.trans (nI_add (6 * j) 2)
  refine va_sld hx hb hX hbl hbA hS q2 dL_law_959 ?_
  refine lv_aload_n hx hb dL_law_960 rfl (lv_at hl 3 rfl) ?_
  refine lv_iload_n hx hb dL_law_961 rfl (lv_at hl 0 rfl) ?_
  refine lv_iconst (v := 3) hx hb dL_law_962 (by decide) ?_
  refine lv_iadd hx hb dL_law_963 ?_
  refine lv_topi (fun f3 ef3 => ?_)
  obtain rfl : f3 = nI (6 * j + 3) := ef3.trans (nI_add (6 * j) 3)
  refine va_sld hx hb hX hbl hbA hS q3 dL_law_964 ?_
  refine lv_aload_n hx hb dL_law_965 rfl (lv_at hl 3 rfl) ?_
  refine lv_iload_n hx hb dL_law_966 rfl (lv_at hl 0 rfl) ?_
  refine lv_iconst (v := 4) hx hb dL_law_967 (by decide) ?_
  refine lv_iadd hx hb dL_law_968 ?_
  refine lv_topi (fun f4 ef4 => ?_)
  obtain rfl : f4 = nI (6 * j + 4) := ef4.trans (nI_add (6 * j) 4)
  refine va_sld hx hb hX hbl hbA hS q4 dL_law_969 ?_
  refine lv_if_eq (tgt := 977) hx hb dL_law_970 (by decide) (fun c5 => ?_) (fun c5 => ?_)
  · refine lv_iconst (v := 0) hx hb dL_law_977 (by decide) ?_
    refine cx_lend C0 hA hN hK hST (xs ((nI (6 * j + 1)) : Int32).toNatClampNeg) (xs ((nI (6 * j + 2)) : Int32).toNatClampNeg) (xs ((nI (6 * j + 3)) : Int32).toNatClampNeg) 0 (Or.inl rfl) q5 q6 hZS.svhi hXS hP1 hP2 hD1 hap hS hl (fun r6 W1 H locs _hr hXS hP1 hP2 hD1 hap hS => ?_)
    refine lv_pop hx hb dL_law_981 rfl ?_
    refine lv_aload_n hx hb dL_law_982 rfl (lv_at hl 1 rfl) ?_
    refine lv_aload_n hx hb dL_law_983 rfl (lv_at hl 3 rfl) ?_
    refine lv_iload_n hx hb dL_law_984 rfl (lv_at hl 0 rfl) ?_
    refine lv_iconst (v := 1) hx hb dL_law_985 (by decide) ?_
    refine lv_iadd hx hb dL_law_986 ?_
    refine lv_topi (fun f7 ef7 => ?_)
    obtain rfl : f7 = nI (6 * j + 1) := ef7.trans (nI_add (6 * j) 1)
    refine va_sld hx hb hX hbl hbA hS q1 dL_law_987 ?_
    refine lv_aload_n hx hb dL_law_988 rfl (lv_at hl 3 rfl) ?_
    refine lv_iload_n hx hb dL_law_989 rfl (lv_at hl 0 rfl) ?_
    refine lv_iconst (v := 2) hx hb dL_law_990 (by decide) ?_
    refine lv_iadd hx hb dL_law_991 ?_
    refine lv_topi (fun f8 ef8 => ?_)
    obtain rfl : f8 = nI (6 * j + 2) := ef8.trans (nI_add (6 * j) 2)
    refine va_sld hx hb hX hbl hbA hS q2 dL_law_992 ?_
    refine lv_aload_n hx hb dL_law_993 rfl (lv_at hl 3 rfl) ?_
    refine lv_iload_n hx hb dL_law_994 rfl (lv_at hl 0 rfl) ?_
    refine lv_iconst (v := 3) hx hb dL_law_995 (by decide) ?_
    refine lv_iadd hx hb dL_law_996 ?_
    refine lv_topi (fun f9 ef9 => ?_)
    obtain rfl : f9 = nI (6 * j + 3) := ef9.trans (nI_add (6 * j) 3)
    refine va_sld hx hb hX hbl hbA hS q3 dL_law_997 ?_
    refine lv_aload_n hx hb dL_law_998 rfl (lv_at hl 3 rfl) ?_
    refine lv_iload_n hx hb dL_law_999 rfl (lv_at hl 0 rfl) ?_
    refine lv_iconst (v := 4) hx hb dL_law_1000 (by decide) ?_
    refine lv_iadd hx hb dL_law_1001 ?_
    refine lv_topi (fun f10 ef10 => ?_)
    obtain rfl : f10 = nI (6 * j + 4) := ef10.trans (nI_add (6 * j) 4)
    refine va_sld hx hb hX hbl hbA hS q4 dL_law_1002 ?_
    refine lv_if_eq (tgt := 1010) hx hb dL_law_1003 (by decide) (fun c11 => ?_) (fun c11 => ?_)
    · refine lv_iconst (v := 0) hx hb dL_law_1010 (by decide) ?_
      refine cz_lend C0 hA hN hK hST (xs ((nI (6 * j + 1)) : Int32).toNatClampNeg) (xs ((nI (6 * j + 2)) : Int32).toNatClampNeg) (xs ((nI (6 * j + 3)) : Int32).toNatClampNeg) 0 (Or.inl rfl) q7 hZS hP2 hP1 hD2 hap.sy hS hl (fun r12 W2 H locs _hr hZS hP2 hP1 hD2 hap hS => ?_)
      have hap := hap.sy
      have hXS := hXS.imp (Q := PS _ _ (T + 1) _ _ _ _ _ _) (fun x0 x2 x5 x6 x8 x7 x9 x10 K L M h => h)
      refine lv_pop hx hb dL_law_1014 rfl ?_
      refine lv_goto (tgt := 1695) hx hb dL_law_1015 (by decide) ?_
      exact kk H locs _ _ q8 q9 ⟨_, _, (T + 1), _, _, _, _, _, _, _, _, q10, hXS, hZS, hP1, hP2, hD1, hD2, hap⟩ hS
    · exact absurd c5 c11
  · refine lv_iconst (v := 1) hx hb dL_law_973 (by decide) ?_
    refine lv_goto (tgt := 978) hx hb dL_law_974 (by decide) ?_
    refine cx_lend C0 hA hN hK hST (xs ((nI (6 * j + 1)) : Int32).toNatClampNeg) (xs ((nI (6 * j + 2)) : Int32).toNatClampNeg) (xs ((nI (6 * j + 3)) : Int32).toNatClampNeg) 1 (Or.inr rfl) q5 q6 hZS.svhi hXS hP1 hP2 hD1 hap hS hl (fun r13 W1 H locs _hr hXS hP1 hP2 hD1 hap hS => ?_)
    refine lv_pop hx hb dL_law_981 rfl ?_
    refine lv_aload_n hx hb dL_law_982 rfl (lv_at hl 1 rfl) ?_
    refine lv_aload_n hx hb dL_law_983 rfl (lv_at hl 3 rfl) ?_
    refine lv_iload_n hx hb dL_law_984 rfl (lv_at hl 0 rfl) ?_
    refine lv_iconst (v := 1) hx hb dL_law_985 (by decide) ?_
    refine lv_iadd hx hb dL_law_986 ?_
    refine lv_topi (fun f14 ef14 => ?_)
    obtain rfl : f14 = nI (6 * j + 1) := ef14.trans (nI_add (6 * j) 1)
    refine va_sld hx hb hX hbl hbA hS q1 dL_law_987 ?_
    refine lv_aload_n hx hb dL_law_988 rfl (lv_at hl 3 rfl) ?_
    refine lv_iload_n hx hb dL_law_989 rfl (lv_at hl 0 rfl) ?_
    refine lv_iconst (v := 2) hx hb dL_law_990 (by decide) ?_
    refine lv_iadd hx hb dL_law_991 ?_
    refine lv_topi (fun f15 ef15 => ?_)
    obtain rfl : f15 = nI (6 * j + 2) := ef15.trans (nI_add (6 * j) 2)
    refine va_sld hx hb hX hbl hbA hS q2 dL_law_992 ?_
    refine lv_aload_n hx hb dL_law_993 rfl (lv_at hl 3 rfl) ?_
    refine lv_iload_n hx hb dL_law_994 rfl (lv_at hl 0 rfl) ?_
    refine lv_iconst (v := 3) hx hb dL_law_995 (by decide) ?_
    refine lv_iadd hx hb dL_law_996 ?_
    refine lv_topi (fun f16 ef16 => ?_)
    obtain rfl : f16 = nI (6 * j + 3) := ef16.trans (nI_add (6 * j) 3)
    refine va_sld hx hb hX hbl hbA hS q3 dL_law_997 ?_
    refine lv_aload_n hx hb dL_law_998 rfl (lv_at hl 3 rfl) ?_
    refine lv_iload_n hx hb dL_law_999 rfl (lv_at hl 0 rfl) ?_
    refine lv_iconst (v := 4) hx hb dL_law_1000 (by decide) ?_
    refine lv_iadd hx hb dL_law_1001 ?_
    refine lv_topi (fun f17 ef17 => ?_)
    obtain rfl : f17 = nI (6 * j + 4) := ef17.trans (nI_add (6 * j) 4)
    refine va_sld hx hb hX hbl hbA hS q4 dL_law_1002 ?_
    refine lv_if_eq (tgt := 1010) hx hb dL_law_1003 (by decide) (fun c18 => ?_) (fun c18 => ?_)
    · exact absurd c18 c5
    · refine lv_iconst (v := 1) hx hb dL_law_1006 (by decide) ?_
      refine lv_goto (tgt := 1011) hx hb dL_law_1007 (by decide) ?_
      refine cz_lend C0 hA hN hK hST (xs ((nI (6 * j + 1)) : Int32).toNatClampNeg) (xs ((nI (6 * j + 2)) : Int32).toNatClampNeg) (xs ((nI (6 * j + 3)) : Int32).toNatClampNeg) 1 (Or.inr rfl) q7 hZS hP2 hP1 hD2 hap.sy hS hl (fun r19 W2 H locs _hr hZS hP2 hP1 hD2 hap hS => ?_)
      have hap := hap.sy
      have hXS := hXS.imp (Q := PS _ _ (T + 1) _ _ _ _ _ _) (fun x0 x2 x5 x6 x8 x7 x9 x10 K L M h => h)
      refine lv_pop hx hb dL_law_1014 rfl ?_
      refine lv_goto (tgt := 1695) hx hb dL_law_1015 (by decide) ?_
      exact kk H locs _ _ q8 q9 ⟨_, _, (T + 1), _, _, _, _, _, _, _, _, q10, hXS, hZS, hP1, hP2, hD1, hD2, hap⟩ hS
set_option maxHeartbeats 4000000 in
set_option maxRecDepth 100000 in
theorem law_c18 {p : Program} {l : Launch} {e : Env} {s : State} {m : MethodId} {below : List Frame} {meth : Method} {c : Code} {b Ln : Nat} {xs : Nat → Int32} (C0 : lw_At p s m meth c b Ln xs) {D : va_G} {cy : Nat → ClassId} {A : Nat → Prop} (hA : ∀ q, s.heap.size ≤ q → A q) (hA2 : ∀ q, A q → s.heap.size ≤ q) (hbA : ¬ A b) (hN : NW s) (hK : va_K D vwCl (tysC cy) s) (hST : STAT A s) {xa za : Nat} {j : Nat} {H : Heap} {locs : List Loc} {cells slots : Nat} {ls : Array Slot} (hj : 6 * j + 6 ≤ Ln) (hLn : Ln ≤ 3072) (hc : cells + 720 ≤ 600000) (hs : slots + 4320 ≤ 7302250) (hLS : LSt D cy A xa za j H) (hS : va_S A s.heap H locs) (hl : lv_has ls 4 [(3, .int (nI (6 * j))), (2, .ref za), (1, .ref xa), (0, .ref b)]) (kk : ∀ (H1 : Heap) (locs1 : List Loc) (c1 s1 : Nat), c1 ≤ cells + 720 → s1 ≤ slots + 4320 → LSt D cy A xa za (j + 1) H1 → va_S A s.heap H1 locs1 → W p l e room_1 s m #[Value.ref b] below meth c H1 locs1 c1 s1 (lw_Z below #[Value.ref b] s) (F0 m 1695 ls [])) : W p l e room_1 s m #[Value.ref b] below meth c H locs cells slots (lw_Z below #[Value.ref b] s) (F0 m 1018 ls []) := by
  obtain ⟨hx, hb, hr, hml, hown, hts, hX, hbl, hlocks, hgv⟩ := id C0
  have hg : ∀ w ∈ lw_good, w.before #[Value.ref b] s = true := fun w h => hts w (List.mem_filter.mp h).1
  have hown : s.vm.findClass RL = some m.cls := hown
  obtain ⟨n, n3, T, PK, PT, SX, SY, WH, CA, W1, W2, hT, hXS, hZS, hP1, hP2, hD1, hD2, hap⟩ := hLS
  have q1 := inbN (6 * j + 1) Ln (by omega) (by omega)
  have q2 : (cells + 0) ≤ 600000 ∧ (slots + 0) ≤ 7302250 := ⟨by omega, by omega⟩
  have q3 : 0 ≤ T ∧ T ≤ 900000 := ⟨by omega, by omega⟩
  have q4 : ((cells + 0) + 0) ≤ 600000 ∧ ((slots + 0) + 0) ≤ 7302250 := ⟨by omega, by omega⟩
  have q5 : ((cells + 0) + 0) ≤ cells + 720 := by omega
  have q6 : ((slots + 0) + 0) ≤ slots + 4320 := by omega
  have q7 : 0 ≤ (T + 1) ∧ (T + 1) ≤ ((j + 1 : Nat) : Int) := ⟨by omega, by omega⟩
  refine lv_aload_n hx hb dL_law_1018 rfl (lv_at hl 2 rfl) ?_
  refine lv_aload_n hx hb dL_law_1019 rfl (lv_at hl 3 rfl) ?_
  refine lv_iload_n hx hb dL_law_1020 rfl (lv_at hl 0 rfl) ?_
  refine lv_iconst (v := 1) hx hb dL_law_1021 (by decide) ?_
  refine lv_iadd hx hb dL_law_1022 ?_
  refine lv_topi (fun f1 ef1 => ?_)
  obtain rfl : f1 = nI (6 * j + 1) := ef1.trans (nI_add (6 * j) 1)
  refine va_sld hx hb hX hbl hbA hS q1 dL_law_1023 ?_
  refine cx_undo C0 hA hN hK hST (xs ((nI (6 * j + 1)) : Int32).toNatClampNeg) q2 q3 hZS.svhi hXS hP1 hP2 hD1 hap hS hl (fun r2 W1 H locs _hr hXS hP1 hP2 hD1 hap hS => ?_)
  refine lv_pop hx hb dL_law_1027 rfl ?_
  refine lv_aload_n hx hb dL_law_1028 rfl (lv_at hl 1 rfl) ?_
  refine lv_aload_n hx hb dL_law_1029 rfl (lv_at hl 3 rfl) ?_
  refine lv_iload_n hx hb dL_law_1030 rfl (lv_at hl 0 rfl) ?_
  refine lv_iconst (v := 1) hx hb dL_law_1031 (by decide) ?_
  refine lv_iadd hx hb dL_law_1032 ?_
  refine lv_topi (fun f3 ef3 => ?_)
  obtain rfl : f3 = nI (6 * j + 1) := ef3.trans (nI_add (6 * j) 1)
  refine va_sld hx hb hX hbl hbA hS q1 dL_law_1033 ?_
  refine cz_undo C0 hA hN hK hST (xs ((nI (6 * j + 1)) : Int32).toNatClampNeg) q4 hZS hP2 hP1 hD2 hap.sy hS hl (fun r4 W2 H locs _hr hZS hP2 hP1 hD2 hap hS => ?_)
  have hap := hap.sy
  have hXS := hXS.imp (Q := PS _ _ (T + 1) _ _ _ _ _ _) (fun x0 x2 x5 x6 x8 x7 x9 x10 K L M h => h)
  refine lv_pop hx hb dL_law_1037 rfl ?_
  refine lv_goto (tgt := 1695) hx hb dL_law_1038 (by decide) ?_
  exact kk H locs _ _ q5 q6 ⟨_, _, (T + 1), _, _, _, _, _, _, _, _, q7, hXS, hZS, hP1, hP2, hD1, hD2, hap⟩ hS
set_option maxHeartbeats 4000000 in
set_option maxRecDepth 100000 in
theorem law_c19 {p : Program} {l : Launch} {e : Env} {s : State} {m : MethodId} {below : List Frame} {meth : Method} {c : Code} {b Ln : Nat} {xs : Nat → Int32} (C0 : lw_At p s m meth c b Ln xs) {D : va_G} {cy : Nat → ClassId} {A : Nat → Prop} (hA : ∀ q, s.heap.size ≤ q → A q) (hA2 : ∀ q, A q → s.heap.size ≤ q) (hbA : ¬ A b) (hN : NW s) (hK : va_K D vwCl (tysC cy) s) (hST : STAT A s) {xa za : Nat} {j : Nat} {H : Heap} {locs : List Loc} {cells slots : Nat} {ls : Array Slot} (hj : 6 * j + 6 ≤ Ln) (hLn : Ln ≤ 3072) (hc : cells + 720 ≤ 600000) (hs : slots + 4320 ≤ 7302250) (hLS : LSt D cy A xa za j H) (hS : va_S A s.heap H locs) (hl : lv_has ls 4 [(3, .int (nI (6 * j))), (2, .ref za), (1, .ref xa), (0, .ref b)]) (kk : ∀ (H1 : Heap) (locs1 : List Loc) (c1 s1 : Nat), c1 ≤ cells + 720 → s1 ≤ slots + 4320 → LSt D cy A xa za (j + 1) H1 → va_S A s.heap H1 locs1 → W p l e room_1 s m #[Value.ref b] below meth c H1 locs1 c1 s1 (lw_Z below #[Value.ref b] s) (F0 m 1695 ls [])) : W p l e room_1 s m #[Value.ref b] below meth c H locs cells slots (lw_Z below #[Value.ref b] s) (F0 m 1041 ls []) := by
  obtain ⟨hx, hb, hr, hml, hown, hts, hX, hbl, hlocks, hgv⟩ := id C0
  have hg : ∀ w ∈ lw_good, w.before #[Value.ref b] s = true := fun w h => hts w (List.mem_filter.mp h).1
  have hown : s.vm.findClass RL = some m.cls := hown
  obtain ⟨n, n3, T, PK, PT, SX, SY, WH, CA, W1, W2, hT, hXS, hZS, hP1, hP2, hD1, hD2, hap⟩ := hLS
  have q1 := inbN (6 * j + 1) Ln (by omega) (by omega)
  have q2 := inbN (6 * j + 2) Ln (by omega) (by omega)
  have q3 : (cells + 0) ≤ 600000 ∧ (slots + 0) ≤ 7302250 := ⟨by omega, by omega⟩
  have q4 : 0 ≤ T ∧ T ≤ 900000 := ⟨by omega, by omega⟩
  have q5 : ((cells + 0) + 0) ≤ 600000 ∧ ((slots + 0) + 0) ≤ 7302250 := ⟨by omega, by omega⟩
  have q6 : ((cells + 0) + 0) ≤ cells + 720 := by omega
  have q7 : ((slots + 0) + 0) ≤ slots + 4320 := by omega
  have q8 : 0 ≤ (T + 1) ∧ (T + 1) ≤ ((j + 1 : Nat) : Int) := ⟨by omega, by omega⟩
  refine lv_aload_n hx hb dL_law_1041 rfl (lv_at hl 2 rfl) ?_
  refine lv_aload_n hx hb dL_law_1042 rfl (lv_at hl 3 rfl) ?_
  refine lv_iload_n hx hb dL_law_1043 rfl (lv_at hl 0 rfl) ?_
  refine lv_iconst (v := 1) hx hb dL_law_1044 (by decide) ?_
  refine lv_iadd hx hb dL_law_1045 ?_
  refine lv_topi (fun f1 ef1 => ?_)
  obtain rfl : f1 = nI (6 * j + 1) := ef1.trans (nI_add (6 * j) 1)
  refine va_sld hx hb hX hbl hbA hS q1 dL_law_1046 ?_
  refine lv_aload_n hx hb dL_law_1047 rfl (lv_at hl 3 rfl) ?_
  refine lv_iload_n hx hb dL_law_1048 rfl (lv_at hl 0 rfl) ?_
  refine lv_iconst (v := 2) hx hb dL_law_1049 (by decide) ?_
  refine lv_iadd hx hb dL_law_1050 ?_
  refine lv_topi (fun f2 ef2 => ?_)
  obtain rfl : f2 = nI (6 * j + 2) := ef2.trans (nI_add (6 * j) 2)
  refine va_sld hx hb hX hbl hbA hS q2 dL_law_1051 ?_
  refine cx_end C0 hA hN hK hST (xs ((nI (6 * j + 1)) : Int32).toNatClampNeg) (xs ((nI (6 * j + 2)) : Int32).toNatClampNeg) q3 q4 hZS.svhi hXS hP1 hP2 hD1 hap hS hl (fun r3 W1 H locs _hr hXS hP1 hP2 hD1 hap hS => ?_)
  refine lv_pop hx hb dL_law_1055 rfl ?_
  refine lv_aload_n hx hb dL_law_1056 rfl (lv_at hl 1 rfl) ?_
  refine lv_aload_n hx hb dL_law_1057 rfl (lv_at hl 3 rfl) ?_
  refine lv_iload_n hx hb dL_law_1058 rfl (lv_at hl 0 rfl) ?_
  refine lv_iconst (v := 1) hx hb dL_law_1059 (by decide) ?_
  refine lv_iadd hx hb dL_law_1060 ?_
  refine lv_topi (fun f4 ef4 => ?_)
  obtain rfl : f4 = nI (6 * j + 1) := ef4.trans (nI_add (6 * j) 1)
  refine va_sld hx hb hX hbl hbA hS q1 dL_law_1061 ?_
  refine lv_aload_n hx hb dL_law_1062 rfl (lv_at hl 3 rfl) ?_
  refine lv_iload_n hx hb dL_law_1063 rfl (lv_at hl 0 rfl) ?_
  refine lv_iconst (v := 2) hx hb dL_law_1064 (by decide) ?_
  refine lv_iadd hx hb dL_law_1065 ?_
  refine lv_topi (fun f5 ef5 => ?_)
  obtain rfl : f5 = nI (6 * j + 2) := ef5.trans (nI_add (6 * j) 2)
  refine va_sld hx hb hX hbl hbA hS q2 dL_law_1066 ?_
  refine cz_end C0 hA hN hK hST (xs ((nI (6 * j + 1)) : Int32).toNatClampNeg) (xs ((nI (6 * j + 2)) : Int32).toNatClampNeg) q5 hZS hP2 hP1 hD2 hap.sy hS hl (fun r6 W2 H locs _hr hZS hP2 hP1 hD2 hap hS => ?_)
  have hap := hap.sy
  have hXS := hXS.imp (Q := PS _ _ (T + 1) _ _ _ _ _ _) (fun x0 x2 x5 x6 x8 x7 x9 x10 K L M h => h)
  refine lv_pop hx hb dL_law_1070 rfl ?_
  refine lv_goto (tgt := 1695) hx hb dL_law_1071 (by decide) ?_
  exact kk H locs _ _ q6 q7 ⟨_, _, (T + 1), _, _, _, _, _, _, _, _, q8, hXS, hZS, hP1, hP2, hD1, hD2, hap⟩ hS
set_option maxHeartbeats 4000000 in
set_option maxRecDepth 100000 in
theorem law_c20 {p : Program} {l : Launch} {e : Env} {s : State} {m : MethodId} {below : List Frame} {meth : Method} {c : Code} {b Ln : Nat} {xs : Nat → Int32} (C0 : lw_At p s m meth c b Ln xs) {D : va_G} {cy : Nat → ClassId} {A : Nat → Prop} (hA : ∀ q, s.heap.size ≤ q → A q) (hA2 : ∀ q, A q → s.heap.size ≤ q) (hbA : ¬ A b) (hN : NW s) (hK : va_K D vwCl (tysC cy) s) (hST : STAT A s) {xa za : Nat} {j : Nat} {H : Heap} {locs : List Loc} {cells slots : Nat} {ls : Array Slot} (hj : 6 * j + 6 ≤ Ln) (hLn : Ln ≤ 3072) (hc : cells + 720 ≤ 600000) (hs : slots + 4320 ≤ 7302250) (hLS : LSt D cy A xa za j H) (hS : va_S A s.heap H locs) (hl : lv_has ls 4 [(3, .int (nI (6 * j))), (2, .ref za), (1, .ref xa), (0, .ref b)]) (kk : ∀ (H1 : Heap) (locs1 : List Loc) (c1 s1 : Nat), c1 ≤ cells + 720 → s1 ≤ slots + 4320 → LSt D cy A xa za (j + 1) H1 → va_S A s.heap H1 locs1 → W p l e room_1 s m #[Value.ref b] below meth c H1 locs1 c1 s1 (lw_Z below #[Value.ref b] s) (F0 m 1695 ls [])) : W p l e room_1 s m #[Value.ref b] below meth c H locs cells slots (lw_Z below #[Value.ref b] s) (F0 m 1074 ls []) := by
  obtain ⟨hx, hb, hr, hml, hown, hts, hX, hbl, hlocks, hgv⟩ := id C0
  have hg : ∀ w ∈ lw_good, w.before #[Value.ref b] s = true := fun w h => hts w (List.mem_filter.mp h).1
  have hown : s.vm.findClass RL = some m.cls := hown
  obtain ⟨n, n3, T, PK, PT, SX, SY, WH, CA, W1, W2, hT, hXS, hZS, hP1, hP2, hD1, hD2, hap⟩ := hLS
  have q1 := inbN (6 * j + 1) Ln (by omega) (by omega)
  have q2 : (cells + 720) ≤ 600000 ∧ (slots + 4320) ≤ 7302250 := ⟨by omega, by omega⟩
  have q3 : 0 ≤ T ∧ T ≤ 900000 := ⟨by omega, by omega⟩
  have q4 : ((cells + 720) + 0) ≤ 600000 ∧ ((slots + 4320) + 0) ≤ 7302250 := ⟨by omega, by omega⟩
  have q5 : ((cells + 720) + 0) ≤ cells + 720 := by omega
  have q6 : ((slots + 4320) + 0) ≤ slots + 4320 := by omega
  have q7 : 0 ≤ (T + 1) ∧ (T + 1) ≤ ((j + 1 : Nat) : Int) := ⟨by omega, by omega⟩
  refine lv_aload_n hx hb dL_law_1074 rfl (lv_at hl 2 rfl) ?_
  refine lv_aload_n hx hb dL_law_1075 rfl (lv_at hl 3 rfl) ?_
  refine lv_iload_n hx hb dL_law_1076 rfl (lv_at hl 0 rfl) ?_
  refine lv_iconst (v := 1) hx hb dL_law_1077 (by decide) ?_
  refine lv_iadd hx hb dL_law_1078 ?_
  refine lv_topi (fun f1 ef1 => ?_)
  obtain rfl : f1 = nI (6 * j + 1) := ef1.trans (nI_add (6 * j) 1)
  refine va_sld hx hb hX hbl hbA hS q1 dL_law_1079 ?_
  refine cx_close C0 hA hN hK hST (xs ((nI (6 * j + 1)) : Int32).toNatClampNeg) q2 q3 hZS.svhi hXS hP1 hP2 hD1 hap hS hl (fun r2 W1 H locs _hr hXS hP1 hP2 hD1 hap hS => ?_)
  refine lv_pop hx hb dL_law_1083 rfl ?_
  refine lv_aload_n hx hb dL_law_1084 rfl (lv_at hl 1 rfl) ?_
  refine lv_aload_n hx hb dL_law_1085 rfl (lv_at hl 3 rfl) ?_
  refine lv_iload_n hx hb dL_law_1086 rfl (lv_at hl 0 rfl) ?_
  refine lv_iconst (v := 1) hx hb dL_law_1087 (by decide) ?_
  refine lv_iadd hx hb dL_law_1088 ?_
  refine lv_topi (fun f3 ef3 => ?_)
  obtain rfl : f3 = nI (6 * j + 1) := ef3.trans (nI_add (6 * j) 1)
  refine va_sld hx hb hX hbl hbA hS q1 dL_law_1089 ?_
  refine cz_close C0 hA hN hK hST (xs ((nI (6 * j + 1)) : Int32).toNatClampNeg) q4 hZS hP2 hP1 hD2 hap.sy hS hl (fun r4 W2 H locs _hr hZS hP2 hP1 hD2 hap hS => ?_)
  have hap := hap.sy
  obtain ⟨v5, hv5, hZS⟩ := hZS
  obtain ⟨X9, Y9, hc9, hZS⟩ := hZS
  have hXS := hXS.imp (Q := PS _ _ (T + 1) _ _ _ _ v5 _) (fun x0 x2 x5 x6 x8 x7 x9 x10 K L M h => ⟨h.1 X9 Y9 hc9, h.2.1, h.2.2.1.un hv5, h.2.2.2.1, h.2.2.2.2 X9 Y9 hc9⟩)
  refine lv_pop hx hb dL_law_1093 rfl ?_
  refine lv_goto (tgt := 1695) hx hb dL_law_1094 (by decide) ?_
  exact kk H locs _ _ q5 q6 ⟨_, _, (T + 1), _, _, _, _, _, _, _, _, q7, hXS, hZS, hP1, hP2, hD1, hD2, hap⟩ hS
set_option maxHeartbeats 4000000 in
set_option maxRecDepth 100000 in
theorem law_c21 {p : Program} {l : Launch} {e : Env} {s : State} {m : MethodId} {below : List Frame} {meth : Method} {c : Code} {b Ln : Nat} {xs : Nat → Int32} (C0 : lw_At p s m meth c b Ln xs) {D : va_G} {cy : Nat → ClassId} {A : Nat → Prop} (hA : ∀ q, s.heap.size ≤ q → A q) (hA2 : ∀ q, A q → s.heap.size ≤ q) (hbA : ¬ A b) (hN : NW s) (hK : va_K D vwCl (tysC cy) s) (hST : STAT A s) {xa za : Nat} {j : Nat} {H : Heap} {locs : List Loc} {cells slots : Nat} {ls : Array Slot} (hj : 6 * j + 6 ≤ Ln) (hLn : Ln ≤ 3072) (hc : cells + 720 ≤ 600000) (hs : slots + 4320 ≤ 7302250) (hLS : LSt D cy A xa za j H) (hS : va_S A s.heap H locs) (hl : lv_has ls 4 [(3, .int (nI (6 * j))), (2, .ref za), (1, .ref xa), (0, .ref b)]) (kk : ∀ (H1 : Heap) (locs1 : List Loc) (c1 s1 : Nat), c1 ≤ cells + 720 → s1 ≤ slots + 4320 → LSt D cy A xa za (j + 1) H1 → va_S A s.heap H1 locs1 → W p l e room_1 s m #[Value.ref b] below meth c H1 locs1 c1 s1 (lw_Z below #[Value.ref b] s) (F0 m 1695 ls [])) : W p l e room_1 s m #[Value.ref b] below meth c H locs cells slots (lw_Z below #[Value.ref b] s) (F0 m 1097 ls []) := by
  obtain ⟨hx, hb, hr, hml, hown, hts, hX, hbl, hlocks, hgv⟩ := id C0
  have hg : ∀ w ∈ lw_good, w.before #[Value.ref b] s = true := fun w h => hts w (List.mem_filter.mp h).1
  have hown : s.vm.findClass RL = some m.cls := hown
  obtain ⟨n, n3, T, PK, PT, SX, SY, WH, CA, W1, W2, hT, hXS, hZS, hP1, hP2, hD1, hD2, hap⟩ := hLS
  have q1 := inbN (6 * j + 1) Ln (by omega) (by omega)
  have q2 := inbN (6 * j + 2) Ln (by omega) (by omega)
  have q3 := inbN (6 * j + 3) Ln (by omega) (by omega)
  have q4 : (cells + 0) ≤ 600000 ∧ (slots + 0) ≤ 7302250 := ⟨by omega, by omega⟩
  have q5 : 0 ≤ T ∧ T ≤ 900000 := ⟨by omega, by omega⟩
  have q6 : ((cells + 0) + 0) ≤ 600000 ∧ ((slots + 0) + 0) ≤ 7302250 := ⟨by omega, by omega⟩
  have q7 : ((cells + 0) + 0) ≤ cells + 720 := by omega
  have q8 : ((slots + 0) + 0) ≤ slots + 4320 := by omega
  have q9 : 0 ≤ (T + 1) ∧ (T + 1) ≤ ((j + 1 : Nat) : Int) := ⟨by omega, by omega⟩
  refine lv_aload_n hx hb dL_law_1097 rfl (lv_at hl 2 rfl) ?_
  refine lv_aload_n hx hb dL_law_1098 rfl (lv_at hl 3 rfl) ?_
  refine lv_iload_n hx hb dL_law_1099 rfl (lv_at hl 0 rfl) ?_
  refine lv_iconst (v := 1) hx hb dL_law_1100 (by decide) ?_
  refine lv_iadd hx hb dL_law_1101 ?_
  refine lv_topi (fun f1 ef1 => ?_)
  obtain rfl : f1 = nI (6 * j + 1) := ef1.trans (nI_add (6 * j) 1)
  refine va_sld hx hb hX hbl hbA hS q1 dL_law_1102 ?_
  refine lv_aload_n hx hb dL_law_1103 rfl (lv_at hl 3 rfl) ?_
  refine lv_iload_n hx hb dL_law_1104 rfl (lv_at hl 0 rfl) ?_
  refine lv_iconst (v := 2) hx hb dL_law_1105 (by decide) ?_
  refine lv_iadd hx hb dL_law_1106 ?_
  refine lv_topi (fun f2 ef2 => ?_)
  obtain rfl : f2 = nI (6 * j + 2) := ef2.trans (nI_add (6 * j) 2)
  refine va_sld hx hb hX hbl hbA hS q2 dL_law_1107 ?_
  refine lv_aload_n hx hb dL_law_1108 rfl (lv_at hl 3 rfl) ?_
  refine lv_iload_n hx hb dL_law_1109 rfl (lv_at hl 0 rfl) ?_
  refine lv_iconst (v := 3) hx hb dL_law_1110 (by decide) ?_
  refine lv_iadd hx hb dL_law_1111 ?_
  refine lv_topi (fun f3 ef3 => ?_)
  obtain rfl : f3 = nI (6 * j + 3) := ef3.trans (nI_add (6 * j) 3)
  refine va_sld hx hb hX hbl hbA hS q3 dL_law_1112 ?_
  refine cx_mend C0 hA hN hK hST (xs ((nI (6 * j + 1)) : Int32).toNatClampNeg) (xs ((nI (6 * j + 2)) : Int32).toNatClampNeg) (xs ((nI (6 * j + 3)) : Int32).toNatClampNeg) q4 q5 hZS.svhi hXS hP1 hP2 hD1 hap hS hl (fun r4 W1 H locs _hr hXS hP1 hP2 hD1 hap hS => ?_)
  refine lv_pop hx hb dL_law_1116 rfl ?_
  refine lv_aload_n hx hb dL_law_1117 rfl (lv_at hl 1 rfl) ?_
  refine lv_aload_n hx hb dL_law_1118 rfl (lv_at hl 3 rfl) ?_
  refine lv_iload_n hx hb dL_law_1119 rfl (lv_at hl 0 rfl) ?_
  refine lv_iconst (v := 1) hx hb dL_law_1120 (by decide) ?_
  refine lv_iadd hx hb dL_law_1121 ?_
  refine lv_topi (fun f5 ef5 => ?_)
  obtain rfl : f5 = nI (6 * j + 1) := ef5.trans (nI_add (6 * j) 1)
  refine va_sld hx hb hX hbl hbA hS q1 dL_law_1122 ?_
  refine lv_aload_n hx hb dL_law_1123 rfl (lv_at hl 3 rfl) ?_
  refine lv_iload_n hx hb dL_law_1124 rfl (lv_at hl 0 rfl) ?_
  refine lv_iconst (v := 2) hx hb dL_law_1125 (by decide) ?_
  refine lv_iadd hx hb dL_law_1126 ?_
  refine lv_topi (fun f6 ef6 => ?_)
  obtain rfl : f6 = nI (6 * j + 2) := ef6.trans (nI_add (6 * j) 2)
  refine va_sld hx hb hX hbl hbA hS q2 dL_law_1127 ?_
  refine lv_aload_n hx hb dL_law_1128 rfl (lv_at hl 3 rfl) ?_
  refine lv_iload_n hx hb dL_law_1129 rfl (lv_at hl 0 rfl) ?_
  refine lv_iconst (v := 3) hx hb dL_law_1130 (by decide) ?_
  refine lv_iadd hx hb dL_law_1131 ?_
  refine lv_topi (fun f7 ef7 => ?_)
  obtain rfl : f7 = nI (6 * j + 3) := ef7.trans (nI_add (6 * j) 3)
  refine va_sld hx hb hX hbl hbA hS q3 dL_law_1132 ?_
  refine cz_mend C0 hA hN hK hST (xs ((nI (6 * j + 1)) : Int32).toNatClampNeg) (xs ((nI (6 * j + 2)) : Int32).toNatClampNeg) (xs ((nI (6 * j + 3)) : Int32).toNatClampNeg) q6 hZS hP2 hP1 hD2 hap.sy hS hl (fun r8 W2 H locs _hr hZS hP2 hP1 hD2 hap hS => ?_)
  have hap := hap.sy
  have hXS := hXS.imp (Q := PS _ _ (T + 1) _ _ _ _ _ _) (fun x0 x2 x5 x6 x8 x7 x9 x10 K L M h => h)
  refine lv_pop hx hb dL_law_1136 rfl ?_
  refine lv_goto (tgt := 1695) hx hb dL_law_1137 (by decide) ?_
  exact kk H locs _ _ q7 q8 ⟨_, _, (T + 1), _, _, _, _, _, _, _, _, q9, hXS, hZS, hP1, hP2, hD1, hD2, hap⟩ hS
set_option maxHeartbeats 4000000 in
set_option maxRecDepth 100000 in
theorem law_c22 {p : Program} {l : Launch} {e : Env} {s : State} {m : MethodId} {below : List Frame} {meth : Method} {c : Code} {b Ln : Nat} {xs : Nat → Int32} (C0 : lw_At p s m meth c b Ln xs) {D : va_G} {cy : Nat → ClassId} {A : Nat → Prop} (hA : ∀ q, s.heap.size ≤ q → A q) (hA2 : ∀ q, A q → s.heap.size ≤ q) (hbA : ¬ A b) (hN : NW s) (hK : va_K D vwCl (tysC cy) s) (hST : STAT A s) {xa za : Nat} {j : Nat} {H : Heap} {locs : List Loc} {cells slots : Nat} {ls : Array Slot} (hj : 6 * j + 6 ≤ Ln) (hLn : Ln ≤ 3072) (hc : cells + 720 ≤ 600000) (hs : slots + 4320 ≤ 7302250) (hLS : LSt D cy A xa za j H) (hS : va_S A s.heap H locs) (hl : lv_has ls 4 [(3, .int (nI (6 * j))), (2, .ref za), (1, .ref xa), (0, .ref b)]) (kk : ∀ (H1 : Heap) (locs1 : List Loc) (c1 s1 : Nat), c1 ≤ cells + 720 → s1 ≤ slots + 4320 → LSt D cy A xa za (j + 1) H1 → va_S A s.heap H1 locs1 → W p l e room_1 s m #[Value.ref b] below meth c H1 locs1 c1 s1 (lw_Z below #[Value.ref b] s) (F0 m 1695 ls [])) : W p l e room_1 s m #[Value.ref b] below meth c H locs cells slots (lw_Z below #[Value.ref b] s) (F0 m 1140 ls []) := by
  obtain ⟨hx, hb, hr, hml, hown, hts, hX, hbl, hlocks, hgv⟩ := id C0
  have hg : ∀ w ∈ lw_good, w.before #[Value.ref b] s = true := fun w h => hts w (List.mem_filter.mp h).1
  have hown : s.vm.findClass RL = some m.cls := hown
  obtain ⟨n, n3, T, PK, PT, SX, SY, WH, CA, W1, W2, hT, hXS, hZS, hP1, hP2, hD1, hD2, hap⟩ := hLS
  have q1 := inbN (6 * j + 1) Ln (by omega) (by omega)
  have q2 := inbN (6 * j + 2) Ln (by omega) (by omega)
  have q3 := inbN (6 * j + 3) Ln (by omega) (by omega)
  have q4 : (cells + 0) ≤ 600000 ∧ (slots + 0) ≤ 7302250 := ⟨by omega, by omega⟩
  have q5 : 0 ≤ T ∧ T ≤ 900000 := ⟨by omega, by omega⟩
  have q6 : ((cells + 0) + 0) ≤ 600000 ∧ ((slots + 0) + 0) ≤ 7302250 := ⟨by omega, by omega⟩
  have q7 : ((cells + 0) + 0) ≤ cells + 720 := by omega
  have q8 : ((slots + 0) + 0) ≤ slots + 4320 := by omega
  have q9 : 0 ≤ (T + 1) ∧ (T + 1) ≤ ((j + 1 : Nat) : Int) := ⟨by omega, by omega⟩
  refine lv_aload_n hx hb dL_law_1140 rfl (lv_at hl 2 rfl) ?_
  refine lv_aload_n hx hb dL_law_1141 rfl (lv_at hl 3 rfl) ?_
  refine lv_iload_n hx hb dL_law_1142 rfl (lv_at hl 0 rfl) ?_
  refine lv_iconst (v := 1) hx hb dL_law_1143 (by decide) ?_
  refine lv_iadd hx hb dL_law_1144 ?_
  refine lv_topi (fun f1 ef1 => ?_)
  obtain rfl : f1 = nI (6 * j + 1) := ef1.trans (nI_add (6 * j) 1)
  refine va_sld hx hb hX hbl hbA hS q1 dL_law_1145 ?_
  refine lv_aload_n hx hb dL_law_1146 rfl (lv_at hl 3 rfl) ?_
  refine lv_iload_n hx hb dL_law_1147 rfl (lv_at hl 0 rfl) ?_
  refine lv_iconst (v := 2) hx hb dL_law_1148 (by decide) ?_
  refine lv_iadd hx hb dL_law_1149 ?_
  refine lv_topi (fun f2 ef2 => ?_)
  obtain rfl : f2 = nI (6 * j + 2) := ef2.trans (nI_add (6 * j) 2)
  refine va_sld hx hb hX hbl hbA hS q2 dL_law_1150 ?_
  refine lv_aload_n hx hb dL_law_1151 rfl (lv_at hl 3 rfl) ?_
  refine lv_iload_n hx hb dL_law_1152 rfl (lv_at hl 0 rfl) ?_
  refine lv_iconst (v := 3) hx hb dL_law_1153 (by decide) ?_
  refine lv_iadd hx hb dL_law_1154 ?_
  refine lv_topi (fun f3 ef3 => ?_)
  obtain rfl : f3 = nI (6 * j + 3) := ef3.trans (nI_add (6 * j) 3)
  refine va_sld hx hb hX hbl hbA hS q3 dL_law_1155 ?_
  refine cx_hidden C0 hA hN hK hST (xs ((nI (6 * j + 1)) : Int32).toNatClampNeg) (xs ((nI (6 * j + 2)) : Int32).toNatClampNeg) (xs ((nI (6 * j + 3)) : Int32).toNatClampNeg) q4 q5 hZS.svhi hXS hP1 hP2 hD1 hap hS hl (fun r4 W1 H locs _hr hXS hP1 hP2 hD1 hap hS => ?_)
  refine lv_pop hx hb dL_law_1159 rfl ?_
  refine lv_aload_n hx hb dL_law_1160 rfl (lv_at hl 1 rfl) ?_
  refine lv_aload_n hx hb dL_law_1161 rfl (lv_at hl 3 rfl) ?_
  refine lv_iload_n hx hb dL_law_1162 rfl (lv_at hl 0 rfl) ?_
  refine lv_iconst (v := 1) hx hb dL_law_1163 (by decide) ?_
  refine lv_iadd hx hb dL_law_1164 ?_
  refine lv_topi (fun f5 ef5 => ?_)
  obtain rfl : f5 = nI (6 * j + 1) := ef5.trans (nI_add (6 * j) 1)
  refine va_sld hx hb hX hbl hbA hS q1 dL_law_1165 ?_
  refine lv_aload_n hx hb dL_law_1166 rfl (lv_at hl 3 rfl) ?_
  refine lv_iload_n hx hb dL_law_1167 rfl (lv_at hl 0 rfl) ?_
  refine lv_iconst (v := 2) hx hb dL_law_1168 (by decide) ?_
  refine lv_iadd hx hb dL_law_1169 ?_
  refine lv_topi (fun f6 ef6 => ?_)
  obtain rfl : f6 = nI (6 * j + 2) := ef6.trans (nI_add (6 * j) 2)
  refine va_sld hx hb hX hbl hbA hS q2 dL_law_1170 ?_
  refine lv_aload_n hx hb dL_law_1171 rfl (lv_at hl 3 rfl) ?_
  refine lv_iload_n hx hb dL_law_1172 rfl (lv_at hl 0 rfl) ?_
  refine lv_iconst (v := 3) hx hb dL_law_1173 (by decide) ?_
  refine lv_iadd hx hb dL_law_1174 ?_
  refine lv_topi (fun f7 ef7 => ?_)
  obtain rfl : f7 = nI (6 * j + 3) := ef7.trans (nI_add (6 * j) 3)
  refine va_sld hx hb hX hbl hbA hS q3 dL_law_1175 ?_
  refine cz_hidden C0 hA hN hK hST (xs ((nI (6 * j + 1)) : Int32).toNatClampNeg) (xs ((nI (6 * j + 2)) : Int32).toNatClampNeg) (xs ((nI (6 * j + 3)) : Int32).toNatClampNeg) q6 hZS hP2 hP1 hD2 hap.sy hS hl (fun r8 W2 H locs _hr hZS hP2 hP1 hD2 hap hS => ?_)
  have hap := hap.sy
  have hXS := hXS.imp (Q := PS _ _ (T + 1) _ _ _ _ _ _) (fun x0 x2 x5 x6 x8 x7 x9 x10 K L M h => h)
  refine lv_pop hx hb dL_law_1179 rfl ?_
  refine lv_goto (tgt := 1695) hx hb dL_law_1180 (by decide) ?_
  exact kk H locs _ _ q7 q8 ⟨_, _, (T + 1), _, _, _, _, _, _, _, _, q9, hXS, hZS, hP1, hP2, hD1, hD2, hap⟩ hS
set_option maxHeartbeats 4000000 in
set_option maxRecDepth 100000 in
theorem law_c23 {p : Program} {l : Launch} {e : Env} {s : State} {m : MethodId} {below : List Frame} {meth : Method} {c : Code} {b Ln : Nat} {xs : Nat → Int32} (C0 : lw_At p s m meth c b Ln xs) {D : va_G} {cy : Nat → ClassId} {A : Nat → Prop} (hA : ∀ q, s.heap.size ≤ q → A q) (hA2 : ∀ q, A q → s.heap.size ≤ q) (hbA : ¬ A b) (hN : NW s) (hK : va_K D vwCl (tysC cy) s) (hST : STAT A s) {xa za : Nat} {j : Nat} {H : Heap} {locs : List Loc} {cells slots : Nat} {ls : Array Slot} (hj : 6 * j + 6 ≤ Ln) (hLn : Ln ≤ 3072) (hc : cells + 720 ≤ 600000) (hs : slots + 4320 ≤ 7302250) (hLS : LSt D cy A xa za j H) (hS : va_S A s.heap H locs) (hl : lv_has ls 4 [(3, .int (nI (6 * j))), (2, .ref za), (1, .ref xa), (0, .ref b)]) (kk : ∀ (H1 : Heap) (locs1 : List Loc) (c1 s1 : Nat), c1 ≤ cells + 720 → s1 ≤ slots + 4320 → LSt D cy A xa za (j + 1) H1 → va_S A s.heap H1 locs1 → W p l e room_1 s m #[Value.ref b] below meth c H1 locs1 c1 s1 (lw_Z below #[Value.ref b] s) (F0 m 1695 ls [])) : W p l e room_1 s m #[Value.ref b] below meth c H locs cells slots (lw_Z below #[Value.ref b] s) (F0 m 1183 ls []) := by
  obtain ⟨hx, hb, hr, hml, hown, hts, hX, hbl, hlocks, hgv⟩ := id C0
  have hg : ∀ w ∈ lw_good, w.before #[Value.ref b] s = true := fun w h => hts w (List.mem_filter.mp h).1
  have hown : s.vm.findClass RL = some m.cls := hown
  obtain ⟨n, n3, T, PK, PT, SX, SY, WH, CA, W1, W2, hT, hXS, hZS, hP1, hP2, hD1, hD2, hap⟩ := hLS
  have q1 := inbN (6 * j + 1) Ln (by omega) (by omega)
  have q2 := inbN (6 * j + 2) Ln (by omega) (by omega)
  have q3 := inbN (6 * j + 3) Ln (by omega) (by omega)
  have q4 : (cells + 0) ≤ 600000 ∧ (slots + 0) ≤ 7302250 := ⟨by omega, by omega⟩
  have q5 : 0 ≤ T ∧ T ≤ 900000 := ⟨by omega, by omega⟩
  have q6 : ((cells + 0) + 0) ≤ 600000 ∧ ((slots + 0) + 0) ≤ 7302250 := ⟨by omega, by omega⟩
  have q7 : ((cells + 0) + 0) ≤ cells + 720 := by omega
  have q8 : ((slots + 0) + 0) ≤ slots + 4320 := by omega
  have q9 : 0 ≤ (T + 1) ∧ (T + 1) ≤ ((j + 1 : Nat) : Int) := ⟨by omega, by omega⟩
  refine lv_aload_n hx hb dL_law_1183 rfl (lv_at hl 2 rfl) ?_
  refine lv_aload_n hx hb dL_law_1184 rfl (lv_at hl 3 rfl) ?_
  refine lv_iload_n hx hb dL_law_1185 rfl (lv_at hl 0 rfl) ?_
  refine lv_iconst (v := 1) hx hb dL_law_1186 (by decide) ?_
  refine lv_iadd hx hb dL_law_1187 ?_
  refine lv_topi (fun f1 ef1 => ?_)
  obtain rfl : f1 = nI (6 * j + 1) := ef1.trans (nI_add (6 * j) 1)
  refine va_sld hx hb hX hbl hbA hS q1 dL_law_1188 ?_
  refine lv_aload_n hx hb dL_law_1189 rfl (lv_at hl 3 rfl) ?_
  refine lv_iload_n hx hb dL_law_1190 rfl (lv_at hl 0 rfl) ?_
  refine lv_iconst (v := 2) hx hb dL_law_1191 (by decide) ?_
  refine lv_iadd hx hb dL_law_1192 ?_
  refine lv_topi (fun f2 ef2 => ?_)
  obtain rfl : f2 = nI (6 * j + 2) := ef2.trans (nI_add (6 * j) 2)
  refine va_sld hx hb hX hbl hbA hS q2 dL_law_1193 ?_
  refine lv_aload_n hx hb dL_law_1194 rfl (lv_at hl 3 rfl) ?_
  refine lv_iload_n hx hb dL_law_1195 rfl (lv_at hl 0 rfl) ?_
  refine lv_iconst (v := 3) hx hb dL_law_1196 (by decide) ?_
  refine lv_iadd hx hb dL_law_1197 ?_
  refine lv_topi (fun f3 ef3 => ?_)
  obtain rfl : f3 = nI (6 * j + 3) := ef3.trans (nI_add (6 * j) 3)
  refine va_sld hx hb hX hbl hbA hS q3 dL_law_1198 ?_
  refine cx_bear C0 hA hN hK hST (xs ((nI (6 * j + 1)) : Int32).toNatClampNeg) (xs ((nI (6 * j + 2)) : Int32).toNatClampNeg) (xs ((nI (6 * j + 3)) : Int32).toNatClampNeg) q4 q5 hZS.svhi hXS hP1 hP2 hD1 hap hS hl (fun r4 W1 H locs hXS hP1 hP2 hD1 hap hS => ?_)
  refine lv_pop hx hb dL_law_1202 rfl ?_
  refine lv_aload_n hx hb dL_law_1203 rfl (lv_at hl 1 rfl) ?_
  refine lv_aload_n hx hb dL_law_1204 rfl (lv_at hl 3 rfl) ?_
  refine lv_iload_n hx hb dL_law_1205 rfl (lv_at hl 0 rfl) ?_
  refine lv_iconst (v := 1) hx hb dL_law_1206 (by decide) ?_
  refine lv_iadd hx hb dL_law_1207 ?_
  refine lv_topi (fun f5 ef5 => ?_)
  obtain rfl : f5 = nI (6 * j + 1) := ef5.trans (nI_add (6 * j) 1)
  refine va_sld hx hb hX hbl hbA hS q1 dL_law_1208 ?_
  refine lv_aload_n hx hb dL_law_1209 rfl (lv_at hl 3 rfl) ?_
  refine lv_iload_n hx hb dL_law_1210 rfl (lv_at hl 0 rfl) ?_
  refine lv_iconst (v := 2) hx hb dL_law_1211 (by decide) ?_
  refine lv_iadd hx hb dL_law_1212 ?_
  refine lv_topi (fun f6 ef6 => ?_)
  obtain rfl : f6 = nI (6 * j + 2) := ef6.trans (nI_add (6 * j) 2)
  refine va_sld hx hb hX hbl hbA hS q2 dL_law_1213 ?_
  refine lv_aload_n hx hb dL_law_1214 rfl (lv_at hl 3 rfl) ?_
  refine lv_iload_n hx hb dL_law_1215 rfl (lv_at hl 0 rfl) ?_
  refine lv_iconst (v := 3) hx hb dL_law_1216 (by decide) ?_
  refine lv_iadd hx hb dL_law_1217 ?_
  refine lv_topi (fun f7 ef7 => ?_)
  obtain rfl : f7 = nI (6 * j + 3) := ef7.trans (nI_add (6 * j) 3)
  refine va_sld hx hb hX hbl hbA hS q3 dL_law_1218 ?_
  refine cz_bear C0 hA hN hK hST (xs ((nI (6 * j + 1)) : Int32).toNatClampNeg) (xs ((nI (6 * j + 2)) : Int32).toNatClampNeg) (xs ((nI (6 * j + 3)) : Int32).toNatClampNeg) q6 hZS hP2 hP1 hD2 hap.sy hS hl (fun r8 W2 H locs hZS hP2 hP1 hD2 hap hS => ?_)
  have hap := hap.sy
  have hXS := hXS.imp (Q := PS _ _ (T + 1) _ _ _ _ _ _) (fun x0 x2 x5 x6 x8 x7 x9 x10 K L M h => h)
  refine lv_pop hx hb dL_law_1222 rfl ?_
  refine lv_goto (tgt := 1695) hx hb dL_law_1223 (by decide) ?_
  exact kk H locs _ _ q7 q8 ⟨_, _, (T + 1), _, _, _, _, _, _, _, _, q9, hXS, hZS, hP1, hP2, hD1, hD2, hap⟩ hS
set_option maxHeartbeats 4000000 in
set_option maxRecDepth 100000 in
theorem law_c24 {p : Program} {l : Launch} {e : Env} {s : State} {m : MethodId} {below : List Frame} {meth : Method} {c : Code} {b Ln : Nat} {xs : Nat → Int32} (C0 : lw_At p s m meth c b Ln xs) {D : va_G} {cy : Nat → ClassId} {A : Nat → Prop} (hA : ∀ q, s.heap.size ≤ q → A q) (hA2 : ∀ q, A q → s.heap.size ≤ q) (hbA : ¬ A b) (hN : NW s) (hK : va_K D vwCl (tysC cy) s) (hST : STAT A s) {xa za : Nat} {j : Nat} {H : Heap} {locs : List Loc} {cells slots : Nat} {ls : Array Slot} (hj : 6 * j + 6 ≤ Ln) (hLn : Ln ≤ 3072) (hc : cells + 720 ≤ 600000) (hs : slots + 4320 ≤ 7302250) (hLS : LSt D cy A xa za j H) (hS : va_S A s.heap H locs) (hl : lv_has ls 4 [(3, .int (nI (6 * j))), (2, .ref za), (1, .ref xa), (0, .ref b)]) (kk : ∀ (H1 : Heap) (locs1 : List Loc) (c1 s1 : Nat), c1 ≤ cells + 720 → s1 ≤ slots + 4320 → LSt D cy A xa za (j + 1) H1 → va_S A s.heap H1 locs1 → W p l e room_1 s m #[Value.ref b] below meth c H1 locs1 c1 s1 (lw_Z below #[Value.ref b] s) (F0 m 1695 ls [])) : W p l e room_1 s m #[Value.ref b] below meth c H locs cells slots (lw_Z below #[Value.ref b] s) (F0 m 1226 ls []) := by
  obtain ⟨hx, hb, hr, hml, hown, hts, hX, hbl, hlocks, hgv⟩ := id C0
  have hg : ∀ w ∈ lw_good, w.before #[Value.ref b] s = true := fun w h => hts w (List.mem_filter.mp h).1
  have hown : s.vm.findClass RL = some m.cls := hown
  obtain ⟨n, n3, T, PK, PT, SX, SY, WH, CA, W1, W2, hT, hXS, hZS, hP1, hP2, hD1, hD2, hap⟩ := hLS
  have q1 := inbN (6 * j + 1) Ln (by omega) (by omega)
  have q2 : (cells + 0) ≤ 600000 ∧ (slots + 0) ≤ 7302250 := ⟨by omega, by omega⟩
  have q3 : 0 ≤ T ∧ T ≤ 900000 := ⟨by omega, by omega⟩
  have q4 : ((cells + 0) + 0) ≤ 600000 ∧ ((slots + 0) + 0) ≤ 7302250 := ⟨by omega, by omega⟩
  have q5 : ((cells + 0) + 0) ≤ cells + 720 := by omega
  have q6 : ((slots + 0) + 0) ≤ slots + 4320 := by omega
  have q7 : 0 ≤ (T + 1) ∧ (T + 1) ≤ ((j + 1 : Nat) : Int) := ⟨by omega, by omega⟩
  refine lv_aload_n hx hb dL_law_1226 rfl (lv_at hl 2 rfl) ?_
  refine lv_aload_n hx hb dL_law_1227 rfl (lv_at hl 3 rfl) ?_
  refine lv_iload_n hx hb dL_law_1228 rfl (lv_at hl 0 rfl) ?_
  refine lv_iconst (v := 1) hx hb dL_law_1229 (by decide) ?_
  refine lv_iadd hx hb dL_law_1230 ?_
  refine lv_topi (fun f1 ef1 => ?_)
  obtain rfl : f1 = nI (6 * j + 1) := ef1.trans (nI_add (6 * j) 1)
  refine va_sld hx hb hX hbl hbA hS q1 dL_law_1231 ?_
  refine cx_borne C0 hA hN hK hST (xs ((nI (6 * j + 1)) : Int32).toNatClampNeg) q2 q3 hZS.svhi hXS hP1 hP2 hD1 hap hS hl (fun r2 W1 H locs hXS hP1 hP2 hD1 hap hS => ?_)
  refine lv_pop hx hb dL_law_1235 rfl ?_
  refine lv_aload_n hx hb dL_law_1236 rfl (lv_at hl 1 rfl) ?_
  refine lv_aload_n hx hb dL_law_1237 rfl (lv_at hl 3 rfl) ?_
  refine lv_iload_n hx hb dL_law_1238 rfl (lv_at hl 0 rfl) ?_
  refine lv_iconst (v := 1) hx hb dL_law_1239 (by decide) ?_
  refine lv_iadd hx hb dL_law_1240 ?_
  refine lv_topi (fun f3 ef3 => ?_)
  obtain rfl : f3 = nI (6 * j + 1) := ef3.trans (nI_add (6 * j) 1)
  refine va_sld hx hb hX hbl hbA hS q1 dL_law_1241 ?_
  refine cz_borne C0 hA hN hK hST (xs ((nI (6 * j + 1)) : Int32).toNatClampNeg) q4 hZS hP2 hP1 hD2 hap.sy hS hl (fun r4 W2 H locs hZS hP2 hP1 hD2 hap hS => ?_)
  have hap := hap.sy
  have hXS := hXS.imp (Q := PS _ _ (T + 1) _ _ _ _ _ _) (fun x0 x2 x5 x6 x8 x7 x9 x10 K L M h => h)
  refine lv_pop hx hb dL_law_1245 rfl ?_
  refine lv_goto (tgt := 1695) hx hb dL_law_1246 (by decide) ?_
  exact kk H locs _ _ q5 q6 ⟨_, _, (T + 1), _, _, _, _, _, _, _, _, q7, hXS, hZS, hP1, hP2, hD1, hD2, hap⟩ hS
set_option maxHeartbeats 4000000 in
set_option maxRecDepth 100000 in
theorem law_c25 {p : Program} {l : Launch} {e : Env} {s : State} {m : MethodId} {below : List Frame} {meth : Method} {c : Code} {b Ln : Nat} {xs : Nat → Int32} (C0 : lw_At p s m meth c b Ln xs) {D : va_G} {cy : Nat → ClassId} {A : Nat → Prop} (hA : ∀ q, s.heap.size ≤ q → A q) (hA2 : ∀ q, A q → s.heap.size ≤ q) (hbA : ¬ A b) (hN : NW s) (hK : va_K D vwCl (tysC cy) s) (hST : STAT A s) {xa za : Nat} {j : Nat} {H : Heap} {locs : List Loc} {cells slots : Nat} {ls : Array Slot} (hj : 6 * j + 6 ≤ Ln) (hLn : Ln ≤ 3072) (hc : cells + 720 ≤ 600000) (hs : slots + 4320 ≤ 7302250) (hLS : LSt D cy A xa za j H) (hS : va_S A s.heap H locs) (hl : lv_has ls 4 [(3, .int (nI (6 * j))), (2, .ref za), (1, .ref xa), (0, .ref b)]) (kk : ∀ (H1 : Heap) (locs1 : List Loc) (c1 s1 : Nat), c1 ≤ cells + 720 → s1 ≤ slots + 4320 → LSt D cy A xa za (j + 1) H1 → va_S A s.heap H1 locs1 → W p l e room_1 s m #[Value.ref b] below meth c H1 locs1 c1 s1 (lw_Z below #[Value.ref b] s) (F0 m 1695 ls [])) : W p l e room_1 s m #[Value.ref b] below meth c H locs cells slots (lw_Z below #[Value.ref b] s) (F0 m 1249 ls []) := by
  obtain ⟨hx, hb, hr, hml, hown, hts, hX, hbl, hlocks, hgv⟩ := id C0
  have hg : ∀ w ∈ lw_good, w.before #[Value.ref b] s = true := fun w h => hts w (List.mem_filter.mp h).1
  have hown : s.vm.findClass RL = some m.cls := hown
  obtain ⟨n, n3, T, PK, PT, SX, SY, WH, CA, W1, W2, hT, hXS, hZS, hP1, hP2, hD1, hD2, hap⟩ := hLS
  have q1 := inbN (6 * j + 1) Ln (by omega) (by omega)
  have q2 := inbN (6 * j + 2) Ln (by omega) (by omega)
  have q3 := inbN (6 * j + 3) Ln (by omega) (by omega)
  have q4 : (cells + 0) ≤ 600000 ∧ (slots + 0) ≤ 7302250 := ⟨by omega, by omega⟩
  have q5 : 0 ≤ T ∧ T ≤ 900000 := ⟨by omega, by omega⟩
  have q6 : ((cells + 0) + 0) ≤ 600000 ∧ ((slots + 0) + 0) ≤ 7302250 := ⟨by omega, by omega⟩
  have q7 : ((cells + 0) + 0) ≤ cells + 720 := by omega
  have q8 : ((slots + 0) + 0) ≤ slots + 4320 := by omega
  have q9 : 0 ≤ (T + 1) ∧ (T + 1) ≤ ((j + 1 : Nat) : Int) := ⟨by omega, by omega⟩
  refine lv_aload_n hx hb dL_law_1249 rfl (lv_at hl 2 rfl) ?_
  refine lv_aload_n hx hb dL_law_1250 rfl (lv_at hl 3 rfl) ?_
  refine lv_iload_n hx hb dL_law_1251 rfl (lv_at hl 0 rfl) ?_
  refine lv_iconst (v := 1) hx hb dL_law_1252 (by decide) ?_
  refine lv_iadd hx hb dL_law_1253 ?_
  refine lv_topi (fun f1 ef1 => ?_)
  obtain rfl : f1 = nI (6 * j + 1) := ef1.trans (nI_add (6 * j) 1)
  refine va_sld hx hb hX hbl hbA hS q1 dL_law_1254 ?_
  refine lv_aload_n hx hb dL_law_1255 rfl (lv_at hl 3 rfl) ?_
  refine lv_iload_n hx hb dL_law_1256 rfl (lv_at hl 0 rfl) ?_
  refine lv_iconst (v := 2) hx hb dL_law_1257 (by decide) ?_
  refine lv_iadd hx hb dL_law_1258 ?_
  refine lv_topi (fun f2 ef2 => ?_)
  obtain rfl : f2 = nI (6 * j + 2) := ef2.trans (nI_add (6 * j) 2)
  refine va_sld hx hb hX hbl hbA hS q2 dL_law_1259 ?_
  refine lv_aload_n hx hb dL_law_1260 rfl (lv_at hl 3 rfl) ?_
  refine lv_iload_n hx hb dL_law_1261 rfl (lv_at hl 0 rfl) ?_
  refine lv_iconst (v := 3) hx hb dL_law_1262 (by decide) ?_
  refine lv_iadd hx hb dL_law_1263 ?_
  refine lv_topi (fun f3 ef3 => ?_)
  obtain rfl : f3 = nI (6 * j + 3) := ef3.trans (nI_add (6 * j) 3)
  refine va_sld hx hb hX hbl hbA hS q3 dL_law_1264 ?_
  refine cx_account C0 hA hN hK hST (xs ((nI (6 * j + 1)) : Int32).toNatClampNeg) (xs ((nI (6 * j + 2)) : Int32).toNatClampNeg) (xs ((nI (6 * j + 3)) : Int32).toNatClampNeg) q4 q5 hZS.svhi hXS hP1 hP2 hD1 hap hS hl (fun r4 W1 H locs hXS hP1 hP2 hD1 hap hS => ?_)
  refine lv_pop2_2 hx hb dL_law_1268 rfl ?_
  refine lv_aload_n hx hb dL_law_1269 rfl (lv_at hl 1 rfl) ?_
  refine lv_aload_n hx hb dL_law_1270 rfl (lv_at hl 3 rfl) ?_
  refine lv_iload_n hx hb dL_law_1271 rfl (lv_at hl 0 rfl) ?_
  refine lv_iconst (v := 1) hx hb dL_law_1272 (by decide) ?_
  refine lv_iadd hx hb dL_law_1273 ?_
  refine lv_topi (fun f5 ef5 => ?_)
  obtain rfl : f5 = nI (6 * j + 1) := ef5.trans (nI_add (6 * j) 1)
  refine va_sld hx hb hX hbl hbA hS q1 dL_law_1274 ?_
  refine lv_aload_n hx hb dL_law_1275 rfl (lv_at hl 3 rfl) ?_
  refine lv_iload_n hx hb dL_law_1276 rfl (lv_at hl 0 rfl) ?_
  refine lv_iconst (v := 2) hx hb dL_law_1277 (by decide) ?_
  refine lv_iadd hx hb dL_law_1278 ?_
  refine lv_topi (fun f6 ef6 => ?_)
  obtain rfl : f6 = nI (6 * j + 2) := ef6.trans (nI_add (6 * j) 2)
  refine va_sld hx hb hX hbl hbA hS q2 dL_law_1279 ?_
  refine lv_aload_n hx hb dL_law_1280 rfl (lv_at hl 3 rfl) ?_
  refine lv_iload_n hx hb dL_law_1281 rfl (lv_at hl 0 rfl) ?_
  refine lv_iconst (v := 3) hx hb dL_law_1282 (by decide) ?_
  refine lv_iadd hx hb dL_law_1283 ?_
  refine lv_topi (fun f7 ef7 => ?_)
  obtain rfl : f7 = nI (6 * j + 3) := ef7.trans (nI_add (6 * j) 3)
  refine va_sld hx hb hX hbl hbA hS q3 dL_law_1284 ?_
  refine cz_account C0 hA hN hK hST (xs ((nI (6 * j + 1)) : Int32).toNatClampNeg) (xs ((nI (6 * j + 2)) : Int32).toNatClampNeg) (xs ((nI (6 * j + 3)) : Int32).toNatClampNeg) q6 hZS hP2 hP1 hD2 hap.sy hS hl (fun r8 W2 H locs hZS hP2 hP1 hD2 hap hS => ?_)
  have hap := hap.sy
  have hXS := hXS.imp (Q := PS _ _ (T + 1) _ _ _ _ _ _) (fun x0 x2 x5 x6 x8 x7 x9 x10 K L M h => h)
  refine lv_pop2_2 hx hb dL_law_1288 rfl ?_
  refine lv_goto (tgt := 1695) hx hb dL_law_1289 (by decide) ?_
  exact kk H locs _ _ q7 q8 ⟨_, _, (T + 1), _, _, _, _, _, _, _, _, q9, hXS, hZS, hP1, hP2, hD1, hD2, hap⟩ hS
set_option maxHeartbeats 4000000 in
set_option maxRecDepth 100000 in
theorem law_c26 {p : Program} {l : Launch} {e : Env} {s : State} {m : MethodId} {below : List Frame} {meth : Method} {c : Code} {b Ln : Nat} {xs : Nat → Int32} (C0 : lw_At p s m meth c b Ln xs) {D : va_G} {cy : Nat → ClassId} {A : Nat → Prop} (hA : ∀ q, s.heap.size ≤ q → A q) (hA2 : ∀ q, A q → s.heap.size ≤ q) (hbA : ¬ A b) (hN : NW s) (hK : va_K D vwCl (tysC cy) s) (hST : STAT A s) {xa za : Nat} {j : Nat} {H : Heap} {locs : List Loc} {cells slots : Nat} {ls : Array Slot} (hj : 6 * j + 6 ≤ Ln) (hLn : Ln ≤ 3072) (hc : cells + 720 ≤ 600000) (hs : slots + 4320 ≤ 7302250) (hLS : LSt D cy A xa za j H) (hS : va_S A s.heap H locs) (hl : lv_has ls 4 [(3, .int (nI (6 * j))), (2, .ref za), (1, .ref xa), (0, .ref b)]) (kk : ∀ (H1 : Heap) (locs1 : List Loc) (c1 s1 : Nat), c1 ≤ cells + 720 → s1 ≤ slots + 4320 → LSt D cy A xa za (j + 1) H1 → va_S A s.heap H1 locs1 → W p l e room_1 s m #[Value.ref b] below meth c H1 locs1 c1 s1 (lw_Z below #[Value.ref b] s) (F0 m 1695 ls [])) : W p l e room_1 s m #[Value.ref b] below meth c H locs cells slots (lw_Z below #[Value.ref b] s) (F0 m 1292 ls []) := by
  obtain ⟨hx, hb, hr, hml, hown, hts, hX, hbl, hlocks, hgv⟩ := id C0
  have hg : ∀ w ∈ lw_good, w.before #[Value.ref b] s = true := fun w h => hts w (List.mem_filter.mp h).1
  have hown : s.vm.findClass RL = some m.cls := hown
  obtain ⟨n, n3, T, PK, PT, SX, SY, WH, CA, W1, W2, hT, hXS, hZS, hP1, hP2, hD1, hD2, hap⟩ := hLS
  have q1 := inbN (6 * j + 1) Ln (by omega) (by omega)
  have q2 := inbN (6 * j + 2) Ln (by omega) (by omega)
  have q3 := inbN (6 * j + 3) Ln (by omega) (by omega)
  have q4 : (cells + 0) ≤ 600000 ∧ (slots + 0) ≤ 7302250 := ⟨by omega, by omega⟩
  have q5 : 0 ≤ T ∧ T ≤ 900000 := ⟨by omega, by omega⟩
  have q6 : ((cells + 0) + 0) ≤ 600000 ∧ ((slots + 0) + 0) ≤ 7302250 := ⟨by omega, by omega⟩
  have q7 : ((cells + 0) + 0) ≤ cells + 720 := by omega
  have q8 : ((slots + 0) + 0) ≤ slots + 4320 := by omega
  have q9 : 0 ≤ (T + 1) ∧ (T + 1) ≤ ((j + 1 : Nat) : Int) := ⟨by omega, by omega⟩
  refine lv_aload_n hx hb dL_law_1292 rfl (lv_at hl 2 rfl) ?_
  refine lv_aload_n hx hb dL_law_1293 rfl (lv_at hl 3 rfl) ?_
  refine lv_iload_n hx hb dL_law_1294 rfl (lv_at hl 0 rfl) ?_
  refine lv_iconst (v := 1) hx hb dL_law_1295 (by decide) ?_
  refine lv_iadd hx hb dL_law_1296 ?_
  refine lv_topi (fun f1 ef1 => ?_)
  obtain rfl : f1 = nI (6 * j + 1) := ef1.trans (nI_add (6 * j) 1)
  refine va_sld hx hb hX hbl hbA hS q1 dL_law_1297 ?_
  refine lv_aload_n hx hb dL_law_1298 rfl (lv_at hl 3 rfl) ?_
  refine lv_iload_n hx hb dL_law_1299 rfl (lv_at hl 0 rfl) ?_
  refine lv_iconst (v := 2) hx hb dL_law_1300 (by decide) ?_
  refine lv_iadd hx hb dL_law_1301 ?_
  refine lv_topi (fun f2 ef2 => ?_)
  obtain rfl : f2 = nI (6 * j + 2) := ef2.trans (nI_add (6 * j) 2)
  refine va_sld hx hb hX hbl hbA hS q2 dL_law_1302 ?_
  refine lv_aload_n hx hb dL_law_1303 rfl (lv_at hl 3 rfl) ?_
  refine lv_iload_n hx hb dL_law_1304 rfl (lv_at hl 0 rfl) ?_
  refine lv_iconst (v := 3) hx hb dL_law_1305 (by decide) ?_
  refine lv_iadd hx hb dL_law_1306 ?_
  refine lv_topi (fun f3 ef3 => ?_)
  obtain rfl : f3 = nI (6 * j + 3) := ef3.trans (nI_add (6 * j) 3)
  refine va_sld hx hb hX hbl hbA hS q3 dL_law_1307 ?_
  refine cx_tenure C0 hA hN hK hST (xs ((nI (6 * j + 1)) : Int32).toNatClampNeg) (xs ((nI (6 * j + 2)) : Int32).toNatClampNeg) (xs ((nI (6 * j + 3)) : Int32).toNatClampNeg) q4 q5 hZS.svhi hXS hP1 hP2 hD1 hap hS hl (fun r4 W1 H locs _hr hXS hP1 hP2 hD1 hap hS => ?_)
  refine lv_pop hx hb dL_law_1311 rfl ?_
  refine lv_aload_n hx hb dL_law_1312 rfl (lv_at hl 1 rfl) ?_
  refine lv_aload_n hx hb dL_law_1313 rfl (lv_at hl 3 rfl) ?_
  refine lv_iload_n hx hb dL_law_1314 rfl (lv_at hl 0 rfl) ?_
  refine lv_iconst (v := 1) hx hb dL_law_1315 (by decide) ?_
  refine lv_iadd hx hb dL_law_1316 ?_
  refine lv_topi (fun f5 ef5 => ?_)
  obtain rfl : f5 = nI (6 * j + 1) := ef5.trans (nI_add (6 * j) 1)
  refine va_sld hx hb hX hbl hbA hS q1 dL_law_1317 ?_
  refine lv_aload_n hx hb dL_law_1318 rfl (lv_at hl 3 rfl) ?_
  refine lv_iload_n hx hb dL_law_1319 rfl (lv_at hl 0 rfl) ?_
  refine lv_iconst (v := 2) hx hb dL_law_1320 (by decide) ?_
  refine lv_iadd hx hb dL_law_1321 ?_
  refine lv_topi (fun f6 ef6 => ?_)
  obtain rfl : f6 = nI (6 * j + 2) := ef6.trans (nI_add (6 * j) 2)
  refine va_sld hx hb hX hbl hbA hS q2 dL_law_1322 ?_
  refine lv_aload_n hx hb dL_law_1323 rfl (lv_at hl 3 rfl) ?_
  refine lv_iload_n hx hb dL_law_1324 rfl (lv_at hl 0 rfl) ?_
  refine lv_iconst (v := 3) hx hb dL_law_1325 (by decide) ?_
  refine lv_iadd hx hb dL_law_1326 ?_
  refine lv_topi (fun f7 ef7 => ?_)
  obtain rfl : f7 = nI (6 * j + 3) := ef7.trans (nI_add (6 * j) 3)
  refine va_sld hx hb hX hbl hbA hS q3 dL_law_1327 ?_
  refine cz_tenure C0 hA hN hK hST (xs ((nI (6 * j + 1)) : Int32).toNatClampNeg) (xs ((nI (6 * j + 2)) : Int32).toNatClampNeg) (xs ((nI (6 * j + 3)) : Int32).toNatClampNeg) q6 hZS hP2 hP1 hD2 hap.sy hS hl (fun r8 W2 H locs _hr hZS hP2 hP1 hD2 hap hS => ?_)
  have hap := hap.sy
  have hXS := hXS.imp (Q := PS _ _ (T + 1) _ _ _ _ _ _) (fun x0 x2 x5 x6 x8 x7 x9 x10 K L M h => h)
  refine lv_pop hx hb dL_law_1331 rfl ?_
  refine lv_goto (tgt := 1695) hx hb dL_law_1332 (by decide) ?_
  exact kk H locs _ _ q7 q8 ⟨_, _, (T + 1), _, _, _, _, _, _, _, _, q9, hXS, hZS, hP1, hP2, hD1, hD2, hap⟩ hS
set_option maxHeartbeats 4000000 in
set_option maxRecDepth 100000 in
theorem law_c27 {p : Program} {l : Launch} {e : Env} {s : State} {m : MethodId} {below : List Frame} {meth : Method} {c : Code} {b Ln : Nat} {xs : Nat → Int32} (C0 : lw_At p s m meth c b Ln xs) {D : va_G} {cy : Nat → ClassId} {A : Nat → Prop} (hA : ∀ q, s.heap.size ≤ q → A q) (hA2 : ∀ q, A q → s.heap.size ≤ q) (hbA : ¬ A b) (hN : NW s) (hK : va_K D vwCl (tysC cy) s) (hST : STAT A s) {xa za : Nat} {j : Nat} {H : Heap} {locs : List Loc} {cells slots : Nat} {ls : Array Slot} (hj : 6 * j + 6 ≤ Ln) (hLn : Ln ≤ 3072) (hc : cells + 720 ≤ 600000) (hs : slots + 4320 ≤ 7302250) (hLS : LSt D cy A xa za j H) (hS : va_S A s.heap H locs) (hl : lv_has ls 4 [(3, .int (nI (6 * j))), (2, .ref za), (1, .ref xa), (0, .ref b)]) (kk : ∀ (H1 : Heap) (locs1 : List Loc) (c1 s1 : Nat), c1 ≤ cells + 720 → s1 ≤ slots + 4320 → LSt D cy A xa za (j + 1) H1 → va_S A s.heap H1 locs1 → W p l e room_1 s m #[Value.ref b] below meth c H1 locs1 c1 s1 (lw_Z below #[Value.ref b] s) (F0 m 1695 ls [])) : W p l e room_1 s m #[Value.ref b] below meth c H locs cells slots (lw_Z below #[Value.ref b] s) (F0 m 1335 ls []) := by
  obtain ⟨hx, hb, hr, hml, hown, hts, hX, hbl, hlocks, hgv⟩ := id C0
  have hg : ∀ w ∈ lw_good, w.before #[Value.ref b] s = true := fun w h => hts w (List.mem_filter.mp h).1
  have hown : s.vm.findClass RL = some m.cls := hown
  obtain ⟨n, n3, T, PK, PT, SX, SY, WH, CA, W1, W2, hT, hXS, hZS, hP1, hP2, hD1, hD2, hap⟩ := hLS
  have q1 := inbN (6 * j + 1) Ln (by omega) (by omega)
  have q2 := inbN (6 * j + 2) Ln (by omega) (by omega)
  have q3 := inbN (6 * j + 3) Ln (by omega) (by omega)
  have q4 : (cells + 0) ≤ 600000 ∧ (slots + 0) ≤ 7302250 := ⟨by omega, by omega⟩
  have q5 : 0 ≤ T ∧ T ≤ 900000 := ⟨by omega, by omega⟩
  have q6 : ((cells + 0) + 0) ≤ 600000 ∧ ((slots + 0) + 0) ≤ 7302250 := ⟨by omega, by omega⟩
  have q7 : ((cells + 0) + 0) ≤ cells + 720 := by omega
  have q8 : ((slots + 0) + 0) ≤ slots + 4320 := by omega
  have q9 : 0 ≤ (T + 1) ∧ (T + 1) ≤ ((j + 1 : Nat) : Int) := ⟨by omega, by omega⟩
  refine lv_aload_n hx hb dL_law_1335 rfl (lv_at hl 2 rfl) ?_
  refine lv_aload_n hx hb dL_law_1336 rfl (lv_at hl 3 rfl) ?_
  refine lv_iload_n hx hb dL_law_1337 rfl (lv_at hl 0 rfl) ?_
  refine lv_iconst (v := 1) hx hb dL_law_1338 (by decide) ?_
  refine lv_iadd hx hb dL_law_1339 ?_
  refine lv_topi (fun f1 ef1 => ?_)
  obtain rfl : f1 = nI (6 * j + 1) := ef1.trans (nI_add (6 * j) 1)
  refine va_sld hx hb hX hbl hbA hS q1 dL_law_1340 ?_
  refine lv_aload_n hx hb dL_law_1341 rfl (lv_at hl 3 rfl) ?_
  refine lv_iload_n hx hb dL_law_1342 rfl (lv_at hl 0 rfl) ?_
  refine lv_iconst (v := 2) hx hb dL_law_1343 (by decide) ?_
  refine lv_iadd hx hb dL_law_1344 ?_
  refine lv_topi (fun f2 ef2 => ?_)
  obtain rfl : f2 = nI (6 * j + 2) := ef2.trans (nI_add (6 * j) 2)
  refine va_sld hx hb hX hbl hbA hS q2 dL_law_1345 ?_
  refine lv_aload_n hx hb dL_law_1346 rfl (lv_at hl 3 rfl) ?_
  refine lv_iload_n hx hb dL_law_1347 rfl (lv_at hl 0 rfl) ?_
  refine lv_iconst (v := 3) hx hb dL_law_1348 (by decide) ?_
  refine lv_iadd hx hb dL_law_1349 ?_
  refine lv_topi (fun f3 ef3 => ?_)
  obtain rfl : f3 = nI (6 * j + 3) := ef3.trans (nI_add (6 * j) 3)
  refine va_sld hx hb hX hbl hbA hS q3 dL_law_1350 ?_
  refine cx_who C0 hA hN hK hST (xs ((nI (6 * j + 1)) : Int32).toNatClampNeg) (xs ((nI (6 * j + 2)) : Int32).toNatClampNeg) (xs ((nI (6 * j + 3)) : Int32).toNatClampNeg) q4 q5 hZS.svhi hXS hP1 hP2 hD1 hap hS hl (fun r4 W1 H locs hXS hP1 hP2 hD1 hap hS => ?_)
  refine lv_pop hx hb dL_law_1354 rfl ?_
  refine lv_aload_n hx hb dL_law_1355 rfl (lv_at hl 1 rfl) ?_
  refine lv_aload_n hx hb dL_law_1356 rfl (lv_at hl 3 rfl) ?_
  refine lv_iload_n hx hb dL_law_1357 rfl (lv_at hl 0 rfl) ?_
  refine lv_iconst (v := 1) hx hb dL_law_1358 (by decide) ?_
  refine lv_iadd hx hb dL_law_1359 ?_
  refine lv_topi (fun f5 ef5 => ?_)
  obtain rfl : f5 = nI (6 * j + 1) := ef5.trans (nI_add (6 * j) 1)
  refine va_sld hx hb hX hbl hbA hS q1 dL_law_1360 ?_
  refine lv_aload_n hx hb dL_law_1361 rfl (lv_at hl 3 rfl) ?_
  refine lv_iload_n hx hb dL_law_1362 rfl (lv_at hl 0 rfl) ?_
  refine lv_iconst (v := 2) hx hb dL_law_1363 (by decide) ?_
  refine lv_iadd hx hb dL_law_1364 ?_
  refine lv_topi (fun f6 ef6 => ?_)
  obtain rfl : f6 = nI (6 * j + 2) := ef6.trans (nI_add (6 * j) 2)
  refine va_sld hx hb hX hbl hbA hS q2 dL_law_1365 ?_
  refine lv_aload_n hx hb dL_law_1366 rfl (lv_at hl 3 rfl) ?_
  refine lv_iload_n hx hb dL_law_1367 rfl (lv_at hl 0 rfl) ?_
  refine lv_iconst (v := 3) hx hb dL_law_1368 (by decide) ?_
  refine lv_iadd hx hb dL_law_1369 ?_
  refine lv_topi (fun f7 ef7 => ?_)
  obtain rfl : f7 = nI (6 * j + 3) := ef7.trans (nI_add (6 * j) 3)
  refine va_sld hx hb hX hbl hbA hS q3 dL_law_1370 ?_
  refine cz_who C0 hA hN hK hST (xs ((nI (6 * j + 1)) : Int32).toNatClampNeg) (xs ((nI (6 * j + 2)) : Int32).toNatClampNeg) (xs ((nI (6 * j + 3)) : Int32).toNatClampNeg) q6 hZS hP2 hP1 hD2 hap.sy hS hl (fun r8 W2 H locs hZS hP2 hP1 hD2 hap hS => ?_)
  have hap := hap.sy
  have hXS := hXS.imp (Q := PS _ _ (T + 1) _ _ _ _ _ _) (fun x0 x2 x5 x6 x8 x7 x9 x10 K L M h => h)
  refine lv_pop hx hb dL_law_1374 rfl ?_
  refine lv_goto (tgt := 1695) hx hb dL_law_1375 (by decide) ?_
  exact kk H locs _ _ q7 q8 ⟨_, _, (T + 1), _, _, _, _, _, _, _, _, q9, hXS, hZS, hP1, hP2, hD1, hD2, hap⟩ hS
set_option maxHeartbeats 4000000 in
set_option maxRecDepth 100000 in
theorem law_c28 {p : Program} {l : Launch} {e : Env} {s : State} {m : MethodId} {below : List Frame} {meth : Method} {c : Code} {b Ln : Nat} {xs : Nat → Int32} (C0 : lw_At p s m meth c b Ln xs) {D : va_G} {cy : Nat → ClassId} {A : Nat → Prop} (hA : ∀ q, s.heap.size ≤ q → A q) (hA2 : ∀ q, A q → s.heap.size ≤ q) (hbA : ¬ A b) (hN : NW s) (hK : va_K D vwCl (tysC cy) s) (hST : STAT A s) {xa za : Nat} {j : Nat} {H : Heap} {locs : List Loc} {cells slots : Nat} {ls : Array Slot} (hj : 6 * j + 6 ≤ Ln) (hLn : Ln ≤ 3072) (hc : cells + 720 ≤ 600000) (hs : slots + 4320 ≤ 7302250) (hLS : LSt D cy A xa za j H) (hS : va_S A s.heap H locs) (hl : lv_has ls 4 [(3, .int (nI (6 * j))), (2, .ref za), (1, .ref xa), (0, .ref b)]) (kk : ∀ (H1 : Heap) (locs1 : List Loc) (c1 s1 : Nat), c1 ≤ cells + 720 → s1 ≤ slots + 4320 → LSt D cy A xa za (j + 1) H1 → va_S A s.heap H1 locs1 → W p l e room_1 s m #[Value.ref b] below meth c H1 locs1 c1 s1 (lw_Z below #[Value.ref b] s) (F0 m 1695 ls [])) : W p l e room_1 s m #[Value.ref b] below meth c H locs cells slots (lw_Z below #[Value.ref b] s) (F0 m 1378 ls []) := by
  obtain ⟨hx, hb, hr, hml, hown, hts, hX, hbl, hlocks, hgv⟩ := id C0
  have hg : ∀ w ∈ lw_good, w.before #[Value.ref b] s = true := fun w h => hts w (List.mem_filter.mp h).1
  have hown : s.vm.findClass RL = some m.cls := hown
  obtain ⟨n, n3, T, PK, PT, SX, SY, WH, CA, W1, W2, hT, hXS, hZS, hP1, hP2, hD1, hD2, hap⟩ := hLS
  have q1 := inbN (6 * j + 1) Ln (by omega) (by omega)
  have q2 := inbN (6 * j + 2) Ln (by omega) (by omega)
  have q3 := inbN (6 * j + 3) Ln (by omega) (by omega)
  have q4 : (cells + 0) ≤ 600000 ∧ (slots + 0) ≤ 7302250 := ⟨by omega, by omega⟩
  have q5 : 0 ≤ T ∧ T ≤ 900000 := ⟨by omega, by omega⟩
  have q6 : ((cells + 0) + 0) ≤ 600000 ∧ ((slots + 0) + 0) ≤ 7302250 := ⟨by omega, by omega⟩
  have q7 : ((cells + 0) + 0) ≤ cells + 720 := by omega
  have q8 : ((slots + 0) + 0) ≤ slots + 4320 := by omega
  have q9 : 0 ≤ (T + 1) ∧ (T + 1) ≤ ((j + 1 : Nat) : Int) := ⟨by omega, by omega⟩
  refine lv_aload_n hx hb dL_law_1378 rfl (lv_at hl 2 rfl) ?_
  refine lv_aload_n hx hb dL_law_1379 rfl (lv_at hl 3 rfl) ?_
  refine lv_iload_n hx hb dL_law_1380 rfl (lv_at hl 0 rfl) ?_
  refine lv_iconst (v := 1) hx hb dL_law_1381 (by decide) ?_
  refine lv_iadd hx hb dL_law_1382 ?_
  refine lv_topi (fun f1 ef1 => ?_)
  obtain rfl : f1 = nI (6 * j + 1) := ef1.trans (nI_add (6 * j) 1)
  refine va_sld hx hb hX hbl hbA hS q1 dL_law_1383 ?_
  refine lv_aload_n hx hb dL_law_1384 rfl (lv_at hl 3 rfl) ?_
  refine lv_iload_n hx hb dL_law_1385 rfl (lv_at hl 0 rfl) ?_
  refine lv_iconst (v := 2) hx hb dL_law_1386 (by decide) ?_
  refine lv_iadd hx hb dL_law_1387 ?_
  refine lv_topi (fun f2 ef2 => ?_)
  obtain rfl : f2 = nI (6 * j + 2) := ef2.trans (nI_add (6 * j) 2)
  refine va_sld hx hb hX hbl hbA hS q2 dL_law_1388 ?_
  refine lv_aload_n hx hb dL_law_1389 rfl (lv_at hl 3 rfl) ?_
  refine lv_iload_n hx hb dL_law_1390 rfl (lv_at hl 0 rfl) ?_
  refine lv_iconst (v := 3) hx hb dL_law_1391 (by decide) ?_
  refine lv_iadd hx hb dL_law_1392 ?_
  refine lv_topi (fun f3 ef3 => ?_)
  obtain rfl : f3 = nI (6 * j + 3) := ef3.trans (nI_add (6 * j) 3)
  refine va_sld hx hb hX hbl hbA hS q3 dL_law_1393 ?_
  refine cx_stretch C0 hA hN hK hST (xs ((nI (6 * j + 1)) : Int32).toNatClampNeg) (xs ((nI (6 * j + 2)) : Int32).toNatClampNeg) (xs ((nI (6 * j + 3)) : Int32).toNatClampNeg) q4 q5 hZS.svhi hXS hP1 hP2 hD1 hap hS hl (fun r4 W1 H locs hXS hP1 hP2 hD1 hap hS => ?_)
  refine lv_pop2_2 hx hb dL_law_1397 rfl ?_
  refine lv_aload_n hx hb dL_law_1398 rfl (lv_at hl 1 rfl) ?_
  refine lv_aload_n hx hb dL_law_1399 rfl (lv_at hl 3 rfl) ?_
  refine lv_iload_n hx hb dL_law_1400 rfl (lv_at hl 0 rfl) ?_
  refine lv_iconst (v := 1) hx hb dL_law_1401 (by decide) ?_
  refine lv_iadd hx hb dL_law_1402 ?_
  refine lv_topi (fun f5 ef5 => ?_)
  obtain rfl : f5 = nI (6 * j + 1) := ef5.trans (nI_add (6 * j) 1)
  refine va_sld hx hb hX hbl hbA hS q1 dL_law_1403 ?_
  refine lv_aload_n hx hb dL_law_1404 rfl (lv_at hl 3 rfl) ?_
  refine lv_iload_n hx hb dL_law_1405 rfl (lv_at hl 0 rfl) ?_
  refine lv_iconst (v := 2) hx hb dL_law_1406 (by decide) ?_
  refine lv_iadd hx hb dL_law_1407 ?_
  refine lv_topi (fun f6 ef6 => ?_)
  obtain rfl : f6 = nI (6 * j + 2) := ef6.trans (nI_add (6 * j) 2)
  refine va_sld hx hb hX hbl hbA hS q2 dL_law_1408 ?_
  refine lv_aload_n hx hb dL_law_1409 rfl (lv_at hl 3 rfl) ?_
  refine lv_iload_n hx hb dL_law_1410 rfl (lv_at hl 0 rfl) ?_
  refine lv_iconst (v := 3) hx hb dL_law_1411 (by decide) ?_
  refine lv_iadd hx hb dL_law_1412 ?_
  refine lv_topi (fun f7 ef7 => ?_)
  obtain rfl : f7 = nI (6 * j + 3) := ef7.trans (nI_add (6 * j) 3)
  refine va_sld hx hb hX hbl hbA hS q3 dL_law_1413 ?_
  refine cz_stretch C0 hA hN hK hST (xs ((nI (6 * j + 1)) : Int32).toNatClampNeg) (xs ((nI (6 * j + 2)) : Int32).toNatClampNeg) (xs ((nI (6 * j + 3)) : Int32).toNatClampNeg) q6 hZS hP2 hP1 hD2 hap.sy hS hl (fun r8 W2 H locs hZS hP2 hP1 hD2 hap hS => ?_)
  have hap := hap.sy
  have hXS := hXS.imp (Q := PS _ _ (T + 1) _ _ _ _ _ _) (fun x0 x2 x5 x6 x8 x7 x9 x10 K L M h => h)
  refine lv_pop2_2 hx hb dL_law_1417 rfl ?_
  refine lv_goto (tgt := 1695) hx hb dL_law_1418 (by decide) ?_
  exact kk H locs _ _ q7 q8 ⟨_, _, (T + 1), _, _, _, _, _, _, _, _, q9, hXS, hZS, hP1, hP2, hD1, hD2, hap⟩ hS
set_option maxHeartbeats 4000000 in
set_option maxRecDepth 100000 in
theorem law_c29 {p : Program} {l : Launch} {e : Env} {s : State} {m : MethodId} {below : List Frame} {meth : Method} {c : Code} {b Ln : Nat} {xs : Nat → Int32} (C0 : lw_At p s m meth c b Ln xs) {D : va_G} {cy : Nat → ClassId} {A : Nat → Prop} (hA : ∀ q, s.heap.size ≤ q → A q) (hA2 : ∀ q, A q → s.heap.size ≤ q) (hbA : ¬ A b) (hN : NW s) (hK : va_K D vwCl (tysC cy) s) (hST : STAT A s) {xa za : Nat} {j : Nat} {H : Heap} {locs : List Loc} {cells slots : Nat} {ls : Array Slot} (hj : 6 * j + 6 ≤ Ln) (hLn : Ln ≤ 3072) (hc : cells + 720 ≤ 600000) (hs : slots + 4320 ≤ 7302250) (hLS : LSt D cy A xa za j H) (hS : va_S A s.heap H locs) (hl : lv_has ls 4 [(3, .int (nI (6 * j))), (2, .ref za), (1, .ref xa), (0, .ref b)]) (kk : ∀ (H1 : Heap) (locs1 : List Loc) (c1 s1 : Nat), c1 ≤ cells + 720 → s1 ≤ slots + 4320 → LSt D cy A xa za (j + 1) H1 → va_S A s.heap H1 locs1 → W p l e room_1 s m #[Value.ref b] below meth c H1 locs1 c1 s1 (lw_Z below #[Value.ref b] s) (F0 m 1695 ls [])) : W p l e room_1 s m #[Value.ref b] below meth c H locs cells slots (lw_Z below #[Value.ref b] s) (F0 m 1421 ls []) := by
  obtain ⟨hx, hb, hr, hml, hown, hts, hX, hbl, hlocks, hgv⟩ := id C0
  have hg : ∀ w ∈ lw_good, w.before #[Value.ref b] s = true := fun w h => hts w (List.mem_filter.mp h).1
  have hown : s.vm.findClass RL = some m.cls := hown
  obtain ⟨n, n3, T, PK, PT, SX, SY, WH, CA, W1, W2, hT, hXS, hZS, hP1, hP2, hD1, hD2, hap⟩ := hLS
  have q1 := inbN (6 * j + 1) Ln (by omega) (by omega)
  have q2 := inbN (6 * j + 2) Ln (by omega) (by omega)
  have q3 := inbN (6 * j + 3) Ln (by omega) (by omega)
  have q4 : (cells + 0) ≤ 600000 ∧ (slots + 0) ≤ 7302250 := ⟨by omega, by omega⟩
  have q5 : 0 ≤ T ∧ T ≤ 900000 := ⟨by omega, by omega⟩
  have q6 : ((cells + 0) + 0) ≤ 600000 ∧ ((slots + 0) + 0) ≤ 7302250 := ⟨by omega, by omega⟩
  have q7 : ((cells + 0) + 0) ≤ cells + 720 := by omega
  have q8 : ((slots + 0) + 0) ≤ slots + 4320 := by omega
  have q9 : 0 ≤ (T + 1) ∧ (T + 1) ≤ ((j + 1 : Nat) : Int) := ⟨by omega, by omega⟩
  refine lv_aload_n hx hb dL_law_1421 rfl (lv_at hl 2 rfl) ?_
  refine lv_aload_n hx hb dL_law_1422 rfl (lv_at hl 3 rfl) ?_
  refine lv_iload_n hx hb dL_law_1423 rfl (lv_at hl 0 rfl) ?_
  refine lv_iconst (v := 1) hx hb dL_law_1424 (by decide) ?_
  refine lv_iadd hx hb dL_law_1425 ?_
  refine lv_topi (fun f1 ef1 => ?_)
  obtain rfl : f1 = nI (6 * j + 1) := ef1.trans (nI_add (6 * j) 1)
  refine va_sld hx hb hX hbl hbA hS q1 dL_law_1426 ?_
  refine lv_aload_n hx hb dL_law_1427 rfl (lv_at hl 3 rfl) ?_
  refine lv_iload_n hx hb dL_law_1428 rfl (lv_at hl 0 rfl) ?_
  refine lv_iconst (v := 2) hx hb dL_law_1429 (by decide) ?_
  refine lv_iadd hx hb dL_law_1430 ?_
  refine lv_topi (fun f2 ef2 => ?_)
  obtain rfl : f2 = nI (6 * j + 2) := ef2.trans (nI_add (6 * j) 2)
  refine va_sld hx hb hX hbl hbA hS q2 dL_law_1431 ?_
  refine lv_aload_n hx hb dL_law_1432 rfl (lv_at hl 3 rfl) ?_
  refine lv_iload_n hx hb dL_law_1433 rfl (lv_at hl 0 rfl) ?_
  refine lv_iconst (v := 3) hx hb dL_law_1434 (by decide) ?_
  refine lv_iadd hx hb dL_law_1435 ?_
  refine lv_topi (fun f3 ef3 => ?_)
  obtain rfl : f3 = nI (6 * j + 3) := ef3.trans (nI_add (6 * j) 3)
  refine va_sld hx hb hX hbl hbA hS q3 dL_law_1436 ?_
  refine cx_due C0 hA hN hK hST (xs ((nI (6 * j + 1)) : Int32).toNatClampNeg) (xs ((nI (6 * j + 2)) : Int32).toNatClampNeg) (xs ((nI (6 * j + 3)) : Int32).toNatClampNeg) q4 q5 hZS.svhi hXS hP1 hP2 hD1 hap hS hl (fun r4 W1 H locs hXS hP1 hP2 hD1 hap hS => ?_)
  refine lv_pop2_2 hx hb dL_law_1440 rfl ?_
  refine lv_aload_n hx hb dL_law_1441 rfl (lv_at hl 1 rfl) ?_
  refine lv_aload_n hx hb dL_law_1442 rfl (lv_at hl 3 rfl) ?_
  refine lv_iload_n hx hb dL_law_1443 rfl (lv_at hl 0 rfl) ?_
  refine lv_iconst (v := 1) hx hb dL_law_1444 (by decide) ?_
  refine lv_iadd hx hb dL_law_1445 ?_
  refine lv_topi (fun f5 ef5 => ?_)
  obtain rfl : f5 = nI (6 * j + 1) := ef5.trans (nI_add (6 * j) 1)
  refine va_sld hx hb hX hbl hbA hS q1 dL_law_1446 ?_
  refine lv_aload_n hx hb dL_law_1447 rfl (lv_at hl 3 rfl) ?_
  refine lv_iload_n hx hb dL_law_1448 rfl (lv_at hl 0 rfl) ?_
  refine lv_iconst (v := 2) hx hb dL_law_1449 (by decide) ?_
  refine lv_iadd hx hb dL_law_1450 ?_
  refine lv_topi (fun f6 ef6 => ?_)
  obtain rfl : f6 = nI (6 * j + 2) := ef6.trans (nI_add (6 * j) 2)
  refine va_sld hx hb hX hbl hbA hS q2 dL_law_1451 ?_
  refine lv_aload_n hx hb dL_law_1452 rfl (lv_at hl 3 rfl) ?_
  refine lv_iload_n hx hb dL_law_1453 rfl (lv_at hl 0 rfl) ?_
  refine lv_iconst (v := 3) hx hb dL_law_1454 (by decide) ?_
  refine lv_iadd hx hb dL_law_1455 ?_
  refine lv_topi (fun f7 ef7 => ?_)
  obtain rfl : f7 = nI (6 * j + 3) := ef7.trans (nI_add (6 * j) 3)
  refine va_sld hx hb hX hbl hbA hS q3 dL_law_1456 ?_
  refine cz_due C0 hA hN hK hST (xs ((nI (6 * j + 1)) : Int32).toNatClampNeg) (xs ((nI (6 * j + 2)) : Int32).toNatClampNeg) (xs ((nI (6 * j + 3)) : Int32).toNatClampNeg) q6 hZS hP2 hP1 hD2 hap.sy hS hl (fun r8 W2 H locs hZS hP2 hP1 hD2 hap hS => ?_)
  have hap := hap.sy
  have hXS := hXS.imp (Q := PS _ _ (T + 1) _ _ _ _ _ _) (fun x0 x2 x5 x6 x8 x7 x9 x10 K L M h => h)
  refine lv_pop2_2 hx hb dL_law_1460 rfl ?_
  refine lv_goto (tgt := 1695) hx hb dL_law_1461 (by decide) ?_
  exact kk H locs _ _ q7 q8 ⟨_, _, (T + 1), _, _, _, _, _, _, _, _, q9, hXS, hZS, hP1, hP2, hD1, hD2, hap⟩ hS
set_option maxHeartbeats 4000000 in
set_option maxRecDepth 100000 in
theorem law_c30 {p : Program} {l : Launch} {e : Env} {s : State} {m : MethodId} {below : List Frame} {meth : Method} {c : Code} {b Ln : Nat} {xs : Nat → Int32} (C0 : lw_At p s m meth c b Ln xs) {D : va_G} {cy : Nat → ClassId} {A : Nat → Prop} (hA : ∀ q, s.heap.size ≤ q → A q) (hA2 : ∀ q, A q → s.heap.size ≤ q) (hbA : ¬ A b) (hN : NW s) (hK : va_K D vwCl (tysC cy) s) (hST : STAT A s) {xa za : Nat} {j : Nat} {H : Heap} {locs : List Loc} {cells slots : Nat} {ls : Array Slot} (hj : 6 * j + 6 ≤ Ln) (hLn : Ln ≤ 3072) (hc : cells + 720 ≤ 600000) (hs : slots + 4320 ≤ 7302250) (hLS : LSt D cy A xa za j H) (hS : va_S A s.heap H locs) (hl : lv_has ls 4 [(3, .int (nI (6 * j))), (2, .ref za), (1, .ref xa), (0, .ref b)]) (kk : ∀ (H1 : Heap) (locs1 : List Loc) (c1 s1 : Nat), c1 ≤ cells + 720 → s1 ≤ slots + 4320 → LSt D cy A xa za (j + 1) H1 → va_S A s.heap H1 locs1 → W p l e room_1 s m #[Value.ref b] below meth c H1 locs1 c1 s1 (lw_Z below #[Value.ref b] s) (F0 m 1695 ls [])) : W p l e room_1 s m #[Value.ref b] below meth c H locs cells slots (lw_Z below #[Value.ref b] s) (F0 m 1464 ls []) := by
  obtain ⟨hx, hb, hr, hml, hown, hts, hX, hbl, hlocks, hgv⟩ := id C0
  have hg : ∀ w ∈ lw_good, w.before #[Value.ref b] s = true := fun w h => hts w (List.mem_filter.mp h).1
  have hown : s.vm.findClass RL = some m.cls := hown
  obtain ⟨n, n3, T, PK, PT, SX, SY, WH, CA, W1, W2, hT, hXS, hZS, hP1, hP2, hD1, hD2, hap⟩ := hLS
  have q1 := inbN (6 * j + 1) Ln (by omega) (by omega)
  have q2 := inbN (6 * j + 2) Ln (by omega) (by omega)
  have q3 : (cells + 0) ≤ 600000 ∧ (slots + 0) ≤ 7302250 := ⟨by omega, by omega⟩
  have q4 : 0 ≤ T ∧ T ≤ 900000 := ⟨by omega, by omega⟩
  have q5 : ((cells + 0) + 0) ≤ 600000 ∧ ((slots + 0) + 0) ≤ 7302250 := ⟨by omega, by omega⟩
  have q6 : ((cells + 0) + 0) ≤ cells + 720 := by omega
  have q7 : ((slots + 0) + 0) ≤ slots + 4320 := by omega
  have q8 : 0 ≤ (T + 1) ∧ (T + 1) ≤ ((j + 1 : Nat) : Int) := ⟨by omega, by omega⟩
  refine lv_aload_n hx hb dL_law_1464 rfl (lv_at hl 2 rfl) ?_
  refine lv_aload_n hx hb dL_law_1465 rfl (lv_at hl 3 rfl) ?_
  refine lv_iload_n hx hb dL_law_1466 rfl (lv_at hl 0 rfl) ?_
  refine lv_iconst (v := 1) hx hb dL_law_1467 (by decide) ?_
  refine lv_iadd hx hb dL_law_1468 ?_
  refine lv_topi (fun f1 ef1 => ?_)
  obtain rfl : f1 = nI (6 * j + 1) := ef1.trans (nI_add (6 * j) 1)
  refine va_sld hx hb hX hbl hbA hS q1 dL_law_1469 ?_
  refine lv_aload_n hx hb dL_law_1470 rfl (lv_at hl 3 rfl) ?_
  refine lv_iload_n hx hb dL_law_1471 rfl (lv_at hl 0 rfl) ?_
  refine lv_iconst (v := 2) hx hb dL_law_1472 (by decide) ?_
  refine lv_iadd hx hb dL_law_1473 ?_
  refine lv_topi (fun f2 ef2 => ?_)
  obtain rfl : f2 = nI (6 * j + 2) := ef2.trans (nI_add (6 * j) 2)
  refine va_sld hx hb hX hbl hbA hS q2 dL_law_1474 ?_
  refine cx_told C0 hA hN hK hST (xs ((nI (6 * j + 1)) : Int32).toNatClampNeg) (xs ((nI (6 * j + 2)) : Int32).toNatClampNeg) q3 q4 hZS.svhi hXS hP1 hP2 hD1 hap hS hl (fun r3 W1 H locs _hr hXS hP1 hP2 hD1 hap hS => ?_)
  refine lv_pop hx hb dL_law_1478 rfl ?_
  refine lv_aload_n hx hb dL_law_1479 rfl (lv_at hl 1 rfl) ?_
  refine lv_aload_n hx hb dL_law_1480 rfl (lv_at hl 3 rfl) ?_
  refine lv_iload_n hx hb dL_law_1481 rfl (lv_at hl 0 rfl) ?_
  refine lv_iconst (v := 1) hx hb dL_law_1482 (by decide) ?_
  refine lv_iadd hx hb dL_law_1483 ?_
  refine lv_topi (fun f4 ef4 => ?_)
  obtain rfl : f4 = nI (6 * j + 1) := ef4.trans (nI_add (6 * j) 1)
  refine va_sld hx hb hX hbl hbA hS q1 dL_law_1484 ?_
  refine lv_aload_n hx hb dL_law_1485 rfl (lv_at hl 3 rfl) ?_
  refine lv_iload_n hx hb dL_law_1486 rfl (lv_at hl 0 rfl) ?_
  refine lv_iconst (v := 2) hx hb dL_law_1487 (by decide) ?_
  refine lv_iadd hx hb dL_law_1488 ?_
  refine lv_topi (fun f5 ef5 => ?_)
  obtain rfl : f5 = nI (6 * j + 2) := ef5.trans (nI_add (6 * j) 2)
  refine va_sld hx hb hX hbl hbA hS q2 dL_law_1489 ?_
  refine cz_told C0 hA hN hK hST (xs ((nI (6 * j + 1)) : Int32).toNatClampNeg) (xs ((nI (6 * j + 2)) : Int32).toNatClampNeg) q5 hZS hP2 hP1 hD2 hap.sy hS hl (fun r6 W2 H locs _hr hZS hP2 hP1 hD2 hap hS => ?_)
  have hap := hap.sy
  have hXS := hXS.imp (Q := PS _ _ (T + 1) _ _ _ _ _ _) (fun x0 x2 x5 x6 x8 x7 x9 x10 K L M h => h)
  refine lv_pop hx hb dL_law_1493 rfl ?_
  refine lv_goto (tgt := 1695) hx hb dL_law_1494 (by decide) ?_
  exact kk H locs _ _ q6 q7 ⟨_, _, (T + 1), _, _, _, _, _, _, _, _, q8, hXS, hZS, hP1, hP2, hD1, hD2, hap⟩ hS
set_option maxHeartbeats 4000000 in
set_option maxRecDepth 100000 in
theorem law_c31 {p : Program} {l : Launch} {e : Env} {s : State} {m : MethodId} {below : List Frame} {meth : Method} {c : Code} {b Ln : Nat} {xs : Nat → Int32} (C0 : lw_At p s m meth c b Ln xs) {D : va_G} {cy : Nat → ClassId} {A : Nat → Prop} (hA : ∀ q, s.heap.size ≤ q → A q) (hA2 : ∀ q, A q → s.heap.size ≤ q) (hbA : ¬ A b) (hN : NW s) (hK : va_K D vwCl (tysC cy) s) (hST : STAT A s) {xa za : Nat} {j : Nat} {H : Heap} {locs : List Loc} {cells slots : Nat} {ls : Array Slot} (hj : 6 * j + 6 ≤ Ln) (hLn : Ln ≤ 3072) (hc : cells + 720 ≤ 600000) (hs : slots + 4320 ≤ 7302250) (hLS : LSt D cy A xa za j H) (hS : va_S A s.heap H locs) (hl : lv_has ls 4 [(3, .int (nI (6 * j))), (2, .ref za), (1, .ref xa), (0, .ref b)]) (kk : ∀ (H1 : Heap) (locs1 : List Loc) (c1 s1 : Nat), c1 ≤ cells + 720 → s1 ≤ slots + 4320 → LSt D cy A xa za (j + 1) H1 → va_S A s.heap H1 locs1 → W p l e room_1 s m #[Value.ref b] below meth c H1 locs1 c1 s1 (lw_Z below #[Value.ref b] s) (F0 m 1695 ls [])) : W p l e room_1 s m #[Value.ref b] below meth c H locs cells slots (lw_Z below #[Value.ref b] s) (F0 m 1497 ls []) := by
  obtain ⟨hx, hb, hr, hml, hown, hts, hX, hbl, hlocks, hgv⟩ := id C0
  have hg : ∀ w ∈ lw_good, w.before #[Value.ref b] s = true := fun w h => hts w (List.mem_filter.mp h).1
  have hown : s.vm.findClass RL = some m.cls := hown
  obtain ⟨n, n3, T, PK, PT, SX, SY, WH, CA, W1, W2, hT, hXS, hZS, hP1, hP2, hD1, hD2, hap⟩ := hLS
  have q1 := inbN (6 * j + 1) Ln (by omega) (by omega)
  have q2 := inbN (6 * j + 2) Ln (by omega) (by omega)
  have q3 := inbN (6 * j + 3) Ln (by omega) (by omega)
  have q4 : (cells + 0) ≤ 600000 ∧ (slots + 0) ≤ 7302250 := ⟨by omega, by omega⟩
  have q5 : 0 ≤ T ∧ T ≤ 900000 := ⟨by omega, by omega⟩
  have q6 : ((cells + 0) + 0) ≤ 600000 ∧ ((slots + 0) + 0) ≤ 7302250 := ⟨by omega, by omega⟩
  have q7 : ((cells + 0) + 0) ≤ cells + 720 := by omega
  have q8 : ((slots + 0) + 0) ≤ slots + 4320 := by omega
  have q9 : 0 ≤ (T + 1) ∧ (T + 1) ≤ ((j + 1 : Nat) : Int) := ⟨by omega, by omega⟩
  refine lv_aload_n hx hb dL_law_1497 rfl (lv_at hl 2 rfl) ?_
  refine lv_aload_n hx hb dL_law_1498 rfl (lv_at hl 3 rfl) ?_
  refine lv_iload_n hx hb dL_law_1499 rfl (lv_at hl 0 rfl) ?_
  refine lv_iconst (v := 1) hx hb dL_law_1500 (by decide) ?_
  refine lv_iadd hx hb dL_law_1501 ?_
  refine lv_topi (fun f1 ef1 => ?_)
  obtain rfl : f1 = nI (6 * j + 1) := ef1.trans (nI_add (6 * j) 1)
  refine va_sld hx hb hX hbl hbA hS q1 dL_law_1502 ?_
  refine lv_aload_n hx hb dL_law_1503 rfl (lv_at hl 3 rfl) ?_
  refine lv_iload_n hx hb dL_law_1504 rfl (lv_at hl 0 rfl) ?_
  refine lv_iconst (v := 2) hx hb dL_law_1505 (by decide) ?_
  refine lv_iadd hx hb dL_law_1506 ?_
  refine lv_topi (fun f2 ef2 => ?_)
  obtain rfl : f2 = nI (6 * j + 2) := ef2.trans (nI_add (6 * j) 2)
  refine va_sld hx hb hX hbl hbA hS q2 dL_law_1507 ?_
  refine lv_aload_n hx hb dL_law_1508 rfl (lv_at hl 3 rfl) ?_
  refine lv_iload_n hx hb dL_law_1509 rfl (lv_at hl 0 rfl) ?_
  refine lv_iconst (v := 3) hx hb dL_law_1510 (by decide) ?_
  refine lv_iadd hx hb dL_law_1511 ?_
  refine lv_topi (fun f3 ef3 => ?_)
  obtain rfl : f3 = nI (6 * j + 3) := ef3.trans (nI_add (6 * j) 3)
  refine va_sld hx hb hX hbl hbA hS q3 dL_law_1512 ?_
  refine cx_sum C0 hA hN hK hST (xs ((nI (6 * j + 1)) : Int32).toNatClampNeg) (xs ((nI (6 * j + 2)) : Int32).toNatClampNeg) (xs ((nI (6 * j + 3)) : Int32).toNatClampNeg) q4 q5 hZS.svhi hXS hP1 hP2 hD1 hap hS hl (fun r4 W1 H locs hXS hP1 hP2 hD1 hap hS => ?_)
  refine lv_pop2_2 hx hb dL_law_1516 rfl ?_
  refine lv_aload_n hx hb dL_law_1517 rfl (lv_at hl 1 rfl) ?_
  refine lv_aload_n hx hb dL_law_1518 rfl (lv_at hl 3 rfl) ?_
  refine lv_iload_n hx hb dL_law_1519 rfl (lv_at hl 0 rfl) ?_
  refine lv_iconst (v := 1) hx hb dL_law_1520 (by decide) ?_
  refine lv_iadd hx hb dL_law_1521 ?_
  refine lv_topi (fun f5 ef5 => ?_)
  obtain rfl : f5 = nI (6 * j + 1) := ef5.trans (nI_add (6 * j) 1)
  refine va_sld hx hb hX hbl hbA hS q1 dL_law_1522 ?_
  refine lv_aload_n hx hb dL_law_1523 rfl (lv_at hl 3 rfl) ?_
  refine lv_iload_n hx hb dL_law_1524 rfl (lv_at hl 0 rfl) ?_
  refine lv_iconst (v := 2) hx hb dL_law_1525 (by decide) ?_
  refine lv_iadd hx hb dL_law_1526 ?_
  refine lv_topi (fun f6 ef6 => ?_)
  obtain rfl : f6 = nI (6 * j + 2) := ef6.trans (nI_add (6 * j) 2)
  refine va_sld hx hb hX hbl hbA hS q2 dL_law_1527 ?_
  refine lv_aload_n hx hb dL_law_1528 rfl (lv_at hl 3 rfl) ?_
  refine lv_iload_n hx hb dL_law_1529 rfl (lv_at hl 0 rfl) ?_
  refine lv_iconst (v := 3) hx hb dL_law_1530 (by decide) ?_
  refine lv_iadd hx hb dL_law_1531 ?_
  refine lv_topi (fun f7 ef7 => ?_)
  obtain rfl : f7 = nI (6 * j + 3) := ef7.trans (nI_add (6 * j) 3)
  refine va_sld hx hb hX hbl hbA hS q3 dL_law_1532 ?_
  refine cz_sum C0 hA hN hK hST (xs ((nI (6 * j + 1)) : Int32).toNatClampNeg) (xs ((nI (6 * j + 2)) : Int32).toNatClampNeg) (xs ((nI (6 * j + 3)) : Int32).toNatClampNeg) q6 hZS hP2 hP1 hD2 hap.sy hS hl (fun r8 W2 H locs hZS hP2 hP1 hD2 hap hS => ?_)
  have hap := hap.sy
  have hXS := hXS.imp (Q := PS _ _ (T + 1) _ _ _ _ _ _) (fun x0 x2 x5 x6 x8 x7 x9 x10 K L M h => h)
  refine lv_pop2_2 hx hb dL_law_1536 rfl ?_
  refine lv_goto (tgt := 1695) hx hb dL_law_1537 (by decide) ?_
  exact kk H locs _ _ q7 q8 ⟨_, _, (T + 1), _, _, _, _, _, _, _, _, q9, hXS, hZS, hP1, hP2, hD1, hD2, hap⟩ hS
set_option maxHeartbeats 4000000 in
set_option maxRecDepth 100000 in
theorem law_c32 {p : Program} {l : Launch} {e : Env} {s : State} {m : MethodId} {below : List Frame} {meth : Method} {c : Code} {b Ln : Nat} {xs : Nat → Int32} (C0 : lw_At p s m meth c b Ln xs) {D : va_G} {cy : Nat → ClassId} {A : Nat → Prop} (hA : ∀ q, s.heap.size ≤ q → A q) (hA2 : ∀ q, A q → s.heap.size ≤ q) (hbA : ¬ A b) (hN : NW s) (hK : va_K D vwCl (tysC cy) s) (hST : STAT A s) {xa za : Nat} {j : Nat} {H : Heap} {locs : List Loc} {cells slots : Nat} {ls : Array Slot} (hj : 6 * j + 6 ≤ Ln) (hLn : Ln ≤ 3072) (hc : cells + 720 ≤ 600000) (hs : slots + 4320 ≤ 7302250) (hLS : LSt D cy A xa za j H) (hS : va_S A s.heap H locs) (hl : lv_has ls 4 [(3, .int (nI (6 * j))), (2, .ref za), (1, .ref xa), (0, .ref b)]) (kk : ∀ (H1 : Heap) (locs1 : List Loc) (c1 s1 : Nat), c1 ≤ cells + 720 → s1 ≤ slots + 4320 → LSt D cy A xa za (j + 1) H1 → va_S A s.heap H1 locs1 → W p l e room_1 s m #[Value.ref b] below meth c H1 locs1 c1 s1 (lw_Z below #[Value.ref b] s) (F0 m 1695 ls [])) : W p l e room_1 s m #[Value.ref b] below meth c H locs cells slots (lw_Z below #[Value.ref b] s) (F0 m 1540 ls []) := by
  obtain ⟨hx, hb, hr, hml, hown, hts, hX, hbl, hlocks, hgv⟩ := id C0
  have hg : ∀ w ∈ lw_good, w.before #[Value.ref b] s = true := fun w h => hts w (List.mem_filter.mp h).1
  have hown : s.vm.findClass RL = some m.cls := hown
  obtain ⟨n, n3, T, PK, PT, SX, SY, WH, CA, W1, W2, hT, hXS, hZS, hP1, hP2, hD1, hD2, hap⟩ := hLS
  have q1 := inbN (6 * j + 1) Ln (by omega) (by omega)
  have q2 := inbN (6 * j + 2) Ln (by omega) (by omega)
  have q3 := inbN (6 * j + 3) Ln (by omega) (by omega)
  have q4 : (cells + 0) ≤ 600000 ∧ (slots + 0) ≤ 7302250 := ⟨by omega, by omega⟩
  have q5 : 0 ≤ T ∧ T ≤ 900000 := ⟨by omega, by omega⟩
  have q6 : ((cells + 0) + 0) ≤ 600000 ∧ ((slots + 0) + 0) ≤ 7302250 := ⟨by omega, by omega⟩
  have q7 : ((cells + 0) + 0) ≤ cells + 720 := by omega
  have q8 : ((slots + 0) + 0) ≤ slots + 4320 := by omega
  have q9 : 0 ≤ (T + 1) ∧ (T + 1) ≤ ((j + 1 : Nat) : Int) := ⟨by omega, by omega⟩
  refine lv_aload_n hx hb dL_law_1540 rfl (lv_at hl 2 rfl) ?_
  refine lv_aload_n hx hb dL_law_1541 rfl (lv_at hl 3 rfl) ?_
  refine lv_iload_n hx hb dL_law_1542 rfl (lv_at hl 0 rfl) ?_
  refine lv_iconst (v := 1) hx hb dL_law_1543 (by decide) ?_
  refine lv_iadd hx hb dL_law_1544 ?_
  refine lv_topi (fun f1 ef1 => ?_)
  obtain rfl : f1 = nI (6 * j + 1) := ef1.trans (nI_add (6 * j) 1)
  refine va_sld hx hb hX hbl hbA hS q1 dL_law_1545 ?_
  refine lv_aload_n hx hb dL_law_1546 rfl (lv_at hl 3 rfl) ?_
  refine lv_iload_n hx hb dL_law_1547 rfl (lv_at hl 0 rfl) ?_
  refine lv_iconst (v := 2) hx hb dL_law_1548 (by decide) ?_
  refine lv_iadd hx hb dL_law_1549 ?_
  refine lv_topi (fun f2 ef2 => ?_)
  obtain rfl : f2 = nI (6 * j + 2) := ef2.trans (nI_add (6 * j) 2)
  refine va_sld hx hb hX hbl hbA hS q2 dL_law_1550 ?_
  refine lv_aload_n hx hb dL_law_1551 rfl (lv_at hl 3 rfl) ?_
  refine lv_iload_n hx hb dL_law_1552 rfl (lv_at hl 0 rfl) ?_
  refine lv_iconst (v := 3) hx hb dL_law_1553 (by decide) ?_
  refine lv_iadd hx hb dL_law_1554 ?_
  refine lv_topi (fun f3 ef3 => ?_)
  obtain rfl : f3 = nI (6 * j + 3) := ef3.trans (nI_add (6 * j) 3)
  refine va_sld hx hb hX hbl hbA hS q3 dL_law_1555 ?_
  refine cx_entry C0 hA hN hK hST (xs ((nI (6 * j + 1)) : Int32).toNatClampNeg) (xs ((nI (6 * j + 2)) : Int32).toNatClampNeg) (xs ((nI (6 * j + 3)) : Int32).toNatClampNeg) q4 q5 hZS.svhi hXS hP1 hP2 hD1 hap hS hl (fun r4 W1 H locs _hr hXS hP1 hP2 hD1 hap hS => ?_)
  refine lv_pop2_2 hx hb dL_law_1559 rfl ?_
  refine lv_aload_n hx hb dL_law_1560 rfl (lv_at hl 1 rfl) ?_
  refine lv_aload_n hx hb dL_law_1561 rfl (lv_at hl 3 rfl) ?_
  refine lv_iload_n hx hb dL_law_1562 rfl (lv_at hl 0 rfl) ?_
  refine lv_iconst (v := 1) hx hb dL_law_1563 (by decide) ?_
  refine lv_iadd hx hb dL_law_1564 ?_
  refine lv_topi (fun f5 ef5 => ?_)
  obtain rfl : f5 = nI (6 * j + 1) := ef5.trans (nI_add (6 * j) 1)
  refine va_sld hx hb hX hbl hbA hS q1 dL_law_1565 ?_
  refine lv_aload_n hx hb dL_law_1566 rfl (lv_at hl 3 rfl) ?_
  refine lv_iload_n hx hb dL_law_1567 rfl (lv_at hl 0 rfl) ?_
  refine lv_iconst (v := 2) hx hb dL_law_1568 (by decide) ?_
  refine lv_iadd hx hb dL_law_1569 ?_
  refine lv_topi (fun f6 ef6 => ?_)
  obtain rfl : f6 = nI (6 * j + 2) := ef6.trans (nI_add (6 * j) 2)
  refine va_sld hx hb hX hbl hbA hS q2 dL_law_1570 ?_
  refine lv_aload_n hx hb dL_law_1571 rfl (lv_at hl 3 rfl) ?_
  refine lv_iload_n hx hb dL_law_1572 rfl (lv_at hl 0 rfl) ?_
  refine lv_iconst (v := 3) hx hb dL_law_1573 (by decide) ?_
  refine lv_iadd hx hb dL_law_1574 ?_
  refine lv_topi (fun f7 ef7 => ?_)
  obtain rfl : f7 = nI (6 * j + 3) := ef7.trans (nI_add (6 * j) 3)
  refine va_sld hx hb hX hbl hbA hS q3 dL_law_1575 ?_
  refine cz_entry C0 hA hN hK hST (xs ((nI (6 * j + 1)) : Int32).toNatClampNeg) (xs ((nI (6 * j + 2)) : Int32).toNatClampNeg) (xs ((nI (6 * j + 3)) : Int32).toNatClampNeg) q6 hZS hP2 hP1 hD2 hap.sy hS hl (fun r8 W2 H locs _hr hZS hP2 hP1 hD2 hap hS => ?_)
  have hap := hap.sy
  have hXS := hXS.imp (Q := PS _ _ (T + 1) _ _ _ _ _ _) (fun x0 x2 x5 x6 x8 x7 x9 x10 K L M h => h)
  refine lv_pop2_2 hx hb dL_law_1579 rfl ?_
  refine lv_goto (tgt := 1695) hx hb dL_law_1580 (by decide) ?_
  exact kk H locs _ _ q7 q8 ⟨_, _, (T + 1), _, _, _, _, _, _, _, _, q9, hXS, hZS, hP1, hP2, hD1, hD2, hap⟩ hS
set_option maxHeartbeats 4000000 in
set_option maxRecDepth 100000 in
theorem law_c33 {p : Program} {l : Launch} {e : Env} {s : State} {m : MethodId} {below : List Frame} {meth : Method} {c : Code} {b Ln : Nat} {xs : Nat → Int32} (C0 : lw_At p s m meth c b Ln xs) {D : va_G} {cy : Nat → ClassId} {A : Nat → Prop} (hA : ∀ q, s.heap.size ≤ q → A q) (hA2 : ∀ q, A q → s.heap.size ≤ q) (hbA : ¬ A b) (hN : NW s) (hK : va_K D vwCl (tysC cy) s) (hST : STAT A s) {xa za : Nat} {j : Nat} {H : Heap} {locs : List Loc} {cells slots : Nat} {ls : Array Slot} (hj : 6 * j + 6 ≤ Ln) (hLn : Ln ≤ 3072) (hc : cells + 720 ≤ 600000) (hs : slots + 4320 ≤ 7302250) (hLS : LSt D cy A xa za j H) (hS : va_S A s.heap H locs) (hl : lv_has ls 4 [(3, .int (nI (6 * j))), (2, .ref za), (1, .ref xa), (0, .ref b)]) (kk : ∀ (H1 : Heap) (locs1 : List Loc) (c1 s1 : Nat), c1 ≤ cells + 720 → s1 ≤ slots + 4320 → LSt D cy A xa za (j + 1) H1 → va_S A s.heap H1 locs1 → W p l e room_1 s m #[Value.ref b] below meth c H1 locs1 c1 s1 (lw_Z below #[Value.ref b] s) (F0 m 1695 ls [])) : W p l e room_1 s m #[Value.ref b] below meth c H locs cells slots (lw_Z below #[Value.ref b] s) (F0 m 1583 ls []) := by
  obtain ⟨hx, hb, hr, hml, hown, hts, hX, hbl, hlocks, hgv⟩ := id C0
  have hg : ∀ w ∈ lw_good, w.before #[Value.ref b] s = true := fun w h => hts w (List.mem_filter.mp h).1
  have hown : s.vm.findClass RL = some m.cls := hown
  obtain ⟨n, n3, T, PK, PT, SX, SY, WH, CA, W1, W2, hT, hXS, hZS, hP1, hP2, hD1, hD2, hap⟩ := hLS
  have q1 := inbN (6 * j + 1) Ln (by omega) (by omega)
  have q2 := inbN (6 * j + 2) Ln (by omega) (by omega)
  have q3 := inbN (6 * j + 3) Ln (by omega) (by omega)
  have q4 : (cells + 0) ≤ 600000 ∧ (slots + 0) ≤ 7302250 := ⟨by omega, by omega⟩
  have q5 : 0 ≤ T ∧ T ≤ 900000 := ⟨by omega, by omega⟩
  have q6 : ((cells + 0) + 0) ≤ 600000 ∧ ((slots + 0) + 0) ≤ 7302250 := ⟨by omega, by omega⟩
  have q7 : ((cells + 0) + 0) ≤ cells + 720 := by omega
  have q8 : ((slots + 0) + 0) ≤ slots + 4320 := by omega
  have q9 : 0 ≤ (T + 1) ∧ (T + 1) ≤ ((j + 1 : Nat) : Int) := ⟨by omega, by omega⟩
  refine lv_aload_n hx hb dL_law_1583 rfl (lv_at hl 2 rfl) ?_
  refine lv_aload_n hx hb dL_law_1584 rfl (lv_at hl 3 rfl) ?_
  refine lv_iload_n hx hb dL_law_1585 rfl (lv_at hl 0 rfl) ?_
  refine lv_iconst (v := 1) hx hb dL_law_1586 (by decide) ?_
  refine lv_iadd hx hb dL_law_1587 ?_
  refine lv_topi (fun f1 ef1 => ?_)
  obtain rfl : f1 = nI (6 * j + 1) := ef1.trans (nI_add (6 * j) 1)
  refine va_sld hx hb hX hbl hbA hS q1 dL_law_1588 ?_
  refine lv_aload_n hx hb dL_law_1589 rfl (lv_at hl 3 rfl) ?_
  refine lv_iload_n hx hb dL_law_1590 rfl (lv_at hl 0 rfl) ?_
  refine lv_iconst (v := 2) hx hb dL_law_1591 (by decide) ?_
  refine lv_iadd hx hb dL_law_1592 ?_
  refine lv_topi (fun f2 ef2 => ?_)
  obtain rfl : f2 = nI (6 * j + 2) := ef2.trans (nI_add (6 * j) 2)
  refine va_sld hx hb hX hbl hbA hS q2 dL_law_1593 ?_
  refine lv_i2l hx hb dL_law_1594 rfl ?_
  refine lv_bipush (v := 32) hx hb dL_law_1595 (by decide) ?_
  refine lv_lshl (v := (((xs ((nI (6 * j + 2)) : Int32).toNatClampNeg)).toInt64 <<< ((32 : Int32).toInt64 &&& 63))) hx hb dL_law_1597 rfl ?_
  refine lv_aload_n hx hb dL_law_1598 rfl (lv_at hl 3 rfl) ?_
  refine lv_iload_n hx hb dL_law_1599 rfl (lv_at hl 0 rfl) ?_
  refine lv_iconst (v := 3) hx hb dL_law_1600 (by decide) ?_
  refine lv_iadd hx hb dL_law_1601 ?_
  refine lv_topi (fun f3 ef3 => ?_)
  obtain rfl : f3 = nI (6 * j + 3) := ef3.trans (nI_add (6 * j) 3)
  refine va_sld hx hb hX hbl hbA hS q3 dL_law_1602 ?_
  refine lv_i2l hx hb dL_law_1603 rfl ?_
  refine lv_ldc2 (v := 4294967295) hx hb hown (hg _ wd_1227) dL_law_1604 ?_
  refine lv_land hx hb dL_law_1607 ?_
  refine lv_lor hx hb dL_law_1608 ?_
  refine cx_sheet C0 hA hN hK hST (xs ((nI (6 * j + 1)) : Int32).toNatClampNeg) ((((xs ((nI (6 * j + 2)) : Int32).toNatClampNeg)).toInt64 <<< ((32 : Int32).toInt64 &&& 63)) ||| (((xs ((nI (6 * j + 3)) : Int32).toNatClampNeg)).toInt64 &&& 4294967295)) q4 q5 hZS.svhi hXS hP1 hP2 hD1 hap hS hl (fun r4 W1 H locs hXS hP1 hP2 hD1 hap hS => ?_)
  refine lv_pop hx hb dL_law_1612 rfl ?_
  refine lv_aload_n hx hb dL_law_1613 rfl (lv_at hl 1 rfl) ?_
  refine lv_aload_n hx hb dL_law_1614 rfl (lv_at hl 3 rfl) ?_
  refine lv_iload_n hx hb dL_law_1615 rfl (lv_at hl 0 rfl) ?_
  refine lv_iconst (v := 1) hx hb dL_law_1616 (by decide) ?_
  refine lv_iadd hx hb dL_law_1617 ?_
  refine lv_topi (fun f5 ef5 => ?_)
  obtain rfl : f5 = nI (6 * j + 1) := ef5.trans (nI_add (6 * j) 1)
  refine va_sld hx hb hX hbl hbA hS q1 dL_law_1618 ?_
  refine lv_aload_n hx hb dL_law_1619 rfl (lv_at hl 3 rfl) ?_
  refine lv_iload_n hx hb dL_law_1620 rfl (lv_at hl 0 rfl) ?_
  refine lv_iconst (v := 2) hx hb dL_law_1621 (by decide) ?_
  refine lv_iadd hx hb dL_law_1622 ?_
  refine lv_topi (fun f6 ef6 => ?_)
  obtain rfl : f6 = nI (6 * j + 2) := ef6.trans (nI_add (6 * j) 2)
  refine va_sld hx hb hX hbl hbA hS q2 dL_law_1623 ?_
  refine lv_i2l hx hb dL_law_1624 rfl ?_
  refine lv_bipush (v := 32) hx hb dL_law_1625 (by decide) ?_
  refine lv_lshl (v := (((xs ((nI (6 * j + 2)) : Int32).toNatClampNeg)).toInt64 <<< ((32 : Int32).toInt64 &&& 63))) hx hb dL_law_1627 rfl ?_
  refine lv_aload_n hx hb dL_law_1628 rfl (lv_at hl 3 rfl) ?_
  refine lv_iload_n hx hb dL_law_1629 rfl (lv_at hl 0 rfl) ?_
  refine lv_iconst (v := 3) hx hb dL_law_1630 (by decide) ?_
  refine lv_iadd hx hb dL_law_1631 ?_
  refine lv_topi (fun f7 ef7 => ?_)
  obtain rfl : f7 = nI (6 * j + 3) := ef7.trans (nI_add (6 * j) 3)
  refine va_sld hx hb hX hbl hbA hS q3 dL_law_1632 ?_
  refine lv_i2l hx hb dL_law_1633 rfl ?_
  refine lv_ldc2 (v := 4294967295) hx hb hown (hg _ wd_1227) dL_law_1634 ?_
  refine lv_land hx hb dL_law_1637 ?_
  refine lv_lor hx hb dL_law_1638 ?_
  refine cz_sheet C0 hA hN hK hST (xs ((nI (6 * j + 1)) : Int32).toNatClampNeg) ((((xs ((nI (6 * j + 2)) : Int32).toNatClampNeg)).toInt64 <<< ((32 : Int32).toInt64 &&& 63)) ||| (((xs ((nI (6 * j + 3)) : Int32).toNatClampNeg)).toInt64 &&& 4294967295)) q6 hZS hP2 hP1 hD2 hap.sy hS hl (fun r8 W2 H locs hZS hP2 hP1 hD2 hap hS => ?_)
  have hap := hap.sy
  have hXS := hXS.imp (Q := PS _ _ (T + 1) _ _ _ _ _ _) (fun x0 x2 x5 x6 x8 x7 x9 x10 K L M h => h)
  refine lv_pop hx hb dL_law_1642 rfl ?_
  refine lv_goto (tgt := 1695) hx hb dL_law_1643 (by decide) ?_
  exact kk H locs _ _ q7 q8 ⟨_, _, (T + 1), _, _, _, _, _, _, _, _, q9, hXS, hZS, hP1, hP2, hD1, hD2, hap⟩ hS
set_option maxHeartbeats 4000000 in
set_option maxRecDepth 100000 in
theorem law_c34 {p : Program} {l : Launch} {e : Env} {s : State} {m : MethodId} {below : List Frame} {meth : Method} {c : Code} {b Ln : Nat} {xs : Nat → Int32} (C0 : lw_At p s m meth c b Ln xs) {D : va_G} {cy : Nat → ClassId} {A : Nat → Prop} (hA : ∀ q, s.heap.size ≤ q → A q) (hA2 : ∀ q, A q → s.heap.size ≤ q) (hbA : ¬ A b) (hN : NW s) (hK : va_K D vwCl (tysC cy) s) (hST : STAT A s) {xa za : Nat} {j : Nat} {H : Heap} {locs : List Loc} {cells slots : Nat} {ls : Array Slot} (hj : 6 * j + 6 ≤ Ln) (hLn : Ln ≤ 3072) (hc : cells + 720 ≤ 600000) (hs : slots + 4320 ≤ 7302250) (hLS : LSt D cy A xa za j H) (hS : va_S A s.heap H locs) (hl : lv_has ls 4 [(3, .int (nI (6 * j))), (2, .ref za), (1, .ref xa), (0, .ref b)]) (kk : ∀ (H1 : Heap) (locs1 : List Loc) (c1 s1 : Nat), c1 ≤ cells + 720 → s1 ≤ slots + 4320 → LSt D cy A xa za (j + 1) H1 → va_S A s.heap H1 locs1 → W p l e room_1 s m #[Value.ref b] below meth c H1 locs1 c1 s1 (lw_Z below #[Value.ref b] s) (F0 m 1695 ls [])) : W p l e room_1 s m #[Value.ref b] below meth c H locs cells slots (lw_Z below #[Value.ref b] s) (F0 m 1646 ls []) := by
  obtain ⟨hx, hb, hr, hml, hown, hts, hX, hbl, hlocks, hgv⟩ := id C0
  have hg : ∀ w ∈ lw_good, w.before #[Value.ref b] s = true := fun w h => hts w (List.mem_filter.mp h).1
  have hown : s.vm.findClass RL = some m.cls := hown
  obtain ⟨n, n3, T, PK, PT, SX, SY, WH, CA, W1, W2, hT, hXS, hZS, hP1, hP2, hD1, hD2, hap⟩ := hLS
  have q1 := inbN (6 * j + 1) Ln (by omega) (by omega)
  have q2 : (cells + 0) ≤ 600000 ∧ (slots + 0) ≤ 7302250 := ⟨by omega, by omega⟩
  have q3 : 0 ≤ T ∧ T ≤ 900000 := ⟨by omega, by omega⟩
  have q4 : ((cells + 0) + 0) ≤ 600000 ∧ ((slots + 0) + 0) ≤ 7302250 := ⟨by omega, by omega⟩
  have q5 : ((cells + 0) + 0) ≤ cells + 720 := by omega
  have q6 : ((slots + 0) + 0) ≤ slots + 4320 := by omega
  have q7 : 0 ≤ (T + 1) ∧ (T + 1) ≤ ((j + 1 : Nat) : Int) := ⟨by omega, by omega⟩
  refine lv_aload_n hx hb dL_law_1646 rfl (lv_at hl 2 rfl) ?_
  refine lv_aload_n hx hb dL_law_1647 rfl (lv_at hl 3 rfl) ?_
  refine lv_iload_n hx hb dL_law_1648 rfl (lv_at hl 0 rfl) ?_
  refine lv_iconst (v := 1) hx hb dL_law_1649 (by decide) ?_
  refine lv_iadd hx hb dL_law_1650 ?_
  refine lv_topi (fun f1 ef1 => ?_)
  obtain rfl : f1 = nI (6 * j + 1) := ef1.trans (nI_add (6 * j) 1)
  refine va_sld hx hb hX hbl hbA hS q1 dL_law_1651 ?_
  refine cx_check C0 hA hN hK hST (xs ((nI (6 * j + 1)) : Int32).toNatClampNeg) q2 q3 hZS.svhi hXS hP1 hP2 hD1 hap hS hl (fun r2 W1 H locs hXS hP1 hP2 hD1 hap hS => ?_)
  refine lv_pop hx hb dL_law_1655 rfl ?_
  refine lv_aload_n hx hb dL_law_1656 rfl (lv_at hl 1 rfl) ?_
  refine lv_aload_n hx hb dL_law_1657 rfl (lv_at hl 3 rfl) ?_
  refine lv_iload_n hx hb dL_law_1658 rfl (lv_at hl 0 rfl) ?_
  refine lv_iconst (v := 1) hx hb dL_law_1659 (by decide) ?_
  refine lv_iadd hx hb dL_law_1660 ?_
  refine lv_topi (fun f3 ef3 => ?_)
  obtain rfl : f3 = nI (6 * j + 1) := ef3.trans (nI_add (6 * j) 1)
  refine va_sld hx hb hX hbl hbA hS q1 dL_law_1661 ?_
  refine cz_check C0 hA hN hK hST (xs ((nI (6 * j + 1)) : Int32).toNatClampNeg) q4 hZS hP2 hP1 hD2 hap.sy hS hl (fun r4 W2 H locs hZS hP2 hP1 hD2 hap hS => ?_)
  have hap := hap.sy
  have hXS := hXS.imp (Q := PS _ _ (T + 1) _ _ _ _ _ _) (fun x0 x2 x5 x6 x8 x7 x9 x10 K L M h => h)
  refine lv_pop hx hb dL_law_1665 rfl ?_
  refine lv_goto (tgt := 1695) hx hb dL_law_1666 (by decide) ?_
  exact kk H locs _ _ q5 q6 ⟨_, _, (T + 1), _, _, _, _, _, _, _, _, q7, hXS, hZS, hP1, hP2, hD1, hD2, hap⟩ hS
set_option maxHeartbeats 4000000 in
set_option maxRecDepth 100000 in
theorem law_c35 {p : Program} {l : Launch} {e : Env} {s : State} {m : MethodId} {below : List Frame} {meth : Method} {c : Code} {b Ln : Nat} {xs : Nat → Int32} (C0 : lw_At p s m meth c b Ln xs) {D : va_G} {cy : Nat → ClassId} {A : Nat → Prop} (hA : ∀ q, s.heap.size ≤ q → A q) (hA2 : ∀ q, A q → s.heap.size ≤ q) (hbA : ¬ A b) (hN : NW s) (hK : va_K D vwCl (tysC cy) s) (hST : STAT A s) {xa za : Nat} {j : Nat} {H : Heap} {locs : List Loc} {cells slots : Nat} {ls : Array Slot} (hj : 6 * j + 6 ≤ Ln) (hLn : Ln ≤ 3072) (hc : cells + 720 ≤ 600000) (hs : slots + 4320 ≤ 7302250) (hLS : LSt D cy A xa za j H) (hS : va_S A s.heap H locs) (hl : lv_has ls 4 [(3, .int (nI (6 * j))), (2, .ref za), (1, .ref xa), (0, .ref b)]) (kk : ∀ (H1 : Heap) (locs1 : List Loc) (c1 s1 : Nat), c1 ≤ cells + 720 → s1 ≤ slots + 4320 → LSt D cy A xa za (j + 1) H1 → va_S A s.heap H1 locs1 → W p l e room_1 s m #[Value.ref b] below meth c H1 locs1 c1 s1 (lw_Z below #[Value.ref b] s) (F0 m 1695 ls [])) : W p l e room_1 s m #[Value.ref b] below meth c H locs cells slots (lw_Z below #[Value.ref b] s) (F0 m 1669 ls []) := by
  obtain ⟨hx, hb, hr, hml, hown, hts, hX, hbl, hlocks, hgv⟩ := id C0
  have hg : ∀ w ∈ lw_good, w.before #[Value.ref b] s = true := fun w h => hts w (List.mem_filter.mp h).1
  have hown : s.vm.findClass RL = some m.cls := hown
  obtain ⟨n, n3, T, PK, PT, SX, SY, WH, CA, W1, W2, hT, hXS, hZS, hP1, hP2, hD1, hD2, hap⟩ := hLS
  have q1 : (cells + 0) ≤ 600000 ∧ (slots + 0) ≤ 7302250 := ⟨by omega, by omega⟩
  have q2 : 0 ≤ T ∧ T ≤ 900000 := ⟨by omega, by omega⟩
  have q3 : ((cells + 0) + 0) ≤ 600000 ∧ ((slots + 0) + 0) ≤ 7302250 := ⟨by omega, by omega⟩
  have q4 : ((cells + 0) + 0) ≤ cells + 720 := by omega
  have q5 : ((slots + 0) + 0) ≤ slots + 4320 := by omega
  have q6 : 0 ≤ (T + 1) ∧ (T + 1) ≤ ((j + 1 : Nat) : Int) := ⟨by omega, by omega⟩
  refine lv_aload_n hx hb dL_law_1669 rfl (lv_at hl 2 rfl) ?_
  refine cx_status C0 hA hN hK hST  q1 q2 hZS.svhi hXS hP1 hP2 hD1 hap hS hl (fun r1 W1 H locs hXS hP1 hP2 hD1 hap hS => ?_)
  refine lv_pop hx hb dL_law_1673 rfl ?_
  refine lv_aload_n hx hb dL_law_1674 rfl (lv_at hl 1 rfl) ?_
  refine cz_status C0 hA hN hK hST  q3 hZS hP2 hP1 hD2 hap.sy hS hl (fun r2 W2 H locs hZS hP2 hP1 hD2 hap hS => ?_)
  have hap := hap.sy
  have hXS := hXS.imp (Q := PS _ _ (T + 1) _ _ _ _ _ _) (fun x0 x2 x5 x6 x8 x7 x9 x10 K L M h => h)
  refine lv_pop hx hb dL_law_1678 rfl ?_
  refine lv_goto (tgt := 1695) hx hb dL_law_1679 (by decide) ?_
  exact kk H locs _ _ q4 q5 ⟨_, _, (T + 1), _, _, _, _, _, _, _, _, q6, hXS, hZS, hP1, hP2, hD1, hD2, hap⟩ hS
set_option maxHeartbeats 4000000 in
set_option maxRecDepth 100000 in
theorem law_c36 {p : Program} {l : Launch} {e : Env} {s : State} {m : MethodId} {below : List Frame} {meth : Method} {c : Code} {b Ln : Nat} {xs : Nat → Int32} (C0 : lw_At p s m meth c b Ln xs) {D : va_G} {cy : Nat → ClassId} {A : Nat → Prop} (hA : ∀ q, s.heap.size ≤ q → A q) (hA2 : ∀ q, A q → s.heap.size ≤ q) (hbA : ¬ A b) (hN : NW s) (hK : va_K D vwCl (tysC cy) s) (hST : STAT A s) {xa za : Nat} {j : Nat} {H : Heap} {locs : List Loc} {cells slots : Nat} {ls : Array Slot} (hj : 6 * j + 6 ≤ Ln) (hLn : Ln ≤ 3072) (hc : cells + 720 ≤ 600000) (hs : slots + 4320 ≤ 7302250) (hLS : LSt D cy A xa za j H) (hS : va_S A s.heap H locs) (hl : lv_has ls 4 [(3, .int (nI (6 * j))), (2, .ref za), (1, .ref xa), (0, .ref b)]) (kk : ∀ (H1 : Heap) (locs1 : List Loc) (c1 s1 : Nat), c1 ≤ cells + 720 → s1 ≤ slots + 4320 → LSt D cy A xa za (j + 1) H1 → va_S A s.heap H1 locs1 → W p l e room_1 s m #[Value.ref b] below meth c H1 locs1 c1 s1 (lw_Z below #[Value.ref b] s) (F0 m 1695 ls [])) : W p l e room_1 s m #[Value.ref b] below meth c H locs cells slots (lw_Z below #[Value.ref b] s) (F0 m 1682 ls []) := by
  obtain ⟨hx, hb, hr, hml, hown, hts, hX, hbl, hlocks, hgv⟩ := id C0
  have hg : ∀ w ∈ lw_good, w.before #[Value.ref b] s = true := fun w h => hts w (List.mem_filter.mp h).1
  have hown : s.vm.findClass RL = some m.cls := hown
  obtain ⟨n, n3, T, PK, PT, SX, SY, WH, CA, W1, W2, hT, hXS, hZS, hP1, hP2, hD1, hD2, hap⟩ := hLS
  have q1 : (cells + 0) ≤ 600000 ∧ (slots + 0) ≤ 7302250 := ⟨by omega, by omega⟩
  have q2 : 0 ≤ T ∧ T ≤ 900000 := ⟨by omega, by omega⟩
  have q3 : ((cells + 0) + 0) ≤ 600000 ∧ ((slots + 0) + 0) ≤ 7302250 := ⟨by omega, by omega⟩
  have q4 : ((cells + 0) + 0) ≤ cells + 720 := by omega
  have q5 : ((slots + 0) + 0) ≤ slots + 4320 := by omega
  have q6 : 0 ≤ (T + 1) ∧ (T + 1) ≤ ((j + 1 : Nat) : Int) := ⟨by omega, by omega⟩
  refine lv_aload_n hx hb dL_law_1682 rfl (lv_at hl 2 rfl) ?_
  refine cx_where C0 hA hN hK hST  q1 q2 hZS.svhi hXS hP1 hP2 hD1 hap hS hl (fun r1 W1 H locs _hr hXS hP1 hP2 hD1 hap hS => ?_)
  refine lv_pop hx hb dL_law_1686 rfl ?_
  refine lv_aload_n hx hb dL_law_1687 rfl (lv_at hl 1 rfl) ?_
  refine cz_where C0 hA hN hK hST  q3 hZS hP2 hP1 hD2 hap.sy hS hl (fun r2 W2 H locs _hr hZS hP2 hP1 hD2 hap hS => ?_)
  have hap := hap.sy
  have hXS := hXS.imp (Q := PS _ _ (T + 1) _ _ _ _ _ _) (fun x0 x2 x5 x6 x8 x7 x9 x10 K L M h => h)
  refine lv_pop hx hb dL_law_1691 rfl ?_
  refine lv_goto (tgt := 1695) hx hb dL_law_1692 (by decide) ?_
  exact kk H locs _ _ q4 q5 ⟨_, _, (T + 1), _, _, _, _, _, _, _, _, q6, hXS, hZS, hP1, hP2, hD1, hD2, hap⟩ hS
theorem lawIn {L j : Nat} (hL : L ≤ 3072) (hj : j ≤ 600) (h : ¬ Int32.ofNat L - 6 < nI (6 * j)) : 6 * j + 6 ≤ L := by
  have h1 := Int32.le_iff_toInt_le.mp (Int32.not_lt.mp h)
  rw [nI_toInt (by omega)] at h1
  have h2 : (Int32.ofNat L - 6).toInt = (L : Int) - 6 := by
    have e : (Int32.ofNat L).toInt = (L : Int) := nI_toInt (by omega)
    rw [Int32.toInt_sub, e, show (6 : Int32).toInt = 6 from rfl]
    apply Int.bmod_eq_of_le <;> omega
  omega
set_option maxHeartbeats 4000000 in
set_option maxRecDepth 100000 in
theorem law_loop {p : Program} {l : Launch} {e : Env} {s : State} {m : MethodId} {below : List Frame} {meth : Method} {c : Code} {b Ln : Nat} {xs : Nat → Int32} (C0 : lw_At p s m meth c b Ln xs) {D : va_G} {cy : Nat → ClassId} {A : Nat → Prop} (hA : ∀ q, s.heap.size ≤ q → A q) (hA2 : ∀ q, A q → s.heap.size ≤ q) (hbA : ¬ A b) (hN : NW s) (hK : va_K D vwCl (tysC cy) s) (hST : STAT A s) {xa za : Nat} (hLn : Ln ≤ 3072) : ∀ (fu j : Nat) (H : Heap) (locs : List Loc) (cells slots : Nat) (ls : Array Slot), 513 - j < fu → j ≤ 512 → cells ≤ 339 + 720 * j → slots ≤ 120166 + 4320 * j → LSt D cy A xa za j H → va_S A s.heap H locs → lv_has ls 4 [(3, .int (nI (6 * j))), (2, .ref za), (1, .ref xa), (0, .ref b)] → W p l e room_1 s m #[Value.ref b] below meth c H locs cells slots (lw_Z below #[Value.ref b] s) (F0 m 18 ls []) := by
  obtain ⟨hx, hb, hr, hml, hown, hts, hX, hbl, hlocks, hgv⟩ := id C0
  have hg : ∀ w ∈ lw_good, w.before #[Value.ref b] s = true := fun w h => hts w (List.mem_filter.mp h).1
  have hown : s.vm.findClass RL = some m.cls := hown
  intro fu
  induction fu with
  | zero => intro j H locs cells slots ls h; exact absurd h (Nat.not_lt_zero _)
  | succ fu ih =>
    intro j H locs cells slots ls hfu hj hc hs hLS hS hl
    have nx : 6 * j + 6 ≤ Ln → ∀ (H1 : Heap) (locs1 : List Loc) (c1 s1 : Nat), c1 ≤ cells + 720 → s1 ≤ slots + 4320 → LSt D cy A xa za (j + 1) H1 → va_S A s.heap H1 locs1 → W p l e room_1 s m #[Value.ref b] below meth c H1 locs1 c1 s1 (lw_Z below #[Value.ref b] s) (F0 m 1695 ls []) := fun hin H1 locs1 c1 s1 g1 g2 g3 g4 => by
      refine lv_iinc (v := (nI (6 * (j + 1)))) (lv' := [(3, .int (nI (6 * (j + 1)))), (2, .ref za), (1, .ref xa), (0, .ref b)]) hx hb dL_law_1695 hl (k := 0) rfl (show nI (6 * j) + 6 = nI (6 * (j + 1)) from nI_add (6 * j) 6) (by decide) rfl (fun ls hl => ?_)
      refine lv_goto (tgt := 18) hx hb dL_law_1698 (by decide) ?_
      exact ih (j + 1) H1 locs1 c1 s1 ls (by omega) (by omega) (by omega) (by omega) g3 g4 hl
    refine lv_iload_n hx hb dL_law_18 rfl (lv_at hl 0 rfl) ?_
    refine lv_aload_n hx hb dL_law_19 rfl (lv_at hl 3 rfl) ?_
    refine va_slen hx hb hX hbl hbA hS dL_law_20 ?_
    refine lv_bipush (v := 6) hx hb dL_law_21 (by decide) ?_
    refine lv_isub hx hb dL_law_23 ?_
    refine lv_icmp_gt (tgt := 1701) hx hb dL_law_24 (by decide) (fun h => ?_) (fun h => ?_)
    · refine lv_iconst (v := 1) hx hb dL_law_1701 (by decide) ?_
      refine va_forget (fun q hq => hA2 _ (hS.2.2 q hq)) ?_
      refine W.widen (k := 600000) (n := 7302250) (by omega) (by omega) ?_
      exact lw_ret hx hb hr hlocks dL_law_1702
    · have hin : 6 * j + 6 ≤ Ln := lawIn hLn (by omega) h
      refine lv_aload_n hx hb dL_law_27 rfl (lv_at hl 3 rfl) ?_
      refine lv_iload_n hx hb dL_law_28 rfl (lv_at hl 0 rfl) ?_
      refine va_sld hx hb hX hbl hbA hS (inbN (6 * j) Ln (by omega) (by omega)) dL_law_29 ?_
      refine lv_bipush (v := 63) hx hb dL_law_30 (by decide) ?_
      refine lv_iand hx hb dL_law_32 ?_
      refine lv_topi (fun op eop => ?_)
      by_cases hout : op.toInt < 0 ∨ 36 < op.toInt
      · refine lv_tableOut (tgt := 1695) hx hb dL_law_33 hout (by decide) ?_
        exact nx hin H locs _ _ (by omega) (by omega) hLS.nxt hS
      · obtain ⟨i, hi, hi2⟩ : ∃ i : Nat, i ≤ 36 ∧ op.toInt = (i : Int) := ⟨op.toInt.toNat, by omega, by omega⟩
        rcases (show i = 0 ∨ i = 1 ∨ i = 2 ∨ i = 3 ∨ i = 4 ∨ i = 5 ∨ i = 6 ∨ i = 7 ∨ i = 8 ∨ i = 9 ∨ i = 10 ∨ i = 11 ∨ i = 12 ∨ i = 13 ∨ i = 14 ∨ i = 15 ∨ i = 16 ∨ i = 17 ∨ i = 18 ∨ i = 19 ∨ i = 20 ∨ i = 21 ∨ i = 22 ∨ i = 23 ∨ i = 24 ∨ i = 25 ∨ i = 26 ∨ i = 27 ∨ i = 28 ∨ i = 29 ∨ i = 30 ∨ i = 31 ∨ i = 32 ∨ i = 33 ∨ i = 34 ∨ i = 35 ∨ i = 36 by omega) with rfl | rfl | rfl | rfl | rfl | rfl | rfl | rfl | rfl | rfl | rfl | rfl | rfl | rfl | rfl | rfl | rfl | rfl | rfl | rfl | rfl | rfl | rfl | rfl | rfl | rfl | rfl | rfl | rfl | rfl | rfl | rfl | rfl | rfl | rfl | rfl | rfl
        · refine lv_tableIn (tgt := 196) hx hb dL_law_33 (by omega) (by omega) (by rw [hi2]; rfl) (by decide) ?_
          exact law_c0 C0 hA hA2 hbA hN hK hST hin hLn (by omega) (by omega) hLS hS hl (nx hin)
        · refine lv_tableIn (tgt := 219) hx hb dL_law_33 (by omega) (by omega) (by rw [hi2]; rfl) (by decide) ?_
          exact law_c1 C0 hA hA2 hbA hN hK hST hin hLn (by omega) (by omega) hLS hS hl (nx hin)
        · refine lv_tableIn (tgt := 252) hx hb dL_law_33 (by omega) (by omega) (by rw [hi2]; rfl) (by decide) ?_
          exact law_c2 C0 hA hA2 hbA hN hK hST hin hLn (by omega) (by omega) hLS hS hl (nx hin)
        · refine lv_tableIn (tgt := 295) hx hb dL_law_33 (by omega) (by omega) (by rw [hi2]; rfl) (by decide) ?_
          exact law_c3 C0 hA hA2 hbA hN hK hST hin hLn (by omega) (by omega) hLS hS hl (nx hin)
        · refine lv_tableIn (tgt := 328) hx hb dL_law_33 (by omega) (by omega) (by rw [hi2]; rfl) (by decide) ?_
          exact law_c4 C0 hA hA2 hbA hN hK hST hin hLn (by omega) (by omega) hLS hS hl (nx hin)
        · refine lv_tableIn (tgt := 361) hx hb dL_law_33 (by omega) (by omega) (by rw [hi2]; rfl) (by decide) ?_
          exact law_c5 C0 hA hA2 hbA hN hK hST hin hLn (by omega) (by omega) hLS hS hl (nx hin)
        · refine lv_tableIn (tgt := 440) hx hb dL_law_33 (by omega) (by omega) (by rw [hi2]; rfl) (by decide) ?_
          exact law_c6 C0 hA hA2 hbA hN hK hST hin hLn (by omega) (by omega) hLS hS hl (nx hin)
        · refine lv_tableIn (tgt := 503) hx hb dL_law_33 (by omega) (by omega) (by rw [hi2]; rfl) (by decide) ?_
          exact law_c7 C0 hA hA2 hbA hN hK hST hin hLn (by omega) (by omega) hLS hS hl (nx hin)
        · refine lv_tableIn (tgt := 556) hx hb dL_law_33 (by omega) (by omega) (by rw [hi2]; rfl) (by decide) ?_
          exact law_c8 C0 hA hA2 hbA hN hK hST hin hLn (by omega) (by omega) hLS hS hl (nx hin)
        · refine lv_tableIn (tgt := 579) hx hb dL_law_33 (by omega) (by omega) (by rw [hi2]; rfl) (by decide) ?_
          exact law_c9 C0 hA hA2 hbA hN hK hST hin hLn (by omega) (by omega) hLS hS hl (nx hin)
        · refine lv_tableIn (tgt := 612) hx hb dL_law_33 (by omega) (by omega) (by rw [hi2]; rfl) (by decide) ?_
          exact law_c10 C0 hA hA2 hbA hN hK hST hin hLn (by omega) (by omega) hLS hS hl (nx hin)
        · refine lv_tableIn (tgt := 665) hx hb dL_law_33 (by omega) (by omega) (by rw [hi2]; rfl) (by decide) ?_
          exact law_c11 C0 hA hA2 hbA hN hK hST hin hLn (by omega) (by omega) hLS hS hl (nx hin)
        · refine lv_tableIn (tgt := 718) hx hb dL_law_33 (by omega) (by omega) (by rw [hi2]; rfl) (by decide) ?_
          exact law_c12 C0 hA hA2 hbA hN hK hST hin hLn (by omega) (by omega) hLS hS hl (nx hin)
        · refine lv_tableIn (tgt := 751) hx hb dL_law_33 (by omega) (by omega) (by rw [hi2]; rfl) (by decide) ?_
          exact law_c13 C0 hA hA2 hbA hN hK hST hin hLn (by omega) (by omega) hLS hS hl (nx hin)
        · refine lv_tableIn (tgt := 794) hx hb dL_law_33 (by omega) (by omega) (by rw [hi2]; rfl) (by decide) ?_
          exact law_c14 C0 hA hA2 hbA hN hK hST hin hLn (by omega) (by omega) hLS hS hl (nx hin)
        · refine lv_tableIn (tgt := 837) hx hb dL_law_33 (by omega) (by omega) (by rw [hi2]; rfl) (by decide) ?_
          exact law_c15 C0 hA hA2 hbA hN hK hST hin hLn (by omega) (by omega) hLS hS hl (nx hin)
        · refine lv_tableIn (tgt := 870) hx hb dL_law_33 (by omega) (by omega) (by rw [hi2]; rfl) (by decide) ?_
          exact law_c16 C0 hA hA2 hbA hN hK hST hin hLn (by omega) (by omega) hLS hS hl (nx hin)
        · refine lv_tableIn (tgt := 949) hx hb dL_law_33 (by omega) (by omega) (by rw [hi2]; rfl) (by decide) ?_
          exact law_c17 C0 hA hA2 hbA hN hK hST hin hLn (by omega) (by omega) hLS hS hl (nx hin)
        · refine lv_tableIn (tgt := 1018) hx hb dL_law_33 (by omega) (by omega) (by rw [hi2]; rfl) (by decide) ?_
          exact law_c18 C0 hA hA2 hbA hN hK hST hin hLn (by omega) (by omega) hLS hS hl (nx hin)
        · refine lv_tableIn (tgt := 1041) hx hb dL_law_33 (by omega) (by omega) (by rw [hi2]; rfl) (by decide) ?_
          exact law_c19 C0 hA hA2 hbA hN hK hST hin hLn (by omega) (by omega) hLS hS hl (nx hin)
        · refine lv_tableIn (tgt := 1074) hx hb dL_law_33 (by omega) (by omega) (by rw [hi2]; rfl) (by decide) ?_
          exact law_c20 C0 hA hA2 hbA hN hK hST hin hLn (by omega) (by omega) hLS hS hl (nx hin)
        · refine lv_tableIn (tgt := 1097) hx hb dL_law_33 (by omega) (by omega) (by rw [hi2]; rfl) (by decide) ?_
          exact law_c21 C0 hA hA2 hbA hN hK hST hin hLn (by omega) (by omega) hLS hS hl (nx hin)
        · refine lv_tableIn (tgt := 1140) hx hb dL_law_33 (by omega) (by omega) (by rw [hi2]; rfl) (by decide) ?_
          exact law_c22 C0 hA hA2 hbA hN hK hST hin hLn (by omega) (by omega) hLS hS hl (nx hin)
        · refine lv_tableIn (tgt := 1183) hx hb dL_law_33 (by omega) (by omega) (by rw [hi2]; rfl) (by decide) ?_
          exact law_c23 C0 hA hA2 hbA hN hK hST hin hLn (by omega) (by omega) hLS hS hl (nx hin)
        · refine lv_tableIn (tgt := 1226) hx hb dL_law_33 (by omega) (by omega) (by rw [hi2]; rfl) (by decide) ?_
          exact law_c24 C0 hA hA2 hbA hN hK hST hin hLn (by omega) (by omega) hLS hS hl (nx hin)
        · refine lv_tableIn (tgt := 1249) hx hb dL_law_33 (by omega) (by omega) (by rw [hi2]; rfl) (by decide) ?_
          exact law_c25 C0 hA hA2 hbA hN hK hST hin hLn (by omega) (by omega) hLS hS hl (nx hin)
        · refine lv_tableIn (tgt := 1292) hx hb dL_law_33 (by omega) (by omega) (by rw [hi2]; rfl) (by decide) ?_
          exact law_c26 C0 hA hA2 hbA hN hK hST hin hLn (by omega) (by omega) hLS hS hl (nx hin)
        · refine lv_tableIn (tgt := 1335) hx hb dL_law_33 (by omega) (by omega) (by rw [hi2]; rfl) (by decide) ?_
          exact law_c27 C0 hA hA2 hbA hN hK hST hin hLn (by omega) (by omega) hLS hS hl (nx hin)
        · refine lv_tableIn (tgt := 1378) hx hb dL_law_33 (by omega) (by omega) (by rw [hi2]; rfl) (by decide) ?_
          exact law_c28 C0 hA hA2 hbA hN hK hST hin hLn (by omega) (by omega) hLS hS hl (nx hin)
        · refine lv_tableIn (tgt := 1421) hx hb dL_law_33 (by omega) (by omega) (by rw [hi2]; rfl) (by decide) ?_
          exact law_c29 C0 hA hA2 hbA hN hK hST hin hLn (by omega) (by omega) hLS hS hl (nx hin)
        · refine lv_tableIn (tgt := 1464) hx hb dL_law_33 (by omega) (by omega) (by rw [hi2]; rfl) (by decide) ?_
          exact law_c30 C0 hA hA2 hbA hN hK hST hin hLn (by omega) (by omega) hLS hS hl (nx hin)
        · refine lv_tableIn (tgt := 1497) hx hb dL_law_33 (by omega) (by omega) (by rw [hi2]; rfl) (by decide) ?_
          exact law_c31 C0 hA hA2 hbA hN hK hST hin hLn (by omega) (by omega) hLS hS hl (nx hin)
        · refine lv_tableIn (tgt := 1540) hx hb dL_law_33 (by omega) (by omega) (by rw [hi2]; rfl) (by decide) ?_
          exact law_c32 C0 hA hA2 hbA hN hK hST hin hLn (by omega) (by omega) hLS hS hl (nx hin)
        · refine lv_tableIn (tgt := 1583) hx hb dL_law_33 (by omega) (by omega) (by rw [hi2]; rfl) (by decide) ?_
          exact law_c33 C0 hA hA2 hbA hN hK hST hin hLn (by omega) (by omega) hLS hS hl (nx hin)
        · refine lv_tableIn (tgt := 1646) hx hb dL_law_33 (by omega) (by omega) (by rw [hi2]; rfl) (by decide) ?_
          exact law_c34 C0 hA hA2 hbA hN hK hST hin hLn (by omega) (by omega) hLS hS hl (nx hin)
        · refine lv_tableIn (tgt := 1669) hx hb dL_law_33 (by omega) (by omega) (by rw [hi2]; rfl) (by decide) ?_
          exact law_c35 C0 hA hA2 hbA hN hK hST hin hLn (by omega) (by omega) hLS hS hl (nx hin)
        · refine lv_tableIn (tgt := 1682) hx hb dL_law_33 (by omega) (by omega) (by rw [hi2]; rfl) (by decide) ?_
          exact law_c36 C0 hA hA2 hbA hN hK hST hin hLn (by omega) (by omega) hLS hS hl (nx hin)
