/-! the cases of the law -/
set_option maxRecDepth 20000 in
theorem lc_0 {p : Program} {l : Launch} {e : Env} {s : State} {m : MethodId} {below : List Frame} {meth : Method} {c : Code} {b Lx : Nat} {xs : Nat → Int32} (C0 : lw_At p s m meth c b Lx xs) {D : va_G} {cA : Nat → ClassId} {H : Heap} {locs : List Loc} {M N : fw_F} {L K : fw_G} (hI : lw_I D cA s H locs M L N K) (hR : Rel M L N K) {la : Array Slot} {i : Nat} (hl : lv_has la 4 [(0, .ref b), (1, .ref s.heap.size), (2, .ref (s.heap.size + 203)), (3, .int (nI i))]) (hLx : Lx ≤ 3072) (hi : i + 6 ≤ Lx) {cells slots : Nat} (hroom : cells ≤ 600000 ∧ slots ≤ 7302249) {Z : State → Prop} (kk : ∀ (H2 : Heap) (locs2 : List Loc) (M2 : fw_F) (L2 : fw_G) (N2 : fw_F) (K2 : fw_G), lw_I D cA s H2 locs2 M2 L2 N2 K2 → Rel M2 L2 N2 K2 → W p l e room_1 s m #[Value.ref b] below meth c H2 locs2 cells slots Z (F0 m 1270 la [])) : W p l e room_1 s m #[Value.ref b] below meth c H locs cells slots Z (F0 m 168 la []) := by
  obtain ⟨v, P, U, hP, hU, h1, h2, h3⟩ := jn_machines ((xs (i + 1)).toInt) M N L K hR
  refine lv_aload_n C0.1 C0.2.1 dL_law_168 rfl (lv_at hl 1 rfl) ?_
  refine lw_rd C0 hI.2.2.2.2.2.2 (lv_at hl 0 rfl) (lv_at hl 3 rfl) hLx 1 (by omega) rfl dL_law_169 dL_law_170 dL_law_171 dL_law_172 dL_law_173 ?_
  refine lw_cC mX5_machines [fw_i (xs (i + 1)).toInt] C0 hI dL_law_174 mv_X5_machines (fw_mem 320 (by decide +kernel) rfl) ⟨by decide, by decide⟩ ⟨rfl, rfl, rfl, rfl⟩ (by simp only [List.mem_cons, List.not_mem_nil, or_false]; rintro v rfl <;> first | exact lw_ok _ | exact True.intro) hroom rfl (Nat.le_of_ble_eq_true rfl) hl.1 hP (fun r5 M5 L5 H5 locs5 p5 hI5 => ?_)
  obtain rfl := h1 _ _ _ p5
  refine lv_aload_n C0.1 C0.2.1 dL_law_177 rfl (lv_at hl 2 rfl) ?_
  refine lw_rd C0 hI5.2.2.2.2.2.2 (lv_at hl 0 rfl) (lv_at hl 3 rfl) hLx 1 (by omega) rfl dL_law_178 dL_law_179 dL_law_180 dL_law_181 dL_law_182 ?_
  refine lw_cM mX6_machines [fw_i (xs (i + 1)).toInt] C0 hI5 dL_law_183 mv_X6_machines (fw_mem 884 (by decide +kernel) rfl) ⟨by decide, by decide⟩ ⟨rfl, rfl, rfl, rfl⟩ (by simp only [List.mem_cons, List.not_mem_nil, or_false]; rintro v rfl <;> first | exact lw_ok _ | exact True.intro) hroom rfl (Nat.le_of_ble_eq_true rfl) hl.1 hU (fun r6 M6 L6 H6 locs6 p6 hI6 => ?_)
  obtain rfl := h2 _ _ _ p6
  refine lv_icmp_eq (tgt := 1270) C0.1 C0.2.1 dL_law_186 (by decide) (fun _ => ?_) (fun h => absurd rfl h)
  exact kk _ _ _ _ _ _ hI6 (h3 _ _ _ _ _ _ p5 p6)

set_option maxRecDepth 20000 in
theorem lc_1 {p : Program} {l : Launch} {e : Env} {s : State} {m : MethodId} {below : List Frame} {meth : Method} {c : Code} {b Lx : Nat} {xs : Nat → Int32} (C0 : lw_At p s m meth c b Lx xs) {D : va_G} {cA : Nat → ClassId} {H : Heap} {locs : List Loc} {M N : fw_F} {L K : fw_G} (hI : lw_I D cA s H locs M L N K) (hR : Rel M L N K) {la : Array Slot} {i : Nat} (hl : lv_has la 4 [(0, .ref b), (1, .ref s.heap.size), (2, .ref (s.heap.size + 203)), (3, .int (nI i))]) (hLx : Lx ≤ 3072) (hi : i + 6 ≤ Lx) {cells slots : Nat} (hroom : cells ≤ 600000 ∧ slots ≤ 7302249) {Z : State → Prop} (kk : ∀ (H2 : Heap) (locs2 : List Loc) (M2 : fw_F) (L2 : fw_G) (N2 : fw_F) (K2 : fw_G), lw_I D cA s H2 locs2 M2 L2 N2 K2 → Rel M2 L2 N2 K2 → W p l e room_1 s m #[Value.ref b] below meth c H2 locs2 cells slots Z (F0 m 1270 la [])) : W p l e room_1 s m #[Value.ref b] below meth c H locs cells slots Z (F0 m 191 la []) := by
  obtain ⟨v, P, U, hP, hU, h1, h2, h3⟩ := jn_rules ((xs (i + 1)).toInt) M N L K hR
  refine lv_aload_n C0.1 C0.2.1 dL_law_191 rfl (lv_at hl 1 rfl) ?_
  refine lw_rd C0 hI.2.2.2.2.2.2 (lv_at hl 0 rfl) (lv_at hl 3 rfl) hLx 1 (by omega) rfl dL_law_192 dL_law_193 dL_law_194 dL_law_195 dL_law_196 ?_
  refine lw_cC mX5_rules [fw_i (xs (i + 1)).toInt] C0 hI dL_law_197 mv_X5_rules (fw_mem 324 (by decide +kernel) rfl) ⟨by decide, by decide⟩ ⟨rfl, rfl, rfl, rfl⟩ (by simp only [List.mem_cons, List.not_mem_nil, or_false]; rintro v rfl <;> first | exact lw_ok _ | exact True.intro) hroom rfl (Nat.le_of_ble_eq_true rfl) hl.1 hP (fun r5 M5 L5 H5 locs5 p5 hI5 => ?_)
  obtain rfl := h1 _ _ _ p5
  refine lv_aload_n C0.1 C0.2.1 dL_law_200 rfl (lv_at hl 2 rfl) ?_
  refine lw_rd C0 hI5.2.2.2.2.2.2 (lv_at hl 0 rfl) (lv_at hl 3 rfl) hLx 1 (by omega) rfl dL_law_201 dL_law_202 dL_law_203 dL_law_204 dL_law_205 ?_
  refine lw_cM mX6_rules [fw_i (xs (i + 1)).toInt] C0 hI5 dL_law_206 mv_X6_rules (fw_mem 891 (by decide +kernel) rfl) ⟨by decide, by decide⟩ ⟨rfl, rfl, rfl, rfl⟩ (by simp only [List.mem_cons, List.not_mem_nil, or_false]; rintro v rfl <;> first | exact lw_ok _ | exact True.intro) hroom rfl (Nat.le_of_ble_eq_true rfl) hl.1 hU (fun r6 M6 L6 H6 locs6 p6 hI6 => ?_)
  obtain rfl := h2 _ _ _ p6
  refine lv_icmp_eq (tgt := 1270) C0.1 C0.2.1 dL_law_209 (by decide) (fun _ => ?_) (fun h => absurd rfl h)
  exact kk _ _ _ _ _ _ hI6 (h3 _ _ _ _ _ _ p5 p6)

set_option maxRecDepth 20000 in
theorem lc_2 {p : Program} {l : Launch} {e : Env} {s : State} {m : MethodId} {below : List Frame} {meth : Method} {c : Code} {b Lx : Nat} {xs : Nat → Int32} (C0 : lw_At p s m meth c b Lx xs) {D : va_G} {cA : Nat → ClassId} {H : Heap} {locs : List Loc} {M N : fw_F} {L K : fw_G} (hI : lw_I D cA s H locs M L N K) (hR : Rel M L N K) {la : Array Slot} {i : Nat} (hl : lv_has la 4 [(0, .ref b), (1, .ref s.heap.size), (2, .ref (s.heap.size + 203)), (3, .int (nI i))]) (hLx : Lx ≤ 3072) (hi : i + 6 ≤ Lx) {cells slots : Nat} (hroom : cells ≤ 600000 ∧ slots ≤ 7302249) {Z : State → Prop} (kk : ∀ (H2 : Heap) (locs2 : List Loc) (M2 : fw_F) (L2 : fw_G) (N2 : fw_F) (K2 : fw_G), lw_I D cA s H2 locs2 M2 L2 N2 K2 → Rel M2 L2 N2 K2 → W p l e room_1 s m #[Value.ref b] below meth c H2 locs2 cells slots Z (F0 m 1270 la [])) : W p l e room_1 s m #[Value.ref b] below meth c H locs cells slots Z (F0 m 214 la []) := by
  obtain ⟨v, P, U, hP, hU, h1, h2, h3⟩ := jn_make ((xs (i + 1)).toInt) ((xs (i + 2)).toInt) ((xs (i + 3)).toInt) ((xs (i + 4)).toInt) M N L K hR
  refine lv_aload_n C0.1 C0.2.1 dL_law_214 rfl (lv_at hl 1 rfl) ?_
  refine lw_rd C0 hI.2.2.2.2.2.2 (lv_at hl 0 rfl) (lv_at hl 3 rfl) hLx 1 (by omega) rfl dL_law_215 dL_law_216 dL_law_217 dL_law_218 dL_law_219 ?_
  refine lw_rd C0 hI.2.2.2.2.2.2 (lv_at hl 0 rfl) (lv_at hl 3 rfl) hLx 2 (by omega) rfl dL_law_220 dL_law_221 dL_law_222 dL_law_223 dL_law_224 ?_
  refine lw_rd C0 hI.2.2.2.2.2.2 (lv_at hl 0 rfl) (lv_at hl 3 rfl) hLx 3 (by omega) rfl dL_law_225 dL_law_226 dL_law_227 dL_law_228 dL_law_229 ?_
  refine lw_rd C0 hI.2.2.2.2.2.2 (lv_at hl 0 rfl) (lv_at hl 3 rfl) hLx 4 (by omega) rfl dL_law_230 dL_law_231 dL_law_232 dL_law_233 dL_law_234 ?_
  refine lw_cC mX5_make [fw_i (xs (i + 1)).toInt, fw_i (xs (i + 2)).toInt, fw_i (xs (i + 3)).toInt, fw_i (xs (i + 4)).toInt] C0 hI dL_law_235 mv_X5_make (fw_mem 328 (by decide +kernel) rfl) ⟨by decide, by decide⟩ ⟨rfl, rfl, rfl, rfl⟩ (by simp only [List.mem_cons, List.not_mem_nil, or_false]; rintro v (rfl | rfl | rfl | rfl) <;> first | exact lw_ok _ | exact True.intro) hroom rfl (Nat.le_of_ble_eq_true rfl) hl.1 hP (fun r5 M5 L5 H5 locs5 p5 hI5 => ?_)
  obtain rfl := h1 _ _ _ p5
  refine lv_aload_n C0.1 C0.2.1 dL_law_238 rfl (lv_at hl 2 rfl) ?_
  refine lw_rd C0 hI5.2.2.2.2.2.2 (lv_at hl 0 rfl) (lv_at hl 3 rfl) hLx 1 (by omega) rfl dL_law_239 dL_law_240 dL_law_241 dL_law_242 dL_law_243 ?_
  refine lw_rd C0 hI5.2.2.2.2.2.2 (lv_at hl 0 rfl) (lv_at hl 3 rfl) hLx 2 (by omega) rfl dL_law_244 dL_law_245 dL_law_246 dL_law_247 dL_law_248 ?_
  refine lw_rd C0 hI5.2.2.2.2.2.2 (lv_at hl 0 rfl) (lv_at hl 3 rfl) hLx 3 (by omega) rfl dL_law_249 dL_law_250 dL_law_251 dL_law_252 dL_law_253 ?_
  refine lw_rd C0 hI5.2.2.2.2.2.2 (lv_at hl 0 rfl) (lv_at hl 3 rfl) hLx 4 (by omega) rfl dL_law_254 dL_law_255 dL_law_256 dL_law_257 dL_law_258 ?_
  refine lw_cM mX6_make [fw_i (xs (i + 1)).toInt, fw_i (xs (i + 2)).toInt, fw_i (xs (i + 3)).toInt, fw_i (xs (i + 4)).toInt] C0 hI5 dL_law_259 mv_X6_make (fw_mem 895 (by decide +kernel) rfl) ⟨by decide, by decide⟩ ⟨rfl, rfl, rfl, rfl⟩ (by simp only [List.mem_cons, List.not_mem_nil, or_false]; rintro v (rfl | rfl | rfl | rfl) <;> first | exact lw_ok _ | exact True.intro) hroom rfl (Nat.le_of_ble_eq_true rfl) hl.1 hU (fun r6 M6 L6 H6 locs6 p6 hI6 => ?_)
  obtain rfl := h2 _ _ _ p6
  refine lv_icmp_eq (tgt := 1270) C0.1 C0.2.1 dL_law_262 (by decide) (fun _ => ?_) (fun h => absurd rfl h)
  exact kk _ _ _ _ _ _ hI6 (h3 _ _ _ _ _ _ p5 p6)

set_option maxRecDepth 20000 in
theorem lc_3 {p : Program} {l : Launch} {e : Env} {s : State} {m : MethodId} {below : List Frame} {meth : Method} {c : Code} {b Lx : Nat} {xs : Nat → Int32} (C0 : lw_At p s m meth c b Lx xs) {D : va_G} {cA : Nat → ClassId} {H : Heap} {locs : List Loc} {M N : fw_F} {L K : fw_G} (hI : lw_I D cA s H locs M L N K) (hR : Rel M L N K) {la : Array Slot} {i : Nat} (hl : lv_has la 4 [(0, .ref b), (1, .ref s.heap.size), (2, .ref (s.heap.size + 203)), (3, .int (nI i))]) (hLx : Lx ≤ 3072) (hi : i + 6 ≤ Lx) {cells slots : Nat} (hroom : cells ≤ 600000 ∧ slots ≤ 7302249) {Z : State → Prop} (kk : ∀ (H2 : Heap) (locs2 : List Loc) (M2 : fw_F) (L2 : fw_G) (N2 : fw_F) (K2 : fw_G), lw_I D cA s H2 locs2 M2 L2 N2 K2 → Rel M2 L2 N2 K2 → W p l e room_1 s m #[Value.ref b] below meth c H2 locs2 cells slots Z (F0 m 1270 la [])) : W p l e room_1 s m #[Value.ref b] below meth c H locs cells slots Z (F0 m 267 la []) := by
  obtain ⟨v, P, U, hP, hU, h1, h2, h3⟩ := jn_move ((xs (i + 1)).toInt) ((xs (i + 2)).toInt) ((xs (i + 3)).toInt) ((xs (i + 4)).toInt) M N L K hR
  refine lv_aload_n C0.1 C0.2.1 dL_law_267 rfl (lv_at hl 1 rfl) ?_
  refine lw_rd C0 hI.2.2.2.2.2.2 (lv_at hl 0 rfl) (lv_at hl 3 rfl) hLx 1 (by omega) rfl dL_law_268 dL_law_269 dL_law_270 dL_law_271 dL_law_272 ?_
  refine lw_rd C0 hI.2.2.2.2.2.2 (lv_at hl 0 rfl) (lv_at hl 3 rfl) hLx 2 (by omega) rfl dL_law_273 dL_law_274 dL_law_275 dL_law_276 dL_law_277 ?_
  refine lw_rd C0 hI.2.2.2.2.2.2 (lv_at hl 0 rfl) (lv_at hl 3 rfl) hLx 3 (by omega) rfl dL_law_278 dL_law_279 dL_law_280 dL_law_281 dL_law_282 ?_
  refine lw_rd C0 hI.2.2.2.2.2.2 (lv_at hl 0 rfl) (lv_at hl 3 rfl) hLx 4 (by omega) rfl dL_law_283 dL_law_284 dL_law_285 dL_law_286 dL_law_287 ?_
  refine lw_cC mX5_move [fw_i (xs (i + 1)).toInt, fw_i (xs (i + 2)).toInt, fw_i (xs (i + 3)).toInt, fw_i (xs (i + 4)).toInt] C0 hI dL_law_288 mv_X5_move (fw_mem 477 (by decide +kernel) rfl) ⟨by decide, by decide⟩ ⟨rfl, rfl, rfl, rfl⟩ (by simp only [List.mem_cons, List.not_mem_nil, or_false]; rintro v (rfl | rfl | rfl | rfl) <;> first | exact lw_ok _ | exact True.intro) hroom rfl (Nat.le_of_ble_eq_true rfl) hl.1 hP (fun r5 M5 L5 H5 locs5 p5 hI5 => ?_)
  obtain rfl := h1 _ _ _ p5
  refine lv_aload_n C0.1 C0.2.1 dL_law_291 rfl (lv_at hl 2 rfl) ?_
  refine lw_rd C0 hI5.2.2.2.2.2.2 (lv_at hl 0 rfl) (lv_at hl 3 rfl) hLx 1 (by omega) rfl dL_law_292 dL_law_293 dL_law_294 dL_law_295 dL_law_296 ?_
  refine lw_rd C0 hI5.2.2.2.2.2.2 (lv_at hl 0 rfl) (lv_at hl 3 rfl) hLx 2 (by omega) rfl dL_law_297 dL_law_298 dL_law_299 dL_law_300 dL_law_301 ?_
  refine lw_rd C0 hI5.2.2.2.2.2.2 (lv_at hl 0 rfl) (lv_at hl 3 rfl) hLx 3 (by omega) rfl dL_law_302 dL_law_303 dL_law_304 dL_law_305 dL_law_306 ?_
  refine lw_rd C0 hI5.2.2.2.2.2.2 (lv_at hl 0 rfl) (lv_at hl 3 rfl) hLx 4 (by omega) rfl dL_law_307 dL_law_308 dL_law_309 dL_law_310 dL_law_311 ?_
  refine lw_cM mX6_move [fw_i (xs (i + 1)).toInt, fw_i (xs (i + 2)).toInt, fw_i (xs (i + 3)).toInt, fw_i (xs (i + 4)).toInt] C0 hI5 dL_law_312 mv_X6_move (fw_mem 977 (by decide +kernel) rfl) ⟨by decide, by decide⟩ ⟨rfl, rfl, rfl, rfl⟩ (by simp only [List.mem_cons, List.not_mem_nil, or_false]; rintro v (rfl | rfl | rfl | rfl) <;> first | exact lw_ok _ | exact True.intro) hroom rfl (Nat.le_of_ble_eq_true rfl) hl.1 hU (fun r6 M6 L6 H6 locs6 p6 hI6 => ?_)
  obtain rfl := h2 _ _ _ p6
  refine lv_icmp_eq (tgt := 1270) C0.1 C0.2.1 dL_law_315 (by decide) (fun _ => ?_) (fun h => absurd rfl h)
  exact kk _ _ _ _ _ _ hI6 (h3 _ _ _ _ _ _ p5 p6)

set_option maxRecDepth 20000 in
theorem lc_4 {p : Program} {l : Launch} {e : Env} {s : State} {m : MethodId} {below : List Frame} {meth : Method} {c : Code} {b Lx : Nat} {xs : Nat → Int32} (C0 : lw_At p s m meth c b Lx xs) {D : va_G} {cA : Nat → ClassId} {H : Heap} {locs : List Loc} {M N : fw_F} {L K : fw_G} (hI : lw_I D cA s H locs M L N K) (hR : Rel M L N K) {la : Array Slot} {i : Nat} (hl : lv_has la 4 [(0, .ref b), (1, .ref s.heap.size), (2, .ref (s.heap.size + 203)), (3, .int (nI i))]) (hLx : Lx ≤ 3072) (hi : i + 6 ≤ Lx) {cells slots : Nat} (hroom : cells ≤ 600000 ∧ slots ≤ 7302249) {Z : State → Prop} (kk : ∀ (H2 : Heap) (locs2 : List Loc) (M2 : fw_F) (L2 : fw_G) (N2 : fw_F) (K2 : fw_G), lw_I D cA s H2 locs2 M2 L2 N2 K2 → Rel M2 L2 N2 K2 → W p l e room_1 s m #[Value.ref b] below meth c H2 locs2 cells slots Z (F0 m 1270 la [])) : W p l e room_1 s m #[Value.ref b] below meth c H locs cells slots Z (F0 m 320 la []) := by
  obtain ⟨v, P, U, hP, hU, h1, h2, h3⟩ := jn_gone ((xs (i + 1)).toInt) ((xs (i + 2)).toInt) M N L K hR
  refine lv_aload_n C0.1 C0.2.1 dL_law_320 rfl (lv_at hl 1 rfl) ?_
  refine lw_rd C0 hI.2.2.2.2.2.2 (lv_at hl 0 rfl) (lv_at hl 3 rfl) hLx 1 (by omega) rfl dL_law_321 dL_law_322 dL_law_323 dL_law_324 dL_law_325 ?_
  refine lw_rd C0 hI.2.2.2.2.2.2 (lv_at hl 0 rfl) (lv_at hl 3 rfl) hLx 2 (by omega) rfl dL_law_326 dL_law_327 dL_law_328 dL_law_329 dL_law_330 ?_
  refine lw_cC mX5_gone [fw_i (xs (i + 1)).toInt, fw_i (xs (i + 2)).toInt] C0 hI dL_law_331 mv_X5_gone (fw_mem 482 (by decide +kernel) rfl) ⟨by decide, by decide⟩ ⟨rfl, rfl, rfl, rfl⟩ (by simp only [List.mem_cons, List.not_mem_nil, or_false]; rintro v (rfl | rfl) <;> first | exact lw_ok _ | exact True.intro) hroom rfl (Nat.le_of_ble_eq_true rfl) hl.1 hP (fun r5 M5 L5 H5 locs5 p5 hI5 => ?_)
  obtain rfl := h1 _ _ _ p5
  refine lv_aload_n C0.1 C0.2.1 dL_law_334 rfl (lv_at hl 2 rfl) ?_
  refine lw_rd C0 hI5.2.2.2.2.2.2 (lv_at hl 0 rfl) (lv_at hl 3 rfl) hLx 1 (by omega) rfl dL_law_335 dL_law_336 dL_law_337 dL_law_338 dL_law_339 ?_
  refine lw_rd C0 hI5.2.2.2.2.2.2 (lv_at hl 0 rfl) (lv_at hl 3 rfl) hLx 2 (by omega) rfl dL_law_340 dL_law_341 dL_law_342 dL_law_343 dL_law_344 ?_
  refine lw_cM mX6_gone [fw_i (xs (i + 1)).toInt, fw_i (xs (i + 2)).toInt] C0 hI5 dL_law_345 mv_X6_gone (fw_mem 981 (by decide +kernel) rfl) ⟨by decide, by decide⟩ ⟨rfl, rfl, rfl, rfl⟩ (by simp only [List.mem_cons, List.not_mem_nil, or_false]; rintro v (rfl | rfl) <;> first | exact lw_ok _ | exact True.intro) hroom rfl (Nat.le_of_ble_eq_true rfl) hl.1 hU (fun r6 M6 L6 H6 locs6 p6 hI6 => ?_)
  obtain rfl := h2 _ _ _ p6
  refine lv_icmp_eq (tgt := 1270) C0.1 C0.2.1 dL_law_348 (by decide) (fun _ => ?_) (fun h => absurd rfl h)
  exact kk _ _ _ _ _ _ hI6 (h3 _ _ _ _ _ _ p5 p6)

set_option maxRecDepth 20000 in
theorem lc_5 {p : Program} {l : Launch} {e : Env} {s : State} {m : MethodId} {below : List Frame} {meth : Method} {c : Code} {b Lx : Nat} {xs : Nat → Int32} (C0 : lw_At p s m meth c b Lx xs) {D : va_G} {cA : Nat → ClassId} {H : Heap} {locs : List Loc} {M N : fw_F} {L K : fw_G} (hI : lw_I D cA s H locs M L N K) (hR : Rel M L N K) {la : Array Slot} {i : Nat} (hl : lv_has la 4 [(0, .ref b), (1, .ref s.heap.size), (2, .ref (s.heap.size + 203)), (3, .int (nI i))]) (hLx : Lx ≤ 3072) (hi : i + 6 ≤ Lx) {cells slots : Nat} (hroom : cells ≤ 600000 ∧ slots ≤ 7302249) {Z : State → Prop} (kk : ∀ (H2 : Heap) (locs2 : List Loc) (M2 : fw_F) (L2 : fw_G) (N2 : fw_F) (K2 : fw_G), lw_I D cA s H2 locs2 M2 L2 N2 K2 → Rel M2 L2 N2 K2 → W p l e room_1 s m #[Value.ref b] below meth c H2 locs2 cells slots Z (F0 m 1270 la [])) : W p l e room_1 s m #[Value.ref b] below meth c H locs cells slots Z (F0 m 353 la []) := by
  obtain ⟨v, P, U, hP, hU, h1, h2, h3⟩ := jn_write ((xs (i + 1)).toInt) ((xs (i + 2)).toInt) ((Int32.ofInt (xs (i + 3)).toInt).toInt64 <<< ((32 : Int32).toInt64 &&& 63) ||| (Int32.ofInt (xs (i + 4)).toInt).toInt64 &&& 4294967295) ((xs (i + 5)).toInt) M N L K hR
  refine lv_aload_n C0.1 C0.2.1 dL_law_353 rfl (lv_at hl 1 rfl) ?_
  refine lw_rd C0 hI.2.2.2.2.2.2 (lv_at hl 0 rfl) (lv_at hl 3 rfl) hLx 1 (by omega) rfl dL_law_354 dL_law_355 dL_law_356 dL_law_357 dL_law_358 ?_
  refine lw_rd C0 hI.2.2.2.2.2.2 (lv_at hl 0 rfl) (lv_at hl 3 rfl) hLx 2 (by omega) rfl dL_law_359 dL_law_360 dL_law_361 dL_law_362 dL_law_363 ?_
  refine lw_rd C0 hI.2.2.2.2.2.2 (lv_at hl 0 rfl) (lv_at hl 3 rfl) hLx 3 (by omega) rfl dL_law_364 dL_law_365 dL_law_366 dL_law_367 dL_law_368 ?_
  refine lv_i2l C0.1 C0.2.1 dL_law_369 rfl ?_
  refine lv_bipush (v := 32) C0.1 C0.2.1 dL_law_370 (by decide) ?_
  refine lv_lshl C0.1 C0.2.1 dL_law_372 rfl ?_
  refine lw_rd C0 hI.2.2.2.2.2.2 (lv_at hl 0 rfl) (lv_at hl 3 rfl) hLx 4 (by omega) rfl dL_law_373 dL_law_374 dL_law_375 dL_law_376 dL_law_377 ?_
  refine lv_i2l C0.1 C0.2.1 dL_law_378 rfl ?_
  refine lv_ldc2 (own := R_law) (v := 4294967295) C0.1 C0.2.1 C0.2.2.2.2.1 ((lw_fix C0).2.2.2.2 _ (fw_mem 1162 (by decide +kernel) rfl)) dL_law_379 ?_
  refine lv_land C0.1 C0.2.1 dL_law_382 ?_
  refine lv_lor C0.1 C0.2.1 dL_law_383 ?_
  refine lw_rd C0 hI.2.2.2.2.2.2 (lv_at hl 0 rfl) (lv_at hl 3 rfl) hLx 5 (by omega) rfl dL_law_384 dL_law_385 dL_law_386 dL_law_387 dL_law_388 ?_
  refine lw_cC mX5_write [fw_i (xs (i + 1)).toInt, fw_i (xs (i + 2)).toInt, fw_l ((Int32.ofInt (xs (i + 3)).toInt).toInt64 <<< ((32 : Int32).toInt64 &&& 63) ||| (Int32.ofInt (xs (i + 4)).toInt).toInt64 &&& 4294967295), fw_i (xs (i + 5)).toInt] C0 hI dL_law_389 mv_X5_write (fw_mem 490 (by decide +kernel) rfl) ⟨by decide, by decide⟩ ⟨rfl, rfl, rfl, rfl⟩ (by simp only [List.mem_cons, List.not_mem_nil, or_false]; rintro v (rfl | rfl | rfl | rfl) <;> first | exact lw_ok _ | exact True.intro) hroom rfl (Nat.le_of_ble_eq_true rfl) hl.1 hP (fun r5 M5 L5 H5 locs5 p5 hI5 => ?_)
  obtain rfl := h1 _ _ _ p5
  refine lv_aload_n C0.1 C0.2.1 dL_law_392 rfl (lv_at hl 2 rfl) ?_
  refine lw_rd C0 hI5.2.2.2.2.2.2 (lv_at hl 0 rfl) (lv_at hl 3 rfl) hLx 1 (by omega) rfl dL_law_393 dL_law_394 dL_law_395 dL_law_396 dL_law_397 ?_
  refine lw_rd C0 hI5.2.2.2.2.2.2 (lv_at hl 0 rfl) (lv_at hl 3 rfl) hLx 2 (by omega) rfl dL_law_398 dL_law_399 dL_law_400 dL_law_401 dL_law_402 ?_
  refine lw_rd C0 hI5.2.2.2.2.2.2 (lv_at hl 0 rfl) (lv_at hl 3 rfl) hLx 3 (by omega) rfl dL_law_403 dL_law_404 dL_law_405 dL_law_406 dL_law_407 ?_
  refine lv_i2l C0.1 C0.2.1 dL_law_408 rfl ?_
  refine lv_bipush (v := 32) C0.1 C0.2.1 dL_law_409 (by decide) ?_
  refine lv_lshl C0.1 C0.2.1 dL_law_411 rfl ?_
  refine lw_rd C0 hI5.2.2.2.2.2.2 (lv_at hl 0 rfl) (lv_at hl 3 rfl) hLx 4 (by omega) rfl dL_law_412 dL_law_413 dL_law_414 dL_law_415 dL_law_416 ?_
  refine lv_i2l C0.1 C0.2.1 dL_law_417 rfl ?_
  refine lv_ldc2 (own := R_law) (v := 4294967295) C0.1 C0.2.1 C0.2.2.2.2.1 ((lw_fix C0).2.2.2.2 _ (fw_mem 1162 (by decide +kernel) rfl)) dL_law_418 ?_
  refine lv_land C0.1 C0.2.1 dL_law_421 ?_
  refine lv_lor C0.1 C0.2.1 dL_law_422 ?_
  refine lw_rd C0 hI5.2.2.2.2.2.2 (lv_at hl 0 rfl) (lv_at hl 3 rfl) hLx 5 (by omega) rfl dL_law_423 dL_law_424 dL_law_425 dL_law_426 dL_law_427 ?_
  refine lw_cM mX6_write [fw_i (xs (i + 1)).toInt, fw_i (xs (i + 2)).toInt, fw_l ((Int32.ofInt (xs (i + 3)).toInt).toInt64 <<< ((32 : Int32).toInt64 &&& 63) ||| (Int32.ofInt (xs (i + 4)).toInt).toInt64 &&& 4294967295), fw_i (xs (i + 5)).toInt] C0 hI5 dL_law_428 mv_X6_write (fw_mem 985 (by decide +kernel) rfl) ⟨by decide, by decide⟩ ⟨rfl, rfl, rfl, rfl⟩ (by simp only [List.mem_cons, List.not_mem_nil, or_false]; rintro v (rfl | rfl | rfl | rfl) <;> first | exact lw_ok _ | exact True.intro) hroom rfl (Nat.le_of_ble_eq_true rfl) hl.1 hU (fun r6 M6 L6 H6 locs6 p6 hI6 => ?_)
  obtain rfl := h2 _ _ _ p6
  refine lv_icmp_eq (tgt := 1270) C0.1 C0.2.1 dL_law_431 (by decide) (fun _ => ?_) (fun h => absurd rfl h)
  exact kk _ _ _ _ _ _ hI6 (h3 _ _ _ _ _ _ p5 p6)

set_option maxRecDepth 20000 in
theorem lc_6 {p : Program} {l : Launch} {e : Env} {s : State} {m : MethodId} {below : List Frame} {meth : Method} {c : Code} {b Lx : Nat} {xs : Nat → Int32} (C0 : lw_At p s m meth c b Lx xs) {D : va_G} {cA : Nat → ClassId} {H : Heap} {locs : List Loc} {M N : fw_F} {L K : fw_G} (hI : lw_I D cA s H locs M L N K) (hR : Rel M L N K) {la : Array Slot} {i : Nat} (hl : lv_has la 4 [(0, .ref b), (1, .ref s.heap.size), (2, .ref (s.heap.size + 203)), (3, .int (nI i))]) (hLx : Lx ≤ 3072) (hi : i + 6 ≤ Lx) {cells slots : Nat} (hroom : cells ≤ 600000 ∧ slots ≤ 7302249) {Z : State → Prop} (kk : ∀ (H2 : Heap) (locs2 : List Loc) (M2 : fw_F) (L2 : fw_G) (N2 : fw_F) (K2 : fw_G), lw_I D cA s H2 locs2 M2 L2 N2 K2 → Rel M2 L2 N2 K2 → W p l e room_1 s m #[Value.ref b] below meth c H2 locs2 cells slots Z (F0 m 1270 la [])) : W p l e room_1 s m #[Value.ref b] below meth c H locs cells slots Z (F0 m 436 la []) := by
  obtain ⟨v, P, U, hP, hU, h1, h2, h3⟩ := jn_send ((xs (i + 1)).toInt) ((xs (i + 2)).toInt) M N L K hR
  refine lv_aload_n C0.1 C0.2.1 dL_law_436 rfl (lv_at hl 1 rfl) ?_
  refine lw_rd C0 hI.2.2.2.2.2.2 (lv_at hl 0 rfl) (lv_at hl 3 rfl) hLx 1 (by omega) rfl dL_law_437 dL_law_438 dL_law_439 dL_law_440 dL_law_441 ?_
  refine lw_rd C0 hI.2.2.2.2.2.2 (lv_at hl 0 rfl) (lv_at hl 3 rfl) hLx 2 (by omega) rfl dL_law_442 dL_law_443 dL_law_444 dL_law_445 dL_law_446 ?_
  refine lw_cC mX5_send [fw_i (xs (i + 1)).toInt, fw_i (xs (i + 2)).toInt] C0 hI dL_law_447 mv_X5_send (fw_mem 529 (by decide +kernel) rfl) ⟨by decide, by decide⟩ ⟨rfl, rfl, rfl, rfl⟩ (by simp only [List.mem_cons, List.not_mem_nil, or_false]; rintro v (rfl | rfl) <;> first | exact lw_ok _ | exact True.intro) hroom rfl (Nat.le_of_ble_eq_true rfl) hl.1 hP (fun r5 M5 L5 H5 locs5 p5 hI5 => ?_)
  obtain rfl := h1 _ _ _ p5
  refine lv_aload_n C0.1 C0.2.1 dL_law_450 rfl (lv_at hl 2 rfl) ?_
  refine lw_rd C0 hI5.2.2.2.2.2.2 (lv_at hl 0 rfl) (lv_at hl 3 rfl) hLx 1 (by omega) rfl dL_law_451 dL_law_452 dL_law_453 dL_law_454 dL_law_455 ?_
  refine lw_rd C0 hI5.2.2.2.2.2.2 (lv_at hl 0 rfl) (lv_at hl 3 rfl) hLx 2 (by omega) rfl dL_law_456 dL_law_457 dL_law_458 dL_law_459 dL_law_460 ?_
  refine lw_cM mX6_send [fw_i (xs (i + 1)).toInt, fw_i (xs (i + 2)).toInt] C0 hI5 dL_law_461 mv_X6_send (fw_mem 1018 (by decide +kernel) rfl) ⟨by decide, by decide⟩ ⟨rfl, rfl, rfl, rfl⟩ (by simp only [List.mem_cons, List.not_mem_nil, or_false]; rintro v (rfl | rfl) <;> first | exact lw_ok _ | exact True.intro) hroom rfl (Nat.le_of_ble_eq_true rfl) hl.1 hU (fun r6 M6 L6 H6 locs6 p6 hI6 => ?_)
  obtain rfl := h2 _ _ _ p6
  refine lv_icmp_eq (tgt := 1270) C0.1 C0.2.1 dL_law_464 (by decide) (fun _ => ?_) (fun h => absurd rfl h)
  exact kk _ _ _ _ _ _ hI6 (h3 _ _ _ _ _ _ p5 p6)

set_option maxRecDepth 20000 in
theorem lc_7 {p : Program} {l : Launch} {e : Env} {s : State} {m : MethodId} {below : List Frame} {meth : Method} {c : Code} {b Lx : Nat} {xs : Nat → Int32} (C0 : lw_At p s m meth c b Lx xs) {D : va_G} {cA : Nat → ClassId} {H : Heap} {locs : List Loc} {M N : fw_F} {L K : fw_G} (hI : lw_I D cA s H locs M L N K) (hR : Rel M L N K) {la : Array Slot} {i : Nat} (hl : lv_has la 4 [(0, .ref b), (1, .ref s.heap.size), (2, .ref (s.heap.size + 203)), (3, .int (nI i))]) (hLx : Lx ≤ 3072) (hi : i + 6 ≤ Lx) {cells slots : Nat} (hroom : cells ≤ 600000 ∧ slots ≤ 7302249) {Z : State → Prop} (kk : ∀ (H2 : Heap) (locs2 : List Loc) (M2 : fw_F) (L2 : fw_G) (N2 : fw_F) (K2 : fw_G), lw_I D cA s H2 locs2 M2 L2 N2 K2 → Rel M2 L2 N2 K2 → W p l e room_1 s m #[Value.ref b] below meth c H2 locs2 cells slots Z (F0 m 1270 la [])) : W p l e room_1 s m #[Value.ref b] below meth c H locs cells slots Z (F0 m 469 la []) := by
  obtain ⟨v, P, U, hP, hU, h1, h2, h3⟩ := jn_sendSome ((xs (i + 1)).toInt) ((xs (i + 2)).toInt) ((xs (i + 3)).toInt) M N L K hR
  refine lv_aload_n C0.1 C0.2.1 dL_law_469 rfl (lv_at hl 1 rfl) ?_
  refine lw_rd C0 hI.2.2.2.2.2.2 (lv_at hl 0 rfl) (lv_at hl 3 rfl) hLx 1 (by omega) rfl dL_law_470 dL_law_471 dL_law_472 dL_law_473 dL_law_474 ?_
  refine lw_rd C0 hI.2.2.2.2.2.2 (lv_at hl 0 rfl) (lv_at hl 3 rfl) hLx 2 (by omega) rfl dL_law_475 dL_law_476 dL_law_477 dL_law_478 dL_law_479 ?_
  refine lw_rd C0 hI.2.2.2.2.2.2 (lv_at hl 0 rfl) (lv_at hl 3 rfl) hLx 3 (by omega) rfl dL_law_480 dL_law_481 dL_law_482 dL_law_483 dL_law_484 ?_
  refine lw_cC mX5_sendSome [fw_i (xs (i + 1)).toInt, fw_i (xs (i + 2)).toInt, fw_i (xs (i + 3)).toInt] C0 hI dL_law_485 mv_X5_sendSome (fw_mem 537 (by decide +kernel) rfl) ⟨by decide, by decide⟩ ⟨rfl, rfl, rfl, rfl⟩ (by simp only [List.mem_cons, List.not_mem_nil, or_false]; rintro v (rfl | rfl | rfl) <;> first | exact lw_ok _ | exact True.intro) hroom rfl (Nat.le_of_ble_eq_true rfl) hl.1 hP (fun r5 M5 L5 H5 locs5 p5 hI5 => ?_)
  obtain rfl := h1 _ _ _ p5
  refine lv_aload_n C0.1 C0.2.1 dL_law_488 rfl (lv_at hl 2 rfl) ?_
  refine lw_rd C0 hI5.2.2.2.2.2.2 (lv_at hl 0 rfl) (lv_at hl 3 rfl) hLx 1 (by omega) rfl dL_law_489 dL_law_490 dL_law_491 dL_law_492 dL_law_493 ?_
  refine lw_rd C0 hI5.2.2.2.2.2.2 (lv_at hl 0 rfl) (lv_at hl 3 rfl) hLx 2 (by omega) rfl dL_law_494 dL_law_495 dL_law_496 dL_law_497 dL_law_498 ?_
  refine lw_rd C0 hI5.2.2.2.2.2.2 (lv_at hl 0 rfl) (lv_at hl 3 rfl) hLx 3 (by omega) rfl dL_law_499 dL_law_500 dL_law_501 dL_law_502 dL_law_503 ?_
  refine lw_cM mX6_sendSome [fw_i (xs (i + 1)).toInt, fw_i (xs (i + 2)).toInt, fw_i (xs (i + 3)).toInt] C0 hI5 dL_law_504 mv_X6_sendSome (fw_mem 1022 (by decide +kernel) rfl) ⟨by decide, by decide⟩ ⟨rfl, rfl, rfl, rfl⟩ (by simp only [List.mem_cons, List.not_mem_nil, or_false]; rintro v (rfl | rfl | rfl) <;> first | exact lw_ok _ | exact True.intro) hroom rfl (Nat.le_of_ble_eq_true rfl) hl.1 hU (fun r6 M6 L6 H6 locs6 p6 hI6 => ?_)
  obtain rfl := h2 _ _ _ p6
  refine lv_icmp_eq (tgt := 1270) C0.1 C0.2.1 dL_law_507 (by decide) (fun _ => ?_) (fun h => absurd rfl h)
  exact kk _ _ _ _ _ _ hI6 (h3 _ _ _ _ _ _ p5 p6)

set_option maxRecDepth 20000 in
theorem lc_8 {p : Program} {l : Launch} {e : Env} {s : State} {m : MethodId} {below : List Frame} {meth : Method} {c : Code} {b Lx : Nat} {xs : Nat → Int32} (C0 : lw_At p s m meth c b Lx xs) {D : va_G} {cA : Nat → ClassId} {H : Heap} {locs : List Loc} {M N : fw_F} {L K : fw_G} (hI : lw_I D cA s H locs M L N K) (hR : Rel M L N K) {la : Array Slot} {i : Nat} (hl : lv_has la 4 [(0, .ref b), (1, .ref s.heap.size), (2, .ref (s.heap.size + 203)), (3, .int (nI i))]) (hLx : Lx ≤ 3072) (hi : i + 6 ≤ Lx) {cells slots : Nat} (hroom : cells ≤ 600000 ∧ slots ≤ 7302249) {Z : State → Prop} (kk : ∀ (H2 : Heap) (locs2 : List Loc) (M2 : fw_F) (L2 : fw_G) (N2 : fw_F) (K2 : fw_G), lw_I D cA s H2 locs2 M2 L2 N2 K2 → Rel M2 L2 N2 K2 → W p l e room_1 s m #[Value.ref b] below meth c H2 locs2 cells slots Z (F0 m 1270 la [])) : W p l e room_1 s m #[Value.ref b] below meth c H locs cells slots Z (F0 m 512 la []) := by
  obtain ⟨v, P, U, hP, hU, h1, h2, h3⟩ := jn_change ((xs (i + 1)).toInt) ((xs (i + 2)).toInt) ((xs (i + 3)).toInt) M N L K hR
  refine lv_aload_n C0.1 C0.2.1 dL_law_512 rfl (lv_at hl 1 rfl) ?_
  refine lw_rd C0 hI.2.2.2.2.2.2 (lv_at hl 0 rfl) (lv_at hl 3 rfl) hLx 1 (by omega) rfl dL_law_513 dL_law_514 dL_law_515 dL_law_516 dL_law_517 ?_
  refine lw_rd C0 hI.2.2.2.2.2.2 (lv_at hl 0 rfl) (lv_at hl 3 rfl) hLx 2 (by omega) rfl dL_law_518 dL_law_519 dL_law_520 dL_law_521 dL_law_522 ?_
  refine lw_rd C0 hI.2.2.2.2.2.2 (lv_at hl 0 rfl) (lv_at hl 3 rfl) hLx 3 (by omega) rfl dL_law_523 dL_law_524 dL_law_525 dL_law_526 dL_law_527 ?_
  refine lw_cC mX5_change [fw_i (xs (i + 1)).toInt, fw_i (xs (i + 2)).toInt, fw_i (xs (i + 3)).toInt] C0 hI dL_law_528 mv_X5_change (fw_mem 541 (by decide +kernel) rfl) ⟨by decide, by decide⟩ ⟨rfl, rfl, rfl, rfl⟩ (by simp only [List.mem_cons, List.not_mem_nil, or_false]; rintro v (rfl | rfl | rfl) <;> first | exact lw_ok _ | exact True.intro) hroom rfl (Nat.le_of_ble_eq_true rfl) hl.1 hP (fun r5 M5 L5 H5 locs5 p5 hI5 => ?_)
  obtain rfl := h1 _ _ _ p5
  refine lv_aload_n C0.1 C0.2.1 dL_law_531 rfl (lv_at hl 2 rfl) ?_
  refine lw_rd C0 hI5.2.2.2.2.2.2 (lv_at hl 0 rfl) (lv_at hl 3 rfl) hLx 1 (by omega) rfl dL_law_532 dL_law_533 dL_law_534 dL_law_535 dL_law_536 ?_
  refine lw_rd C0 hI5.2.2.2.2.2.2 (lv_at hl 0 rfl) (lv_at hl 3 rfl) hLx 2 (by omega) rfl dL_law_537 dL_law_538 dL_law_539 dL_law_540 dL_law_541 ?_
  refine lw_rd C0 hI5.2.2.2.2.2.2 (lv_at hl 0 rfl) (lv_at hl 3 rfl) hLx 3 (by omega) rfl dL_law_542 dL_law_543 dL_law_544 dL_law_545 dL_law_546 ?_
  refine lw_cM mX6_change [fw_i (xs (i + 1)).toInt, fw_i (xs (i + 2)).toInt, fw_i (xs (i + 3)).toInt] C0 hI5 dL_law_547 mv_X6_change (fw_mem 1026 (by decide +kernel) rfl) ⟨by decide, by decide⟩ ⟨rfl, rfl, rfl, rfl⟩ (by simp only [List.mem_cons, List.not_mem_nil, or_false]; rintro v (rfl | rfl | rfl) <;> first | exact lw_ok _ | exact True.intro) hroom rfl (Nat.le_of_ble_eq_true rfl) hl.1 hU (fun r6 M6 L6 H6 locs6 p6 hI6 => ?_)
  obtain rfl := h2 _ _ _ p6
  refine lv_icmp_eq (tgt := 1270) C0.1 C0.2.1 dL_law_550 (by decide) (fun _ => ?_) (fun h => absurd rfl h)
  exact kk _ _ _ _ _ _ hI6 (h3 _ _ _ _ _ _ p5 p6)

set_option maxRecDepth 20000 in
theorem lc_9 {p : Program} {l : Launch} {e : Env} {s : State} {m : MethodId} {below : List Frame} {meth : Method} {c : Code} {b Lx : Nat} {xs : Nat → Int32} (C0 : lw_At p s m meth c b Lx xs) {D : va_G} {cA : Nat → ClassId} {H : Heap} {locs : List Loc} {M N : fw_F} {L K : fw_G} (hI : lw_I D cA s H locs M L N K) (hR : Rel M L N K) {la : Array Slot} {i : Nat} (hl : lv_has la 4 [(0, .ref b), (1, .ref s.heap.size), (2, .ref (s.heap.size + 203)), (3, .int (nI i))]) (hLx : Lx ≤ 3072) (hi : i + 6 ≤ Lx) {cells slots : Nat} (hroom : cells ≤ 600000 ∧ slots ≤ 7302249) {Z : State → Prop} (kk : ∀ (H2 : Heap) (locs2 : List Loc) (M2 : fw_F) (L2 : fw_G) (N2 : fw_F) (K2 : fw_G), lw_I D cA s H2 locs2 M2 L2 N2 K2 → Rel M2 L2 N2 K2 → W p l e room_1 s m #[Value.ref b] below meth c H2 locs2 cells slots Z (F0 m 1270 la [])) : W p l e room_1 s m #[Value.ref b] below meth c H locs cells slots Z (F0 m 555 la []) := by
  obtain ⟨v, P, U, hP, hU, h1, h2, h3⟩ := jn_thing ((xs (i + 1)).toInt) ((xs (i + 2)).toInt) ((xs (i + 3)).toInt) ((xs (i + 4)).toInt) M N L K hR
  refine lv_aload_n C0.1 C0.2.1 dL_law_555 rfl (lv_at hl 1 rfl) ?_
  refine lw_rd C0 hI.2.2.2.2.2.2 (lv_at hl 0 rfl) (lv_at hl 3 rfl) hLx 1 (by omega) rfl dL_law_556 dL_law_557 dL_law_558 dL_law_559 dL_law_560 ?_
  refine lw_rd C0 hI.2.2.2.2.2.2 (lv_at hl 0 rfl) (lv_at hl 3 rfl) hLx 2 (by omega) rfl dL_law_561 dL_law_562 dL_law_563 dL_law_564 dL_law_565 ?_
  refine lw_rd C0 hI.2.2.2.2.2.2 (lv_at hl 0 rfl) (lv_at hl 3 rfl) hLx 3 (by omega) rfl dL_law_566 dL_law_567 dL_law_568 dL_law_569 dL_law_570 ?_
  refine lw_rd C0 hI.2.2.2.2.2.2 (lv_at hl 0 rfl) (lv_at hl 3 rfl) hLx 4 (by omega) rfl dL_law_571 dL_law_572 dL_law_573 dL_law_574 dL_law_575 ?_
  refine lw_cC mX5_thing [fw_i (xs (i + 1)).toInt, fw_i (xs (i + 2)).toInt, fw_i (xs (i + 3)).toInt, fw_i (xs (i + 4)).toInt] C0 hI dL_law_576 mv_X5_thing (fw_mem 551 (by decide +kernel) rfl) ⟨by decide, by decide⟩ ⟨rfl, rfl, rfl, rfl⟩ (by simp only [List.mem_cons, List.not_mem_nil, or_false]; rintro v (rfl | rfl | rfl | rfl) <;> first | exact lw_ok _ | exact True.intro) hroom rfl (Nat.le_of_ble_eq_true rfl) hl.1 hP (fun r5 M5 L5 H5 locs5 p5 hI5 => ?_)
  obtain rfl := h1 _ _ _ p5
  refine lv_aload_n C0.1 C0.2.1 dL_law_579 rfl (lv_at hl 2 rfl) ?_
  refine lw_rd C0 hI5.2.2.2.2.2.2 (lv_at hl 0 rfl) (lv_at hl 3 rfl) hLx 1 (by omega) rfl dL_law_580 dL_law_581 dL_law_582 dL_law_583 dL_law_584 ?_
  refine lw_rd C0 hI5.2.2.2.2.2.2 (lv_at hl 0 rfl) (lv_at hl 3 rfl) hLx 2 (by omega) rfl dL_law_585 dL_law_586 dL_law_587 dL_law_588 dL_law_589 ?_
  refine lw_rd C0 hI5.2.2.2.2.2.2 (lv_at hl 0 rfl) (lv_at hl 3 rfl) hLx 3 (by omega) rfl dL_law_590 dL_law_591 dL_law_592 dL_law_593 dL_law_594 ?_
  refine lw_rd C0 hI5.2.2.2.2.2.2 (lv_at hl 0 rfl) (lv_at hl 3 rfl) hLx 4 (by omega) rfl dL_law_595 dL_law_596 dL_law_597 dL_law_598 dL_law_599 ?_
  refine lw_cM mX6_thing [fw_i (xs (i + 1)).toInt, fw_i (xs (i + 2)).toInt, fw_i (xs (i + 3)).toInt, fw_i (xs (i + 4)).toInt] C0 hI5 dL_law_600 mv_X6_thing (fw_mem 1030 (by decide +kernel) rfl) ⟨by decide, by decide⟩ ⟨rfl, rfl, rfl, rfl⟩ (by simp only [List.mem_cons, List.not_mem_nil, or_false]; rintro v (rfl | rfl | rfl | rfl) <;> first | exact lw_ok _ | exact True.intro) hroom rfl (Nat.le_of_ble_eq_true rfl) hl.1 hU (fun r6 M6 L6 H6 locs6 p6 hI6 => ?_)
  obtain rfl := h2 _ _ _ p6
  refine lv_icmp_eq (tgt := 1270) C0.1 C0.2.1 dL_law_603 (by decide) (fun _ => ?_) (fun h => absurd rfl h)
  exact kk _ _ _ _ _ _ hI6 (h3 _ _ _ _ _ _ p5 p6)

set_option maxRecDepth 20000 in
theorem lc_10 {p : Program} {l : Launch} {e : Env} {s : State} {m : MethodId} {below : List Frame} {meth : Method} {c : Code} {b Lx : Nat} {xs : Nat → Int32} (C0 : lw_At p s m meth c b Lx xs) {D : va_G} {cA : Nat → ClassId} {H : Heap} {locs : List Loc} {M N : fw_F} {L K : fw_G} (hI : lw_I D cA s H locs M L N K) (hR : Rel M L N K) {la : Array Slot} {i : Nat} (hl : lv_has la 4 [(0, .ref b), (1, .ref s.heap.size), (2, .ref (s.heap.size + 203)), (3, .int (nI i))]) (hLx : Lx ≤ 3072) (hi : i + 6 ≤ Lx) {cells slots : Nat} (hroom : cells ≤ 600000 ∧ slots ≤ 7302249) {Z : State → Prop} (kk : ∀ (H2 : Heap) (locs2 : List Loc) (M2 : fw_F) (L2 : fw_G) (N2 : fw_F) (K2 : fw_G), lw_I D cA s H2 locs2 M2 L2 N2 K2 → Rel M2 L2 N2 K2 → W p l e room_1 s m #[Value.ref b] below meth c H2 locs2 cells slots Z (F0 m 1270 la [])) : W p l e room_1 s m #[Value.ref b] below meth c H locs cells slots Z (F0 m 608 la []) := by
  obtain ⟨v, P, U, hP, hU, h1, h2, h3⟩ := jn_bytes ((xs (i + 1)).toInt) ((xs (i + 2)).toInt) ((xs (i + 3)).toInt) ((xs (i + 4)).toInt) M N L K hR
  refine lv_aload_n C0.1 C0.2.1 dL_law_608 rfl (lv_at hl 1 rfl) ?_
  refine lw_rd C0 hI.2.2.2.2.2.2 (lv_at hl 0 rfl) (lv_at hl 3 rfl) hLx 1 (by omega) rfl dL_law_609 dL_law_610 dL_law_611 dL_law_612 dL_law_613 ?_
  refine lw_rd C0 hI.2.2.2.2.2.2 (lv_at hl 0 rfl) (lv_at hl 3 rfl) hLx 2 (by omega) rfl dL_law_614 dL_law_615 dL_law_616 dL_law_617 dL_law_618 ?_
  refine lw_rd C0 hI.2.2.2.2.2.2 (lv_at hl 0 rfl) (lv_at hl 3 rfl) hLx 3 (by omega) rfl dL_law_619 dL_law_620 dL_law_621 dL_law_622 dL_law_623 ?_
  refine lw_rd C0 hI.2.2.2.2.2.2 (lv_at hl 0 rfl) (lv_at hl 3 rfl) hLx 4 (by omega) rfl dL_law_624 dL_law_625 dL_law_626 dL_law_627 dL_law_628 ?_
  refine lw_cC mX5_bytes [fw_i (xs (i + 1)).toInt, fw_i (xs (i + 2)).toInt, fw_i (xs (i + 3)).toInt, fw_i (xs (i + 4)).toInt] C0 hI dL_law_629 mv_X5_bytes (fw_mem 559 (by decide +kernel) rfl) ⟨by decide, by decide⟩ ⟨rfl, rfl, rfl, rfl⟩ (by simp only [List.mem_cons, List.not_mem_nil, or_false]; rintro v (rfl | rfl | rfl | rfl) <;> first | exact lw_ok _ | exact True.intro) hroom rfl (Nat.le_of_ble_eq_true rfl) hl.1 hP (fun r5 M5 L5 H5 locs5 p5 hI5 => ?_)
  obtain rfl := h1 _ _ _ p5
  refine lv_aload_n C0.1 C0.2.1 dL_law_632 rfl (lv_at hl 2 rfl) ?_
  refine lw_rd C0 hI5.2.2.2.2.2.2 (lv_at hl 0 rfl) (lv_at hl 3 rfl) hLx 1 (by omega) rfl dL_law_633 dL_law_634 dL_law_635 dL_law_636 dL_law_637 ?_
  refine lw_rd C0 hI5.2.2.2.2.2.2 (lv_at hl 0 rfl) (lv_at hl 3 rfl) hLx 2 (by omega) rfl dL_law_638 dL_law_639 dL_law_640 dL_law_641 dL_law_642 ?_
  refine lw_rd C0 hI5.2.2.2.2.2.2 (lv_at hl 0 rfl) (lv_at hl 3 rfl) hLx 3 (by omega) rfl dL_law_643 dL_law_644 dL_law_645 dL_law_646 dL_law_647 ?_
  refine lw_rd C0 hI5.2.2.2.2.2.2 (lv_at hl 0 rfl) (lv_at hl 3 rfl) hLx 4 (by omega) rfl dL_law_648 dL_law_649 dL_law_650 dL_law_651 dL_law_652 ?_
  refine lw_cM mX6_bytes [fw_i (xs (i + 1)).toInt, fw_i (xs (i + 2)).toInt, fw_i (xs (i + 3)).toInt, fw_i (xs (i + 4)).toInt] C0 hI5 dL_law_653 mv_X6_bytes (fw_mem 1042 (by decide +kernel) rfl) ⟨by decide, by decide⟩ ⟨rfl, rfl, rfl, rfl⟩ (by simp only [List.mem_cons, List.not_mem_nil, or_false]; rintro v (rfl | rfl | rfl | rfl) <;> first | exact lw_ok _ | exact True.intro) hroom rfl (Nat.le_of_ble_eq_true rfl) hl.1 hU (fun r6 M6 L6 H6 locs6 p6 hI6 => ?_)
  obtain rfl := h2 _ _ _ p6
  refine lv_icmp_eq (tgt := 1270) C0.1 C0.2.1 dL_law_656 (by decide) (fun _ => ?_) (fun h => absurd rfl h)
  exact kk _ _ _ _ _ _ hI6 (h3 _ _ _ _ _ _ p5 p6)

set_option maxRecDepth 20000 in
theorem lc_11 {p : Program} {l : Launch} {e : Env} {s : State} {m : MethodId} {below : List Frame} {meth : Method} {c : Code} {b Lx : Nat} {xs : Nat → Int32} (C0 : lw_At p s m meth c b Lx xs) {D : va_G} {cA : Nat → ClassId} {H : Heap} {locs : List Loc} {M N : fw_F} {L K : fw_G} (hI : lw_I D cA s H locs M L N K) (hR : Rel M L N K) {la : Array Slot} {i : Nat} (hl : lv_has la 4 [(0, .ref b), (1, .ref s.heap.size), (2, .ref (s.heap.size + 203)), (3, .int (nI i))]) (hLx : Lx ≤ 3072) (hi : i + 6 ≤ Lx) {cells slots : Nat} (hroom : cells ≤ 600000 ∧ slots ≤ 7302249) {Z : State → Prop} (kk : ∀ (H2 : Heap) (locs2 : List Loc) (M2 : fw_F) (L2 : fw_G) (N2 : fw_F) (K2 : fw_G), lw_I D cA s H2 locs2 M2 L2 N2 K2 → Rel M2 L2 N2 K2 → W p l e room_1 s m #[Value.ref b] below meth c H2 locs2 cells slots Z (F0 m 1270 la [])) : W p l e room_1 s m #[Value.ref b] below meth c H locs cells slots Z (F0 m 661 la []) := by
  obtain ⟨v, P, U, hP, hU, h1, h2, h3⟩ := jn_bulk ((xs (i + 1)).toInt) ((xs (i + 2)).toInt) ((xs (i + 3)).toInt) M N L K hR
  refine lv_aload_n C0.1 C0.2.1 dL_law_661 rfl (lv_at hl 1 rfl) ?_
  refine lw_rd C0 hI.2.2.2.2.2.2 (lv_at hl 0 rfl) (lv_at hl 3 rfl) hLx 1 (by omega) rfl dL_law_662 dL_law_663 dL_law_664 dL_law_665 dL_law_666 ?_
  refine lw_rd C0 hI.2.2.2.2.2.2 (lv_at hl 0 rfl) (lv_at hl 3 rfl) hLx 2 (by omega) rfl dL_law_667 dL_law_668 dL_law_669 dL_law_670 dL_law_671 ?_
  refine lw_rd C0 hI.2.2.2.2.2.2 (lv_at hl 0 rfl) (lv_at hl 3 rfl) hLx 3 (by omega) rfl dL_law_672 dL_law_673 dL_law_674 dL_law_675 dL_law_676 ?_
  refine lw_cC mX5_bulk [fw_i (xs (i + 1)).toInt, fw_i (xs (i + 2)).toInt, fw_i (xs (i + 3)).toInt] C0 hI dL_law_677 mv_X5_bulk (fw_mem 565 (by decide +kernel) rfl) ⟨by decide, by decide⟩ ⟨rfl, rfl, rfl, rfl⟩ (by simp only [List.mem_cons, List.not_mem_nil, or_false]; rintro v (rfl | rfl | rfl) <;> first | exact lw_ok _ | exact True.intro) hroom rfl (Nat.le_of_ble_eq_true rfl) hl.1 hP (fun r5 M5 L5 H5 locs5 p5 hI5 => ?_)
  obtain rfl := h1 _ _ _ p5
  refine lv_aload_n C0.1 C0.2.1 dL_law_680 rfl (lv_at hl 2 rfl) ?_
  refine lw_rd C0 hI5.2.2.2.2.2.2 (lv_at hl 0 rfl) (lv_at hl 3 rfl) hLx 1 (by omega) rfl dL_law_681 dL_law_682 dL_law_683 dL_law_684 dL_law_685 ?_
  refine lw_rd C0 hI5.2.2.2.2.2.2 (lv_at hl 0 rfl) (lv_at hl 3 rfl) hLx 2 (by omega) rfl dL_law_686 dL_law_687 dL_law_688 dL_law_689 dL_law_690 ?_
  refine lw_rd C0 hI5.2.2.2.2.2.2 (lv_at hl 0 rfl) (lv_at hl 3 rfl) hLx 3 (by omega) rfl dL_law_691 dL_law_692 dL_law_693 dL_law_694 dL_law_695 ?_
  refine lw_cM mX6_bulk [fw_i (xs (i + 1)).toInt, fw_i (xs (i + 2)).toInt, fw_i (xs (i + 3)).toInt] C0 hI5 dL_law_696 mv_X6_bulk (fw_mem 1050 (by decide +kernel) rfl) ⟨by decide, by decide⟩ ⟨rfl, rfl, rfl, rfl⟩ (by simp only [List.mem_cons, List.not_mem_nil, or_false]; rintro v (rfl | rfl | rfl) <;> first | exact lw_ok _ | exact True.intro) hroom rfl (Nat.le_of_ble_eq_true rfl) hl.1 hU (fun r6 M6 L6 H6 locs6 p6 hI6 => ?_)
  obtain rfl := h2 _ _ _ p6
  refine lv_icmp_eq (tgt := 1270) C0.1 C0.2.1 dL_law_699 (by decide) (fun _ => ?_) (fun h => absurd rfl h)
  exact kk _ _ _ _ _ _ hI6 (h3 _ _ _ _ _ _ p5 p6)

set_option maxRecDepth 20000 in
theorem lc_12 {p : Program} {l : Launch} {e : Env} {s : State} {m : MethodId} {below : List Frame} {meth : Method} {c : Code} {b Lx : Nat} {xs : Nat → Int32} (C0 : lw_At p s m meth c b Lx xs) {D : va_G} {cA : Nat → ClassId} {H : Heap} {locs : List Loc} {M N : fw_F} {L K : fw_G} (hI : lw_I D cA s H locs M L N K) (hR : Rel M L N K) {la : Array Slot} {i : Nat} (hl : lv_has la 4 [(0, .ref b), (1, .ref s.heap.size), (2, .ref (s.heap.size + 203)), (3, .int (nI i))]) (hLx : Lx ≤ 3072) (hi : i + 6 ≤ Lx) {cells slots : Nat} (hroom : cells ≤ 600000 ∧ slots ≤ 7302249) {Z : State → Prop} (kk : ∀ (H2 : Heap) (locs2 : List Loc) (M2 : fw_F) (L2 : fw_G) (N2 : fw_F) (K2 : fw_G), lw_I D cA s H2 locs2 M2 L2 N2 K2 → Rel M2 L2 N2 K2 → W p l e room_1 s m #[Value.ref b] below meth c H2 locs2 cells slots Z (F0 m 1270 la [])) : W p l e room_1 s m #[Value.ref b] below meth c H locs cells slots Z (F0 m 704 la []) := by
  obtain ⟨v, P, U, hP, hU, h1, h2, h3⟩ := jn_things ((xs (i + 1)).toInt) ((xs (i + 2)).toInt) M N L K hR
  refine lv_aload_n C0.1 C0.2.1 dL_law_704 rfl (lv_at hl 1 rfl) ?_
  refine lw_rd C0 hI.2.2.2.2.2.2 (lv_at hl 0 rfl) (lv_at hl 3 rfl) hLx 1 (by omega) rfl dL_law_705 dL_law_706 dL_law_707 dL_law_708 dL_law_709 ?_
  refine lw_rd C0 hI.2.2.2.2.2.2 (lv_at hl 0 rfl) (lv_at hl 3 rfl) hLx 2 (by omega) rfl dL_law_710 dL_law_711 dL_law_712 dL_law_713 dL_law_714 ?_
  refine lw_cC mX5_things [fw_i (xs (i + 1)).toInt, fw_i (xs (i + 2)).toInt] C0 hI dL_law_715 mv_X5_things (fw_mem 606 (by decide +kernel) rfl) ⟨by decide, by decide⟩ ⟨rfl, rfl, rfl, rfl⟩ (by simp only [List.mem_cons, List.not_mem_nil, or_false]; rintro v (rfl | rfl) <;> first | exact lw_ok _ | exact True.intro) hroom rfl (Nat.le_of_ble_eq_true rfl) hl.1 hP (fun r5 M5 L5 H5 locs5 p5 hI5 => ?_)
  obtain rfl := h1 _ _ _ p5
  refine lv_aload_n C0.1 C0.2.1 dL_law_718 rfl (lv_at hl 2 rfl) ?_
  refine lw_rd C0 hI5.2.2.2.2.2.2 (lv_at hl 0 rfl) (lv_at hl 3 rfl) hLx 1 (by omega) rfl dL_law_719 dL_law_720 dL_law_721 dL_law_722 dL_law_723 ?_
  refine lw_rd C0 hI5.2.2.2.2.2.2 (lv_at hl 0 rfl) (lv_at hl 3 rfl) hLx 2 (by omega) rfl dL_law_724 dL_law_725 dL_law_726 dL_law_727 dL_law_728 ?_
  refine lw_cM mX6_things [fw_i (xs (i + 1)).toInt, fw_i (xs (i + 2)).toInt] C0 hI5 dL_law_729 mv_X6_things (fw_mem 1067 (by decide +kernel) rfl) ⟨by decide, by decide⟩ ⟨rfl, rfl, rfl, rfl⟩ (by simp only [List.mem_cons, List.not_mem_nil, or_false]; rintro v (rfl | rfl) <;> first | exact lw_ok _ | exact True.intro) hroom rfl (Nat.le_of_ble_eq_true rfl) hl.1 hU (fun r6 M6 L6 H6 locs6 p6 hI6 => ?_)
  obtain rfl := h2 _ _ _ p6
  refine lv_icmp_eq (tgt := 1270) C0.1 C0.2.1 dL_law_732 (by decide) (fun _ => ?_) (fun h => absurd rfl h)
  exact kk _ _ _ _ _ _ hI6 (h3 _ _ _ _ _ _ p5 p6)

set_option maxRecDepth 20000 in
theorem lc_13 {p : Program} {l : Launch} {e : Env} {s : State} {m : MethodId} {below : List Frame} {meth : Method} {c : Code} {b Lx : Nat} {xs : Nat → Int32} (C0 : lw_At p s m meth c b Lx xs) {D : va_G} {cA : Nat → ClassId} {H : Heap} {locs : List Loc} {M N : fw_F} {L K : fw_G} (hI : lw_I D cA s H locs M L N K) (hR : Rel M L N K) {la : Array Slot} {i : Nat} (hl : lv_has la 4 [(0, .ref b), (1, .ref s.heap.size), (2, .ref (s.heap.size + 203)), (3, .int (nI i))]) (hLx : Lx ≤ 3072) (hi : i + 6 ≤ Lx) {cells slots : Nat} (hroom : cells ≤ 600000 ∧ slots ≤ 7302249) {Z : State → Prop} (kk : ∀ (H2 : Heap) (locs2 : List Loc) (M2 : fw_F) (L2 : fw_G) (N2 : fw_F) (K2 : fw_G), lw_I D cA s H2 locs2 M2 L2 N2 K2 → Rel M2 L2 N2 K2 → W p l e room_1 s m #[Value.ref b] below meth c H2 locs2 cells slots Z (F0 m 1270 la [])) : W p l e room_1 s m #[Value.ref b] below meth c H locs cells slots Z (F0 m 737 la []) := by
  obtain ⟨v, P, U, hP, hU, h1, h2, h3⟩ := jn_find ((xs (i + 1)).toInt) ((xs (i + 2)).toInt) ((xs (i + 3)).toInt) M N L K hR
  refine lv_aload_n C0.1 C0.2.1 dL_law_737 rfl (lv_at hl 1 rfl) ?_
  refine lw_rd C0 hI.2.2.2.2.2.2 (lv_at hl 0 rfl) (lv_at hl 3 rfl) hLx 1 (by omega) rfl dL_law_738 dL_law_739 dL_law_740 dL_law_741 dL_law_742 ?_
  refine lw_rd C0 hI.2.2.2.2.2.2 (lv_at hl 0 rfl) (lv_at hl 3 rfl) hLx 2 (by omega) rfl dL_law_743 dL_law_744 dL_law_745 dL_law_746 dL_law_747 ?_
  refine lw_rd C0 hI.2.2.2.2.2.2 (lv_at hl 0 rfl) (lv_at hl 3 rfl) hLx 3 (by omega) rfl dL_law_748 dL_law_749 dL_law_750 dL_law_751 dL_law_752 ?_
  refine lw_cC mX5_find [fw_i (xs (i + 1)).toInt, fw_i (xs (i + 2)).toInt, fw_i (xs (i + 3)).toInt] C0 hI dL_law_753 mv_X5_find (fw_mem 610 (by decide +kernel) rfl) ⟨by decide, by decide⟩ ⟨rfl, rfl, rfl, rfl⟩ (by simp only [List.mem_cons, List.not_mem_nil, or_false]; rintro v (rfl | rfl | rfl) <;> first | exact lw_ok _ | exact True.intro) hroom rfl (Nat.le_of_ble_eq_true rfl) hl.1 hP (fun r5 M5 L5 H5 locs5 p5 hI5 => ?_)
  obtain rfl := h1 _ _ _ p5
  refine lv_aload_n C0.1 C0.2.1 dL_law_756 rfl (lv_at hl 2 rfl) ?_
  refine lw_rd C0 hI5.2.2.2.2.2.2 (lv_at hl 0 rfl) (lv_at hl 3 rfl) hLx 1 (by omega) rfl dL_law_757 dL_law_758 dL_law_759 dL_law_760 dL_law_761 ?_
  refine lw_rd C0 hI5.2.2.2.2.2.2 (lv_at hl 0 rfl) (lv_at hl 3 rfl) hLx 2 (by omega) rfl dL_law_762 dL_law_763 dL_law_764 dL_law_765 dL_law_766 ?_
  refine lw_rd C0 hI5.2.2.2.2.2.2 (lv_at hl 0 rfl) (lv_at hl 3 rfl) hLx 3 (by omega) rfl dL_law_767 dL_law_768 dL_law_769 dL_law_770 dL_law_771 ?_
  refine lw_cM mX6_find [fw_i (xs (i + 1)).toInt, fw_i (xs (i + 2)).toInt, fw_i (xs (i + 3)).toInt] C0 hI5 dL_law_772 mv_X6_find (fw_mem 1071 (by decide +kernel) rfl) ⟨by decide, by decide⟩ ⟨rfl, rfl, rfl, rfl⟩ (by simp only [List.mem_cons, List.not_mem_nil, or_false]; rintro v (rfl | rfl | rfl) <;> first | exact lw_ok _ | exact True.intro) hroom rfl (Nat.le_of_ble_eq_true rfl) hl.1 hU (fun r6 M6 L6 H6 locs6 p6 hI6 => ?_)
  obtain rfl := h2 _ _ _ p6
  refine lv_icmp_eq (tgt := 1270) C0.1 C0.2.1 dL_law_775 (by decide) (fun _ => ?_) (fun h => absurd rfl h)
  exact kk _ _ _ _ _ _ hI6 (h3 _ _ _ _ _ _ p5 p6)

set_option maxRecDepth 20000 in
theorem lc_14 {p : Program} {l : Launch} {e : Env} {s : State} {m : MethodId} {below : List Frame} {meth : Method} {c : Code} {b Lx : Nat} {xs : Nat → Int32} (C0 : lw_At p s m meth c b Lx xs) {D : va_G} {cA : Nat → ClassId} {H : Heap} {locs : List Loc} {M N : fw_F} {L K : fw_G} (hI : lw_I D cA s H locs M L N K) (hR : Rel M L N K) {la : Array Slot} {i : Nat} (hl : lv_has la 4 [(0, .ref b), (1, .ref s.heap.size), (2, .ref (s.heap.size + 203)), (3, .int (nI i))]) (hLx : Lx ≤ 3072) (hi : i + 6 ≤ Lx) {cells slots : Nat} (hroom : cells ≤ 600000 ∧ slots ≤ 7302249) {Z : State → Prop} (kk : ∀ (H2 : Heap) (locs2 : List Loc) (M2 : fw_F) (L2 : fw_G) (N2 : fw_F) (K2 : fw_G), lw_I D cA s H2 locs2 M2 L2 N2 K2 → Rel M2 L2 N2 K2 → W p l e room_1 s m #[Value.ref b] below meth c H2 locs2 cells slots Z (F0 m 1270 la [])) : W p l e room_1 s m #[Value.ref b] below meth c H locs cells slots Z (F0 m 780 la []) := by
  obtain ⟨v, P, U, hP, hU, h1, h2, h3⟩ := jn_sum ((xs (i + 1)).toInt) ((xs (i + 2)).toInt) M N L K hR
  refine lv_aload_n C0.1 C0.2.1 dL_law_780 rfl (lv_at hl 1 rfl) ?_
  refine lw_rd C0 hI.2.2.2.2.2.2 (lv_at hl 0 rfl) (lv_at hl 3 rfl) hLx 1 (by omega) rfl dL_law_781 dL_law_782 dL_law_783 dL_law_784 dL_law_785 ?_
  refine lw_rd C0 hI.2.2.2.2.2.2 (lv_at hl 0 rfl) (lv_at hl 3 rfl) hLx 2 (by omega) rfl dL_law_786 dL_law_787 dL_law_788 dL_law_789 dL_law_790 ?_
  refine lw_cC mX5_sum [fw_i (xs (i + 1)).toInt, fw_i (xs (i + 2)).toInt] C0 hI dL_law_791 mv_X5_sum (fw_mem 615 (by decide +kernel) rfl) ⟨by decide, by decide⟩ ⟨rfl, rfl, rfl, rfl⟩ (by simp only [List.mem_cons, List.not_mem_nil, or_false]; rintro v (rfl | rfl) <;> first | exact lw_ok _ | exact True.intro) hroom rfl (Nat.le_of_ble_eq_true rfl) hl.1 hP (fun r5 M5 L5 H5 locs5 p5 hI5 => ?_)
  obtain rfl := h1 _ _ _ p5
  refine lv_aload_n C0.1 C0.2.1 dL_law_794 rfl (lv_at hl 2 rfl) ?_
  refine lw_rd C0 hI5.2.2.2.2.2.2 (lv_at hl 0 rfl) (lv_at hl 3 rfl) hLx 1 (by omega) rfl dL_law_795 dL_law_796 dL_law_797 dL_law_798 dL_law_799 ?_
  refine lw_rd C0 hI5.2.2.2.2.2.2 (lv_at hl 0 rfl) (lv_at hl 3 rfl) hLx 2 (by omega) rfl dL_law_800 dL_law_801 dL_law_802 dL_law_803 dL_law_804 ?_
  refine lw_cM mX6_sum [fw_i (xs (i + 1)).toInt, fw_i (xs (i + 2)).toInt] C0 hI5 dL_law_805 mv_X6_sum (fw_mem 1075 (by decide +kernel) rfl) ⟨by decide, by decide⟩ ⟨rfl, rfl, rfl, rfl⟩ (by simp only [List.mem_cons, List.not_mem_nil, or_false]; rintro v (rfl | rfl) <;> first | exact lw_ok _ | exact True.intro) hroom rfl (Nat.le_of_ble_eq_true rfl) hl.1 hU (fun r6 M6 L6 H6 locs6 p6 hI6 => ?_)
  obtain rfl := h2 _ _ _ p6
  refine lv_icmp_eq (tgt := 1270) C0.1 C0.2.1 dL_law_808 (by decide) (fun _ => ?_) (fun h => absurd rfl h)
  exact kk _ _ _ _ _ _ hI6 (h3 _ _ _ _ _ _ p5 p6)

set_option maxRecDepth 20000 in
theorem lc_15 {p : Program} {l : Launch} {e : Env} {s : State} {m : MethodId} {below : List Frame} {meth : Method} {c : Code} {b Lx : Nat} {xs : Nat → Int32} (C0 : lw_At p s m meth c b Lx xs) {D : va_G} {cA : Nat → ClassId} {H : Heap} {locs : List Loc} {M N : fw_F} {L K : fw_G} (hI : lw_I D cA s H locs M L N K) (hR : Rel M L N K) {la : Array Slot} {i : Nat} (hl : lv_has la 4 [(0, .ref b), (1, .ref s.heap.size), (2, .ref (s.heap.size + 203)), (3, .int (nI i))]) (hLx : Lx ≤ 3072) (hi : i + 6 ≤ Lx) {cells slots : Nat} (hroom : cells ≤ 600000 ∧ slots ≤ 7302249) {Z : State → Prop} (kk : ∀ (H2 : Heap) (locs2 : List Loc) (M2 : fw_F) (L2 : fw_G) (N2 : fw_F) (K2 : fw_G), lw_I D cA s H2 locs2 M2 L2 N2 K2 → Rel M2 L2 N2 K2 → W p l e room_1 s m #[Value.ref b] below meth c H2 locs2 cells slots Z (F0 m 1270 la [])) : W p l e room_1 s m #[Value.ref b] below meth c H locs cells slots Z (F0 m 813 la []) := by
  obtain ⟨v, P, U, hP, hU, h1, h2, h3⟩ := jn_differ ((xs (i + 1)).toInt) ((xs (i + 2)).toInt) M N L K hR
  refine lv_aload_n C0.1 C0.2.1 dL_law_813 rfl (lv_at hl 1 rfl) ?_
  refine lw_rd C0 hI.2.2.2.2.2.2 (lv_at hl 0 rfl) (lv_at hl 3 rfl) hLx 1 (by omega) rfl dL_law_814 dL_law_815 dL_law_816 dL_law_817 dL_law_818 ?_
  refine lw_rd C0 hI.2.2.2.2.2.2 (lv_at hl 0 rfl) (lv_at hl 3 rfl) hLx 2 (by omega) rfl dL_law_819 dL_law_820 dL_law_821 dL_law_822 dL_law_823 ?_
  refine lw_cC mX5_differ [fw_i (xs (i + 1)).toInt, fw_i (xs (i + 2)).toInt] C0 hI dL_law_824 mv_X5_differ (fw_mem 625 (by decide +kernel) rfl) ⟨by decide, by decide⟩ ⟨rfl, rfl, rfl, rfl⟩ (by simp only [List.mem_cons, List.not_mem_nil, or_false]; rintro v (rfl | rfl) <;> first | exact lw_ok _ | exact True.intro) hroom rfl (Nat.le_of_ble_eq_true rfl) hl.1 hP (fun r5 M5 L5 H5 locs5 p5 hI5 => ?_)
  obtain rfl := h1 _ _ _ p5
  refine lv_aload_n C0.1 C0.2.1 dL_law_827 rfl (lv_at hl 2 rfl) ?_
  refine lw_rd C0 hI5.2.2.2.2.2.2 (lv_at hl 0 rfl) (lv_at hl 3 rfl) hLx 1 (by omega) rfl dL_law_828 dL_law_829 dL_law_830 dL_law_831 dL_law_832 ?_
  refine lw_rd C0 hI5.2.2.2.2.2.2 (lv_at hl 0 rfl) (lv_at hl 3 rfl) hLx 2 (by omega) rfl dL_law_833 dL_law_834 dL_law_835 dL_law_836 dL_law_837 ?_
  refine lw_cM mX6_differ [fw_i (xs (i + 1)).toInt, fw_i (xs (i + 2)).toInt] C0 hI5 dL_law_838 mv_X6_differ (fw_mem 1082 (by decide +kernel) rfl) ⟨by decide, by decide⟩ ⟨rfl, rfl, rfl, rfl⟩ (by simp only [List.mem_cons, List.not_mem_nil, or_false]; rintro v (rfl | rfl) <;> first | exact lw_ok _ | exact True.intro) hroom rfl (Nat.le_of_ble_eq_true rfl) hl.1 hU (fun r6 M6 L6 H6 locs6 p6 hI6 => ?_)
  obtain rfl := h2 _ _ _ p6
  refine lv_icmp_eq (tgt := 1270) C0.1 C0.2.1 dL_law_841 (by decide) (fun _ => ?_) (fun h => absurd rfl h)
  exact kk _ _ _ _ _ _ hI6 (h3 _ _ _ _ _ _ p5 p6)

set_option maxRecDepth 20000 in
theorem lc_16 {p : Program} {l : Launch} {e : Env} {s : State} {m : MethodId} {below : List Frame} {meth : Method} {c : Code} {b Lx : Nat} {xs : Nat → Int32} (C0 : lw_At p s m meth c b Lx xs) {D : va_G} {cA : Nat → ClassId} {H : Heap} {locs : List Loc} {M N : fw_F} {L K : fw_G} (hI : lw_I D cA s H locs M L N K) (hR : Rel M L N K) {la : Array Slot} {i : Nat} (hl : lv_has la 4 [(0, .ref b), (1, .ref s.heap.size), (2, .ref (s.heap.size + 203)), (3, .int (nI i))]) (hLx : Lx ≤ 3072) (hi : i + 6 ≤ Lx) {cells slots : Nat} (hroom : cells ≤ 600000 ∧ slots ≤ 7302249) {Z : State → Prop} (kk : ∀ (H2 : Heap) (locs2 : List Loc) (M2 : fw_F) (L2 : fw_G) (N2 : fw_F) (K2 : fw_G), lw_I D cA s H2 locs2 M2 L2 N2 K2 → Rel M2 L2 N2 K2 → W p l e room_1 s m #[Value.ref b] below meth c H2 locs2 cells slots Z (F0 m 1270 la [])) : W p l e room_1 s m #[Value.ref b] below meth c H locs cells slots Z (F0 m 846 la []) := by
  obtain ⟨v, P, U, hP, hU, h1, h2, h3⟩ := jn_apart ((xs (i + 1)).toInt) ((xs (i + 2)).toInt) M N L K hR
  refine lv_aload_n C0.1 C0.2.1 dL_law_846 rfl (lv_at hl 1 rfl) ?_
  refine lw_rd C0 hI.2.2.2.2.2.2 (lv_at hl 0 rfl) (lv_at hl 3 rfl) hLx 1 (by omega) rfl dL_law_847 dL_law_848 dL_law_849 dL_law_850 dL_law_851 ?_
  refine lw_rd C0 hI.2.2.2.2.2.2 (lv_at hl 0 rfl) (lv_at hl 3 rfl) hLx 2 (by omega) rfl dL_law_852 dL_law_853 dL_law_854 dL_law_855 dL_law_856 ?_
  refine lw_cC mX5_apart [fw_i (xs (i + 1)).toInt, fw_i (xs (i + 2)).toInt] C0 hI dL_law_857 mv_X5_apart (fw_mem 633 (by decide +kernel) rfl) ⟨by decide, by decide⟩ ⟨rfl, rfl, rfl, rfl⟩ (by simp only [List.mem_cons, List.not_mem_nil, or_false]; rintro v (rfl | rfl) <;> first | exact lw_ok _ | exact True.intro) hroom rfl (Nat.le_of_ble_eq_true rfl) hl.1 hP (fun r5 M5 L5 H5 locs5 p5 hI5 => ?_)
  obtain rfl := h1 _ _ _ p5
  refine lv_aload_n C0.1 C0.2.1 dL_law_860 rfl (lv_at hl 2 rfl) ?_
  refine lw_rd C0 hI5.2.2.2.2.2.2 (lv_at hl 0 rfl) (lv_at hl 3 rfl) hLx 1 (by omega) rfl dL_law_861 dL_law_862 dL_law_863 dL_law_864 dL_law_865 ?_
  refine lw_rd C0 hI5.2.2.2.2.2.2 (lv_at hl 0 rfl) (lv_at hl 3 rfl) hLx 2 (by omega) rfl dL_law_866 dL_law_867 dL_law_868 dL_law_869 dL_law_870 ?_
  refine lw_cM mX6_apart [fw_i (xs (i + 1)).toInt, fw_i (xs (i + 2)).toInt] C0 hI5 dL_law_871 mv_X6_apart (fw_mem 1086 (by decide +kernel) rfl) ⟨by decide, by decide⟩ ⟨rfl, rfl, rfl, rfl⟩ (by simp only [List.mem_cons, List.not_mem_nil, or_false]; rintro v (rfl | rfl) <;> first | exact lw_ok _ | exact True.intro) hroom rfl (Nat.le_of_ble_eq_true rfl) hl.1 hU (fun r6 M6 L6 H6 locs6 p6 hI6 => ?_)
  obtain rfl := h2 _ _ _ p6
  refine lv_icmp_eq (tgt := 1270) C0.1 C0.2.1 dL_law_874 (by decide) (fun _ => ?_) (fun h => absurd rfl h)
  exact kk _ _ _ _ _ _ hI6 (h3 _ _ _ _ _ _ p5 p6)

set_option maxRecDepth 20000 in
theorem lc_17 {p : Program} {l : Launch} {e : Env} {s : State} {m : MethodId} {below : List Frame} {meth : Method} {c : Code} {b Lx : Nat} {xs : Nat → Int32} (C0 : lw_At p s m meth c b Lx xs) {D : va_G} {cA : Nat → ClassId} {H : Heap} {locs : List Loc} {M N : fw_F} {L K : fw_G} (hI : lw_I D cA s H locs M L N K) (hR : Rel M L N K) {la : Array Slot} {i : Nat} (hl : lv_has la 4 [(0, .ref b), (1, .ref s.heap.size), (2, .ref (s.heap.size + 203)), (3, .int (nI i))]) (hLx : Lx ≤ 3072) (hi : i + 6 ≤ Lx) {cells slots : Nat} (hroom : cells ≤ 600000 ∧ slots ≤ 7302249) {Z : State → Prop} (kk : ∀ (H2 : Heap) (locs2 : List Loc) (M2 : fw_F) (L2 : fw_G) (N2 : fw_F) (K2 : fw_G), lw_I D cA s H2 locs2 M2 L2 N2 K2 → Rel M2 L2 N2 K2 → W p l e room_1 s m #[Value.ref b] below meth c H2 locs2 cells slots Z (F0 m 1270 la [])) : W p l e room_1 s m #[Value.ref b] below meth c H locs cells slots Z (F0 m 879 la []) := by
  obtain ⟨v, P, U, hP, hU, h1, h2, h3⟩ := jn_let ((xs (i + 1)).toInt) M N L K hR
  refine lv_aload_n C0.1 C0.2.1 dL_law_879 rfl (lv_at hl 1 rfl) ?_
  refine lw_rd C0 hI.2.2.2.2.2.2 (lv_at hl 0 rfl) (lv_at hl 3 rfl) hLx 1 (by omega) rfl dL_law_880 dL_law_881 dL_law_882 dL_law_883 dL_law_884 ?_
  refine lw_cC mX5_let [fw_i (xs (i + 1)).toInt] C0 hI dL_law_885 mv_X5_let (fw_mem 641 (by decide +kernel) rfl) ⟨by decide, by decide⟩ ⟨rfl, rfl, rfl, rfl⟩ (by simp only [List.mem_cons, List.not_mem_nil, or_false]; rintro v rfl <;> first | exact lw_ok _ | exact True.intro) hroom rfl (Nat.le_of_ble_eq_true rfl) hl.1 hP (fun r5 M5 L5 H5 locs5 p5 hI5 => ?_)
  obtain rfl := h1 _ _ _ p5
  refine lv_aload_n C0.1 C0.2.1 dL_law_888 rfl (lv_at hl 2 rfl) ?_
  refine lw_rd C0 hI5.2.2.2.2.2.2 (lv_at hl 0 rfl) (lv_at hl 3 rfl) hLx 1 (by omega) rfl dL_law_889 dL_law_890 dL_law_891 dL_law_892 dL_law_893 ?_
  refine lw_cM mX6_let [fw_i (xs (i + 1)).toInt] C0 hI5 dL_law_894 mv_X6_let (fw_mem 1090 (by decide +kernel) rfl) ⟨by decide, by decide⟩ ⟨rfl, rfl, rfl, rfl⟩ (by simp only [List.mem_cons, List.not_mem_nil, or_false]; rintro v rfl <;> first | exact lw_ok _ | exact True.intro) hroom rfl (Nat.le_of_ble_eq_true rfl) hl.1 hU (fun r6 M6 L6 H6 locs6 p6 hI6 => ?_)
  obtain rfl := h2 _ _ _ p6
  refine lv_icmp_eq (tgt := 1270) C0.1 C0.2.1 dL_law_897 (by decide) (fun _ => ?_) (fun h => absurd rfl h)
  exact kk _ _ _ _ _ _ hI6 (h3 _ _ _ _ _ _ p5 p6)

set_option maxRecDepth 20000 in
theorem lc_18 {p : Program} {l : Launch} {e : Env} {s : State} {m : MethodId} {below : List Frame} {meth : Method} {c : Code} {b Lx : Nat} {xs : Nat → Int32} (C0 : lw_At p s m meth c b Lx xs) {D : va_G} {cA : Nat → ClassId} {H : Heap} {locs : List Loc} {M N : fw_F} {L K : fw_G} (hI : lw_I D cA s H locs M L N K) (hR : Rel M L N K) {la : Array Slot} {i : Nat} (hl : lv_has la 4 [(0, .ref b), (1, .ref s.heap.size), (2, .ref (s.heap.size + 203)), (3, .int (nI i))]) (hLx : Lx ≤ 3072) (hi : i + 6 ≤ Lx) {cells slots : Nat} (hroom : cells ≤ 600000 ∧ slots ≤ 7302249) {Z : State → Prop} (kk : ∀ (H2 : Heap) (locs2 : List Loc) (M2 : fw_F) (L2 : fw_G) (N2 : fw_F) (K2 : fw_G), lw_I D cA s H2 locs2 M2 L2 N2 K2 → Rel M2 L2 N2 K2 → W p l e room_1 s m #[Value.ref b] below meth c H2 locs2 cells slots Z (F0 m 1270 la [])) : W p l e room_1 s m #[Value.ref b] below meth c H locs cells slots Z (F0 m 902 la []) := by
  obtain ⟨v, P, U, hP, hU, h1, h2, h3⟩ := jn_taken ((xs (i + 1)).toInt) M N L K hR
  refine lv_aload_n C0.1 C0.2.1 dL_law_902 rfl (lv_at hl 1 rfl) ?_
  refine lw_rd C0 hI.2.2.2.2.2.2 (lv_at hl 0 rfl) (lv_at hl 3 rfl) hLx 1 (by omega) rfl dL_law_903 dL_law_904 dL_law_905 dL_law_906 dL_law_907 ?_
  refine lw_cC mX5_taken [fw_i (xs (i + 1)).toInt] C0 hI dL_law_908 mv_X5_taken (fw_mem 645 (by decide +kernel) rfl) ⟨by decide, by decide⟩ ⟨rfl, rfl, rfl, rfl⟩ (by simp only [List.mem_cons, List.not_mem_nil, or_false]; rintro v rfl <;> first | exact lw_ok _ | exact True.intro) hroom rfl (Nat.le_of_ble_eq_true rfl) hl.1 hP (fun r5 M5 L5 H5 locs5 p5 hI5 => ?_)
  obtain rfl := h1 _ _ _ p5
  refine lv_aload_n C0.1 C0.2.1 dL_law_911 rfl (lv_at hl 2 rfl) ?_
  refine lw_rd C0 hI5.2.2.2.2.2.2 (lv_at hl 0 rfl) (lv_at hl 3 rfl) hLx 1 (by omega) rfl dL_law_912 dL_law_913 dL_law_914 dL_law_915 dL_law_916 ?_
  refine lw_cM mX6_taken [fw_i (xs (i + 1)).toInt] C0 hI5 dL_law_917 mv_X6_taken (fw_mem 1094 (by decide +kernel) rfl) ⟨by decide, by decide⟩ ⟨rfl, rfl, rfl, rfl⟩ (by simp only [List.mem_cons, List.not_mem_nil, or_false]; rintro v rfl <;> first | exact lw_ok _ | exact True.intro) hroom rfl (Nat.le_of_ble_eq_true rfl) hl.1 hU (fun r6 M6 L6 H6 locs6 p6 hI6 => ?_)
  obtain rfl := h2 _ _ _ p6
  refine lv_icmp_eq (tgt := 1270) C0.1 C0.2.1 dL_law_920 (by decide) (fun _ => ?_) (fun h => absurd rfl h)
  exact kk _ _ _ _ _ _ hI6 (h3 _ _ _ _ _ _ p5 p6)

set_option maxRecDepth 20000 in
theorem lc_19 {p : Program} {l : Launch} {e : Env} {s : State} {m : MethodId} {below : List Frame} {meth : Method} {c : Code} {b Lx : Nat} {xs : Nat → Int32} (C0 : lw_At p s m meth c b Lx xs) {D : va_G} {cA : Nat → ClassId} {H : Heap} {locs : List Loc} {M N : fw_F} {L K : fw_G} (hI : lw_I D cA s H locs M L N K) (hR : Rel M L N K) {la : Array Slot} {i : Nat} (hl : lv_has la 4 [(0, .ref b), (1, .ref s.heap.size), (2, .ref (s.heap.size + 203)), (3, .int (nI i))]) (hLx : Lx ≤ 3072) (hi : i + 6 ≤ Lx) {cells slots : Nat} (hroom : cells ≤ 600000 ∧ slots ≤ 7302249) {Z : State → Prop} (kk : ∀ (H2 : Heap) (locs2 : List Loc) (M2 : fw_F) (L2 : fw_G) (N2 : fw_F) (K2 : fw_G), lw_I D cA s H2 locs2 M2 L2 N2 K2 → Rel M2 L2 N2 K2 → W p l e room_1 s m #[Value.ref b] below meth c H2 locs2 cells slots Z (F0 m 1270 la [])) : W p l e room_1 s m #[Value.ref b] below meth c H locs cells slots Z (F0 m 925 la []) := by
  obtain ⟨v, P, U, hP, hU, h1, h2, h3⟩ := jn_room ((xs (i + 1)).toInt) ((xs (i + 2)).toInt) M N L K hR
  refine lv_aload_n C0.1 C0.2.1 dL_law_925 rfl (lv_at hl 1 rfl) ?_
  refine lw_rd C0 hI.2.2.2.2.2.2 (lv_at hl 0 rfl) (lv_at hl 3 rfl) hLx 1 (by omega) rfl dL_law_926 dL_law_927 dL_law_928 dL_law_929 dL_law_930 ?_
  refine lw_rd C0 hI.2.2.2.2.2.2 (lv_at hl 0 rfl) (lv_at hl 3 rfl) hLx 2 (by omega) rfl dL_law_931 dL_law_932 dL_law_933 dL_law_934 dL_law_935 ?_
  refine lw_cC mX5_room [fw_i (xs (i + 1)).toInt, fw_i (xs (i + 2)).toInt] C0 hI dL_law_936 mv_X5_room (fw_mem 650 (by decide +kernel) rfl) ⟨by decide, by decide⟩ ⟨rfl, rfl, rfl, rfl⟩ (by simp only [List.mem_cons, List.not_mem_nil, or_false]; rintro v (rfl | rfl) <;> first | exact lw_ok _ | exact True.intro) hroom rfl (Nat.le_of_ble_eq_true rfl) hl.1 hP (fun r5 M5 L5 H5 locs5 p5 hI5 => ?_)
  obtain rfl := h1 _ _ _ p5
  refine lv_aload_n C0.1 C0.2.1 dL_law_939 rfl (lv_at hl 2 rfl) ?_
  refine lw_rd C0 hI5.2.2.2.2.2.2 (lv_at hl 0 rfl) (lv_at hl 3 rfl) hLx 1 (by omega) rfl dL_law_940 dL_law_941 dL_law_942 dL_law_943 dL_law_944 ?_
  refine lw_rd C0 hI5.2.2.2.2.2.2 (lv_at hl 0 rfl) (lv_at hl 3 rfl) hLx 2 (by omega) rfl dL_law_945 dL_law_946 dL_law_947 dL_law_948 dL_law_949 ?_
  refine lw_cM mX6_room [fw_i (xs (i + 1)).toInt, fw_i (xs (i + 2)).toInt] C0 hI5 dL_law_950 mv_X6_room (fw_mem 1102 (by decide +kernel) rfl) ⟨by decide, by decide⟩ ⟨rfl, rfl, rfl, rfl⟩ (by simp only [List.mem_cons, List.not_mem_nil, or_false]; rintro v (rfl | rfl) <;> first | exact lw_ok _ | exact True.intro) hroom rfl (Nat.le_of_ble_eq_true rfl) hl.1 hU (fun r6 M6 L6 H6 locs6 p6 hI6 => ?_)
  obtain rfl := h2 _ _ _ p6
  refine lv_icmp_eq (tgt := 1270) C0.1 C0.2.1 dL_law_953 (by decide) (fun _ => ?_) (fun h => absurd rfl h)
  exact kk _ _ _ _ _ _ hI6 (h3 _ _ _ _ _ _ p5 p6)

set_option maxRecDepth 20000 in
theorem lc_20 {p : Program} {l : Launch} {e : Env} {s : State} {m : MethodId} {below : List Frame} {meth : Method} {c : Code} {b Lx : Nat} {xs : Nat → Int32} (C0 : lw_At p s m meth c b Lx xs) {D : va_G} {cA : Nat → ClassId} {H : Heap} {locs : List Loc} {M N : fw_F} {L K : fw_G} (hI : lw_I D cA s H locs M L N K) (hR : Rel M L N K) {la : Array Slot} {i : Nat} (hl : lv_has la 4 [(0, .ref b), (1, .ref s.heap.size), (2, .ref (s.heap.size + 203)), (3, .int (nI i))]) (hLx : Lx ≤ 3072) (hi : i + 6 ≤ Lx) {cells slots : Nat} (hroom : cells ≤ 600000 ∧ slots ≤ 7302249) {Z : State → Prop} (kk : ∀ (H2 : Heap) (locs2 : List Loc) (M2 : fw_F) (L2 : fw_G) (N2 : fw_F) (K2 : fw_G), lw_I D cA s H2 locs2 M2 L2 N2 K2 → Rel M2 L2 N2 K2 → W p l e room_1 s m #[Value.ref b] below meth c H2 locs2 cells slots Z (F0 m 1270 la [])) : W p l e room_1 s m #[Value.ref b] below meth c H locs cells slots Z (F0 m 958 la []) := by
  obtain ⟨v, P, U, hP, hU, h1, h2, h3⟩ := jn_pieces ((xs (i + 1)).toInt) ((xs (i + 2)).toInt) ((xs (i + 3)).toInt) M N L K hR
  refine lv_aload_n C0.1 C0.2.1 dL_law_958 rfl (lv_at hl 1 rfl) ?_
  refine lw_rd C0 hI.2.2.2.2.2.2 (lv_at hl 0 rfl) (lv_at hl 3 rfl) hLx 1 (by omega) rfl dL_law_959 dL_law_960 dL_law_961 dL_law_962 dL_law_963 ?_
  refine lw_rd C0 hI.2.2.2.2.2.2 (lv_at hl 0 rfl) (lv_at hl 3 rfl) hLx 2 (by omega) rfl dL_law_964 dL_law_965 dL_law_966 dL_law_967 dL_law_968 ?_
  refine lw_rd C0 hI.2.2.2.2.2.2 (lv_at hl 0 rfl) (lv_at hl 3 rfl) hLx 3 (by omega) rfl dL_law_969 dL_law_970 dL_law_971 dL_law_972 dL_law_973 ?_
  refine lw_cC mX5_pieces [fw_i (xs (i + 1)).toInt, fw_i (xs (i + 2)).toInt, fw_i (xs (i + 3)).toInt] C0 hI dL_law_974 mv_X5_pieces (fw_mem 654 (by decide +kernel) rfl) ⟨by decide, by decide⟩ ⟨rfl, rfl, rfl, rfl⟩ (by simp only [List.mem_cons, List.not_mem_nil, or_false]; rintro v (rfl | rfl | rfl) <;> first | exact lw_ok _ | exact True.intro) hroom rfl (Nat.le_of_ble_eq_true rfl) hl.1 hP (fun r5 M5 L5 H5 locs5 p5 hI5 => ?_)
  obtain rfl := h1 _ _ _ p5
  refine lv_aload_n C0.1 C0.2.1 dL_law_977 rfl (lv_at hl 2 rfl) ?_
  refine lw_rd C0 hI5.2.2.2.2.2.2 (lv_at hl 0 rfl) (lv_at hl 3 rfl) hLx 1 (by omega) rfl dL_law_978 dL_law_979 dL_law_980 dL_law_981 dL_law_982 ?_
  refine lw_rd C0 hI5.2.2.2.2.2.2 (lv_at hl 0 rfl) (lv_at hl 3 rfl) hLx 2 (by omega) rfl dL_law_983 dL_law_984 dL_law_985 dL_law_986 dL_law_987 ?_
  refine lw_rd C0 hI5.2.2.2.2.2.2 (lv_at hl 0 rfl) (lv_at hl 3 rfl) hLx 3 (by omega) rfl dL_law_988 dL_law_989 dL_law_990 dL_law_991 dL_law_992 ?_
  refine lw_cM mX6_pieces [fw_i (xs (i + 1)).toInt, fw_i (xs (i + 2)).toInt, fw_i (xs (i + 3)).toInt] C0 hI5 dL_law_993 mv_X6_pieces (fw_mem 1106 (by decide +kernel) rfl) ⟨by decide, by decide⟩ ⟨rfl, rfl, rfl, rfl⟩ (by simp only [List.mem_cons, List.not_mem_nil, or_false]; rintro v (rfl | rfl | rfl) <;> first | exact lw_ok _ | exact True.intro) hroom rfl (Nat.le_of_ble_eq_true rfl) hl.1 hU (fun r6 M6 L6 H6 locs6 p6 hI6 => ?_)
  obtain rfl := h2 _ _ _ p6
  refine lv_icmp_eq (tgt := 1270) C0.1 C0.2.1 dL_law_996 (by decide) (fun _ => ?_) (fun h => absurd rfl h)
  exact kk _ _ _ _ _ _ hI6 (h3 _ _ _ _ _ _ p5 p6)

set_option maxRecDepth 20000 in
theorem lc_21 {p : Program} {l : Launch} {e : Env} {s : State} {m : MethodId} {below : List Frame} {meth : Method} {c : Code} {b Lx : Nat} {xs : Nat → Int32} (C0 : lw_At p s m meth c b Lx xs) {D : va_G} {cA : Nat → ClassId} {H : Heap} {locs : List Loc} {M N : fw_F} {L K : fw_G} (hI : lw_I D cA s H locs M L N K) (hR : Rel M L N K) {la : Array Slot} {i : Nat} (hl : lv_has la 4 [(0, .ref b), (1, .ref s.heap.size), (2, .ref (s.heap.size + 203)), (3, .int (nI i))]) (hLx : Lx ≤ 3072) (hi : i + 6 ≤ Lx) {cells slots : Nat} (hroom : cells ≤ 600000 ∧ slots ≤ 7302249) {Z : State → Prop} (kk : ∀ (H2 : Heap) (locs2 : List Loc) (M2 : fw_F) (L2 : fw_G) (N2 : fw_F) (K2 : fw_G), lw_I D cA s H2 locs2 M2 L2 N2 K2 → Rel M2 L2 N2 K2 → W p l e room_1 s m #[Value.ref b] below meth c H2 locs2 cells slots Z (F0 m 1270 la [])) : W p l e room_1 s m #[Value.ref b] below meth c H locs cells slots Z (F0 m 1001 la []) := by
  obtain ⟨v, P, U, hP, hU, h1, h2, h3⟩ := jn_fetch ((xs (i + 1)).toInt) ((xs (i + 2)).toInt) M N L K hR
  refine lv_aload_n C0.1 C0.2.1 dL_law_1001 rfl (lv_at hl 1 rfl) ?_
  refine lw_rd C0 hI.2.2.2.2.2.2 (lv_at hl 0 rfl) (lv_at hl 3 rfl) hLx 1 (by omega) rfl dL_law_1002 dL_law_1003 dL_law_1004 dL_law_1005 dL_law_1006 ?_
  refine lw_rd C0 hI.2.2.2.2.2.2 (lv_at hl 0 rfl) (lv_at hl 3 rfl) hLx 2 (by omega) rfl dL_law_1007 dL_law_1008 dL_law_1009 dL_law_1010 dL_law_1011 ?_
  refine lw_cC mX5_fetch [fw_i (xs (i + 1)).toInt, fw_i (xs (i + 2)).toInt] C0 hI dL_law_1012 mv_X5_fetch (fw_mem 674 (by decide +kernel) rfl) ⟨by decide, by decide⟩ ⟨rfl, rfl, rfl, rfl⟩ (by simp only [List.mem_cons, List.not_mem_nil, or_false]; rintro v (rfl | rfl) <;> first | exact lw_ok _ | exact True.intro) hroom rfl (Nat.le_of_ble_eq_true rfl) hl.1 hP (fun r5 M5 L5 H5 locs5 p5 hI5 => ?_)
  obtain rfl := h1 _ _ _ p5
  refine lv_aload_n C0.1 C0.2.1 dL_law_1015 rfl (lv_at hl 2 rfl) ?_
  refine lw_rd C0 hI5.2.2.2.2.2.2 (lv_at hl 0 rfl) (lv_at hl 3 rfl) hLx 1 (by omega) rfl dL_law_1016 dL_law_1017 dL_law_1018 dL_law_1019 dL_law_1020 ?_
  refine lw_rd C0 hI5.2.2.2.2.2.2 (lv_at hl 0 rfl) (lv_at hl 3 rfl) hLx 2 (by omega) rfl dL_law_1021 dL_law_1022 dL_law_1023 dL_law_1024 dL_law_1025 ?_
  refine lw_cM mX6_fetch [fw_i (xs (i + 1)).toInt, fw_i (xs (i + 2)).toInt] C0 hI5 dL_law_1026 mv_X6_fetch (fw_mem 1114 (by decide +kernel) rfl) ⟨by decide, by decide⟩ ⟨rfl, rfl, rfl, rfl⟩ (by simp only [List.mem_cons, List.not_mem_nil, or_false]; rintro v (rfl | rfl) <;> first | exact lw_ok _ | exact True.intro) hroom rfl (Nat.le_of_ble_eq_true rfl) hl.1 hU (fun r6 M6 L6 H6 locs6 p6 hI6 => ?_)
  obtain rfl := h2 _ _ _ p6
  refine lv_icmp_eq (tgt := 1270) C0.1 C0.2.1 dL_law_1029 (by decide) (fun _ => ?_) (fun h => absurd rfl h)
  exact kk _ _ _ _ _ _ hI6 (h3 _ _ _ _ _ _ p5 p6)

set_option maxRecDepth 20000 in
theorem lc_22 {p : Program} {l : Launch} {e : Env} {s : State} {m : MethodId} {below : List Frame} {meth : Method} {c : Code} {b Lx : Nat} {xs : Nat → Int32} (C0 : lw_At p s m meth c b Lx xs) {D : va_G} {cA : Nat → ClassId} {H : Heap} {locs : List Loc} {M N : fw_F} {L K : fw_G} (hI : lw_I D cA s H locs M L N K) (hR : Rel M L N K) {la : Array Slot} {i : Nat} (hl : lv_has la 4 [(0, .ref b), (1, .ref s.heap.size), (2, .ref (s.heap.size + 203)), (3, .int (nI i))]) (hLx : Lx ≤ 3072) (hi : i + 6 ≤ Lx) {cells slots : Nat} (hroom : cells ≤ 600000 ∧ slots ≤ 7302249) {Z : State → Prop} (kk : ∀ (H2 : Heap) (locs2 : List Loc) (M2 : fw_F) (L2 : fw_G) (N2 : fw_F) (K2 : fw_G), lw_I D cA s H2 locs2 M2 L2 N2 K2 → Rel M2 L2 N2 K2 → W p l e room_1 s m #[Value.ref b] below meth c H2 locs2 cells slots Z (F0 m 1270 la [])) : W p l e room_1 s m #[Value.ref b] below meth c H locs cells slots Z (F0 m 1034 la []) := by
  obtain ⟨v, P, U, hP, hU, h1, h2, h3⟩ := jn_away ((xs (i + 1)).toInt) ((xs (i + 2)).toInt) M N L K hR
  refine lv_aload_n C0.1 C0.2.1 dL_law_1034 rfl (lv_at hl 1 rfl) ?_
  refine lw_rd C0 hI.2.2.2.2.2.2 (lv_at hl 0 rfl) (lv_at hl 3 rfl) hLx 1 (by omega) rfl dL_law_1035 dL_law_1036 dL_law_1037 dL_law_1038 dL_law_1039 ?_
  refine lw_rd C0 hI.2.2.2.2.2.2 (lv_at hl 0 rfl) (lv_at hl 3 rfl) hLx 2 (by omega) rfl dL_law_1040 dL_law_1041 dL_law_1042 dL_law_1043 dL_law_1044 ?_
  refine lw_cC mX5_away [fw_i (xs (i + 1)).toInt, fw_i (xs (i + 2)).toInt] C0 hI dL_law_1045 mv_X5_away (fw_mem 683 (by decide +kernel) rfl) ⟨by decide, by decide⟩ ⟨rfl, rfl, rfl, rfl⟩ (by simp only [List.mem_cons, List.not_mem_nil, or_false]; rintro v (rfl | rfl) <;> first | exact lw_ok _ | exact True.intro) hroom rfl (Nat.le_of_ble_eq_true rfl) hl.1 hP (fun r5 M5 L5 H5 locs5 p5 hI5 => ?_)
  obtain rfl := h1 _ _ _ p5
  refine lv_aload_n C0.1 C0.2.1 dL_law_1048 rfl (lv_at hl 2 rfl) ?_
  refine lw_rd C0 hI5.2.2.2.2.2.2 (lv_at hl 0 rfl) (lv_at hl 3 rfl) hLx 1 (by omega) rfl dL_law_1049 dL_law_1050 dL_law_1051 dL_law_1052 dL_law_1053 ?_
  refine lw_rd C0 hI5.2.2.2.2.2.2 (lv_at hl 0 rfl) (lv_at hl 3 rfl) hLx 2 (by omega) rfl dL_law_1054 dL_law_1055 dL_law_1056 dL_law_1057 dL_law_1058 ?_
  refine lw_cM mX6_away [fw_i (xs (i + 1)).toInt, fw_i (xs (i + 2)).toInt] C0 hI5 dL_law_1059 mv_X6_away (fw_mem 1122 (by decide +kernel) rfl) ⟨by decide, by decide⟩ ⟨rfl, rfl, rfl, rfl⟩ (by simp only [List.mem_cons, List.not_mem_nil, or_false]; rintro v (rfl | rfl) <;> first | exact lw_ok _ | exact True.intro) hroom rfl (Nat.le_of_ble_eq_true rfl) hl.1 hU (fun r6 M6 L6 H6 locs6 p6 hI6 => ?_)
  obtain rfl := h2 _ _ _ p6
  refine lv_icmp_eq (tgt := 1270) C0.1 C0.2.1 dL_law_1062 (by decide) (fun _ => ?_) (fun h => absurd rfl h)
  exact kk _ _ _ _ _ _ hI6 (h3 _ _ _ _ _ _ p5 p6)

set_option maxRecDepth 20000 in
theorem lc_23 {p : Program} {l : Launch} {e : Env} {s : State} {m : MethodId} {below : List Frame} {meth : Method} {c : Code} {b Lx : Nat} {xs : Nat → Int32} (C0 : lw_At p s m meth c b Lx xs) {D : va_G} {cA : Nat → ClassId} {H : Heap} {locs : List Loc} {M N : fw_F} {L K : fw_G} (hI : lw_I D cA s H locs M L N K) (hR : Rel M L N K) {la : Array Slot} {i : Nat} (hl : lv_has la 4 [(0, .ref b), (1, .ref s.heap.size), (2, .ref (s.heap.size + 203)), (3, .int (nI i))]) (hLx : Lx ≤ 3072) (hi : i + 6 ≤ Lx) {cells slots : Nat} (hroom : cells ≤ 600000 ∧ slots ≤ 7302249) {Z : State → Prop} (kk : ∀ (H2 : Heap) (locs2 : List Loc) (M2 : fw_F) (L2 : fw_G) (N2 : fw_F) (K2 : fw_G), lw_I D cA s H2 locs2 M2 L2 N2 K2 → Rel M2 L2 N2 K2 → W p l e room_1 s m #[Value.ref b] below meth c H2 locs2 cells slots Z (F0 m 1270 la [])) : W p l e room_1 s m #[Value.ref b] below meth c H locs cells slots Z (F0 m 1067 la []) := by
  obtain ⟨v, P, U, hP, hU, h1, h2, h3⟩ := jn_night  M N L K hR
  refine lv_aload_n C0.1 C0.2.1 dL_law_1067 rfl (lv_at hl 1 rfl) ?_
  refine lw_cC mX5_night [] C0 hI dL_law_1068 mv_X5_night (fw_mem 695 (by decide +kernel) rfl) ⟨by decide, by decide⟩ ⟨rfl, rfl, rfl, rfl⟩ (fun _ h => absurd h List.not_mem_nil) hroom rfl (Nat.le_of_ble_eq_true rfl) hl.1 hP (fun r5 M5 L5 H5 locs5 p5 hI5 => ?_)
  obtain rfl := h1 _ _ _ p5
  refine lv_aload_n C0.1 C0.2.1 dL_law_1071 rfl (lv_at hl 2 rfl) ?_
  refine lw_cM mX6_night [] C0 hI5 dL_law_1072 mv_X6_night (fw_mem 1126 (by decide +kernel) rfl) ⟨by decide, by decide⟩ ⟨rfl, rfl, rfl, rfl⟩ (fun _ h => absurd h List.not_mem_nil) hroom rfl (Nat.le_of_ble_eq_true rfl) hl.1 hU (fun r6 M6 L6 H6 locs6 p6 hI6 => ?_)
  obtain rfl := h2 _ _ _ p6
  refine lv_icmp_eq (tgt := 1270) C0.1 C0.2.1 dL_law_1075 (by decide) (fun _ => ?_) (fun h => absurd rfl h)
  exact kk _ _ _ _ _ _ hI6 (h3 _ _ _ _ _ _ p5 p6)

set_option maxRecDepth 20000 in
theorem lc_24 {p : Program} {l : Launch} {e : Env} {s : State} {m : MethodId} {below : List Frame} {meth : Method} {c : Code} {b Lx : Nat} {xs : Nat → Int32} (C0 : lw_At p s m meth c b Lx xs) {D : va_G} {cA : Nat → ClassId} {H : Heap} {locs : List Loc} {M N : fw_F} {L K : fw_G} (hI : lw_I D cA s H locs M L N K) (hR : Rel M L N K) {la : Array Slot} {i : Nat} (hl : lv_has la 4 [(0, .ref b), (1, .ref s.heap.size), (2, .ref (s.heap.size + 203)), (3, .int (nI i))]) (hLx : Lx ≤ 3072) (hi : i + 6 ≤ Lx) {cells slots : Nat} (hroom : cells ≤ 600000 ∧ slots ≤ 7302249) {Z : State → Prop} (kk : ∀ (H2 : Heap) (locs2 : List Loc) (M2 : fw_F) (L2 : fw_G) (N2 : fw_F) (K2 : fw_G), lw_I D cA s H2 locs2 M2 L2 N2 K2 → Rel M2 L2 N2 K2 → W p l e room_1 s m #[Value.ref b] below meth c H2 locs2 cells slots Z (F0 m 1270 la [])) : W p l e room_1 s m #[Value.ref b] below meth c H locs cells slots Z (F0 m 1080 la []) := by
  obtain ⟨v, P, U, hP, hU, h1, h2, h3⟩ := jn_share ((xs (i + 1)).toInt) ((xs (i + 2)).toInt) M N L K hR
  refine lv_aload_n C0.1 C0.2.1 dL_law_1080 rfl (lv_at hl 1 rfl) ?_
  refine lw_rd C0 hI.2.2.2.2.2.2 (lv_at hl 0 rfl) (lv_at hl 3 rfl) hLx 1 (by omega) rfl dL_law_1081 dL_law_1082 dL_law_1083 dL_law_1084 dL_law_1085 ?_
  refine lw_rd C0 hI.2.2.2.2.2.2 (lv_at hl 0 rfl) (lv_at hl 3 rfl) hLx 2 (by omega) rfl dL_law_1086 dL_law_1087 dL_law_1088 dL_law_1089 dL_law_1090 ?_
  refine lw_cC mX5_share [fw_i (xs (i + 1)).toInt, fw_i (xs (i + 2)).toInt] C0 hI dL_law_1091 mv_X5_share (fw_mem 706 (by decide +kernel) rfl) ⟨by decide, by decide⟩ ⟨rfl, rfl, rfl, rfl⟩ (by simp only [List.mem_cons, List.not_mem_nil, or_false]; rintro v (rfl | rfl) <;> first | exact lw_ok _ | exact True.intro) hroom rfl (Nat.le_of_ble_eq_true rfl) hl.1 hP (fun r5 M5 L5 H5 locs5 p5 hI5 => ?_)
  obtain rfl := h1 _ _ _ p5
  refine lv_aload_n C0.1 C0.2.1 dL_law_1094 rfl (lv_at hl 2 rfl) ?_
  refine lw_rd C0 hI5.2.2.2.2.2.2 (lv_at hl 0 rfl) (lv_at hl 3 rfl) hLx 1 (by omega) rfl dL_law_1095 dL_law_1096 dL_law_1097 dL_law_1098 dL_law_1099 ?_
  refine lw_rd C0 hI5.2.2.2.2.2.2 (lv_at hl 0 rfl) (lv_at hl 3 rfl) hLx 2 (by omega) rfl dL_law_1100 dL_law_1101 dL_law_1102 dL_law_1103 dL_law_1104 ?_
  refine lw_cM mX6_share [fw_i (xs (i + 1)).toInt, fw_i (xs (i + 2)).toInt] C0 hI5 dL_law_1105 mv_X6_share (fw_mem 1130 (by decide +kernel) rfl) ⟨by decide, by decide⟩ ⟨rfl, rfl, rfl, rfl⟩ (by simp only [List.mem_cons, List.not_mem_nil, or_false]; rintro v (rfl | rfl) <;> first | exact lw_ok _ | exact True.intro) hroom rfl (Nat.le_of_ble_eq_true rfl) hl.1 hU (fun r6 M6 L6 H6 locs6 p6 hI6 => ?_)
  obtain rfl := h2 _ _ _ p6
  refine lv_icmp_eq (tgt := 1270) C0.1 C0.2.1 dL_law_1108 (by decide) (fun _ => ?_) (fun h => absurd rfl h)
  exact kk _ _ _ _ _ _ hI6 (h3 _ _ _ _ _ _ p5 p6)

set_option maxRecDepth 20000 in
theorem lc_25 {p : Program} {l : Launch} {e : Env} {s : State} {m : MethodId} {below : List Frame} {meth : Method} {c : Code} {b Lx : Nat} {xs : Nat → Int32} (C0 : lw_At p s m meth c b Lx xs) {D : va_G} {cA : Nat → ClassId} {H : Heap} {locs : List Loc} {M N : fw_F} {L K : fw_G} (hI : lw_I D cA s H locs M L N K) (hR : Rel M L N K) {la : Array Slot} {i : Nat} (hl : lv_has la 4 [(0, .ref b), (1, .ref s.heap.size), (2, .ref (s.heap.size + 203)), (3, .int (nI i))]) (hLx : Lx ≤ 3072) (hi : i + 6 ≤ Lx) {cells slots : Nat} (hroom : cells ≤ 600000 ∧ slots ≤ 7302249) {Z : State → Prop} (kk : ∀ (H2 : Heap) (locs2 : List Loc) (M2 : fw_F) (L2 : fw_G) (N2 : fw_F) (K2 : fw_G), lw_I D cA s H2 locs2 M2 L2 N2 K2 → Rel M2 L2 N2 K2 → W p l e room_1 s m #[Value.ref b] below meth c H2 locs2 cells slots Z (F0 m 1270 la [])) : W p l e room_1 s m #[Value.ref b] below meth c H locs cells slots Z (F0 m 1113 la []) := by
  obtain ⟨v, P, U, hP, hU, h1, h2, h3⟩ := jn_take ((xs (i + 1)).toInt) M N L K hR
  refine lv_aload_n C0.1 C0.2.1 dL_law_1113 rfl (lv_at hl 1 rfl) ?_
  refine lw_rd C0 hI.2.2.2.2.2.2 (lv_at hl 0 rfl) (lv_at hl 3 rfl) hLx 1 (by omega) rfl dL_law_1114 dL_law_1115 dL_law_1116 dL_law_1117 dL_law_1118 ?_
  refine lw_cC mX5_take [fw_i (xs (i + 1)).toInt] C0 hI dL_law_1119 mv_X5_take (fw_mem 717 (by decide +kernel) rfl) ⟨by decide, by decide⟩ ⟨rfl, rfl, rfl, rfl⟩ (by simp only [List.mem_cons, List.not_mem_nil, or_false]; rintro v rfl <;> first | exact lw_ok _ | exact True.intro) hroom rfl (Nat.le_of_ble_eq_true rfl) hl.1 hP (fun r5 M5 L5 H5 locs5 p5 hI5 => ?_)
  obtain rfl := h1 _ _ _ p5
  refine lv_aload_n C0.1 C0.2.1 dL_law_1122 rfl (lv_at hl 2 rfl) ?_
  refine lw_rd C0 hI5.2.2.2.2.2.2 (lv_at hl 0 rfl) (lv_at hl 3 rfl) hLx 1 (by omega) rfl dL_law_1123 dL_law_1124 dL_law_1125 dL_law_1126 dL_law_1127 ?_
  refine lw_cM mX6_take [fw_i (xs (i + 1)).toInt] C0 hI5 dL_law_1128 mv_X6_take (fw_mem 1134 (by decide +kernel) rfl) ⟨by decide, by decide⟩ ⟨rfl, rfl, rfl, rfl⟩ (by simp only [List.mem_cons, List.not_mem_nil, or_false]; rintro v rfl <;> first | exact lw_ok _ | exact True.intro) hroom rfl (Nat.le_of_ble_eq_true rfl) hl.1 hU (fun r6 M6 L6 H6 locs6 p6 hI6 => ?_)
  obtain rfl := h2 _ _ _ p6
  refine lv_icmp_eq (tgt := 1270) C0.1 C0.2.1 dL_law_1131 (by decide) (fun _ => ?_) (fun h => absurd rfl h)
  exact kk _ _ _ _ _ _ hI6 (h3 _ _ _ _ _ _ p5 p6)

set_option maxRecDepth 20000 in
theorem lc_26 {p : Program} {l : Launch} {e : Env} {s : State} {m : MethodId} {below : List Frame} {meth : Method} {c : Code} {b Lx : Nat} {xs : Nat → Int32} (C0 : lw_At p s m meth c b Lx xs) {D : va_G} {cA : Nat → ClassId} {H : Heap} {locs : List Loc} {M N : fw_F} {L K : fw_G} (hI : lw_I D cA s H locs M L N K) (hR : Rel M L N K) {la : Array Slot} {i : Nat} (hl : lv_has la 4 [(0, .ref b), (1, .ref s.heap.size), (2, .ref (s.heap.size + 203)), (3, .int (nI i))]) (hLx : Lx ≤ 3072) (hi : i + 6 ≤ Lx) {cells slots : Nat} (hroom : cells ≤ 600000 ∧ slots ≤ 7302249) {Z : State → Prop} (kk : ∀ (H2 : Heap) (locs2 : List Loc) (M2 : fw_F) (L2 : fw_G) (N2 : fw_F) (K2 : fw_G), lw_I D cA s H2 locs2 M2 L2 N2 K2 → Rel M2 L2 N2 K2 → W p l e room_1 s m #[Value.ref b] below meth c H2 locs2 cells slots Z (F0 m 1270 la [])) : W p l e room_1 s m #[Value.ref b] below meth c H locs cells slots Z (F0 m 1136 la []) := by
  obtain ⟨v, P, U, hP, hU, h1, h2, h3⟩ := jn_could ((xs (i + 1)).toInt) ((xs (i + 2)).toInt) ((xs (i + 3)).toInt) ((xs (i + 4)).toInt) M N L K hR
  refine lv_aload_n C0.1 C0.2.1 dL_law_1136 rfl (lv_at hl 1 rfl) ?_
  refine lw_rd C0 hI.2.2.2.2.2.2 (lv_at hl 0 rfl) (lv_at hl 3 rfl) hLx 1 (by omega) rfl dL_law_1137 dL_law_1138 dL_law_1139 dL_law_1140 dL_law_1141 ?_
  refine lw_rd C0 hI.2.2.2.2.2.2 (lv_at hl 0 rfl) (lv_at hl 3 rfl) hLx 2 (by omega) rfl dL_law_1142 dL_law_1143 dL_law_1144 dL_law_1145 dL_law_1146 ?_
  refine lw_rd C0 hI.2.2.2.2.2.2 (lv_at hl 0 rfl) (lv_at hl 3 rfl) hLx 3 (by omega) rfl dL_law_1147 dL_law_1148 dL_law_1149 dL_law_1150 dL_law_1151 ?_
  refine lw_rd C0 hI.2.2.2.2.2.2 (lv_at hl 0 rfl) (lv_at hl 3 rfl) hLx 4 (by omega) rfl dL_law_1152 dL_law_1153 dL_law_1154 dL_law_1155 dL_law_1156 ?_
  refine lw_cC mX5_could [fw_i (xs (i + 1)).toInt, fw_i (xs (i + 2)).toInt, fw_i (xs (i + 3)).toInt, fw_i (xs (i + 4)).toInt] C0 hI dL_law_1157 mv_X5_could (fw_mem 721 (by decide +kernel) rfl) ⟨by decide, by decide⟩ ⟨rfl, rfl, rfl, rfl⟩ (by simp only [List.mem_cons, List.not_mem_nil, or_false]; rintro v (rfl | rfl | rfl | rfl) <;> first | exact lw_ok _ | exact True.intro) hroom rfl (Nat.le_of_ble_eq_true rfl) hl.1 hP (fun r5 M5 L5 H5 locs5 p5 hI5 => ?_)
  obtain rfl := h1 _ _ _ p5
  refine lv_aload_n C0.1 C0.2.1 dL_law_1160 rfl (lv_at hl 2 rfl) ?_
  refine lw_rd C0 hI5.2.2.2.2.2.2 (lv_at hl 0 rfl) (lv_at hl 3 rfl) hLx 1 (by omega) rfl dL_law_1161 dL_law_1162 dL_law_1163 dL_law_1164 dL_law_1165 ?_
  refine lw_rd C0 hI5.2.2.2.2.2.2 (lv_at hl 0 rfl) (lv_at hl 3 rfl) hLx 2 (by omega) rfl dL_law_1166 dL_law_1167 dL_law_1168 dL_law_1169 dL_law_1170 ?_
  refine lw_rd C0 hI5.2.2.2.2.2.2 (lv_at hl 0 rfl) (lv_at hl 3 rfl) hLx 3 (by omega) rfl dL_law_1171 dL_law_1172 dL_law_1173 dL_law_1174 dL_law_1175 ?_
  refine lw_rd C0 hI5.2.2.2.2.2.2 (lv_at hl 0 rfl) (lv_at hl 3 rfl) hLx 4 (by omega) rfl dL_law_1176 dL_law_1177 dL_law_1178 dL_law_1179 dL_law_1180 ?_
  refine lw_cM mX6_could [fw_i (xs (i + 1)).toInt, fw_i (xs (i + 2)).toInt, fw_i (xs (i + 3)).toInt, fw_i (xs (i + 4)).toInt] C0 hI5 dL_law_1181 mv_X6_could (fw_mem 1138 (by decide +kernel) rfl) ⟨by decide, by decide⟩ ⟨rfl, rfl, rfl, rfl⟩ (by simp only [List.mem_cons, List.not_mem_nil, or_false]; rintro v (rfl | rfl | rfl | rfl) <;> first | exact lw_ok _ | exact True.intro) hroom rfl (Nat.le_of_ble_eq_true rfl) hl.1 hU (fun r6 M6 L6 H6 locs6 p6 hI6 => ?_)
  obtain rfl := h2 _ _ _ p6
  refine lv_icmp_eq (tgt := 1270) C0.1 C0.2.1 dL_law_1184 (by decide) (fun _ => ?_) (fun h => absurd rfl h)
  exact kk _ _ _ _ _ _ hI6 (h3 _ _ _ _ _ _ p5 p6)

set_option maxRecDepth 20000 in
theorem lc_27 {p : Program} {l : Launch} {e : Env} {s : State} {m : MethodId} {below : List Frame} {meth : Method} {c : Code} {b Lx : Nat} {xs : Nat → Int32} (C0 : lw_At p s m meth c b Lx xs) {D : va_G} {cA : Nat → ClassId} {H : Heap} {locs : List Loc} {M N : fw_F} {L K : fw_G} (hI : lw_I D cA s H locs M L N K) (hR : Rel M L N K) {la : Array Slot} {i : Nat} (hl : lv_has la 4 [(0, .ref b), (1, .ref s.heap.size), (2, .ref (s.heap.size + 203)), (3, .int (nI i))]) (hLx : Lx ≤ 3072) (hi : i + 6 ≤ Lx) {cells slots : Nat} (hroom : cells ≤ 600000 ∧ slots ≤ 7302249) {Z : State → Prop} (kk : ∀ (H2 : Heap) (locs2 : List Loc) (M2 : fw_F) (L2 : fw_G) (N2 : fw_F) (K2 : fw_G), lw_I D cA s H2 locs2 M2 L2 N2 K2 → Rel M2 L2 N2 K2 → W p l e room_1 s m #[Value.ref b] below meth c H2 locs2 cells slots Z (F0 m 1270 la [])) : W p l e room_1 s m #[Value.ref b] below meth c H locs cells slots Z (F0 m 1189 la []) := by
  obtain ⟨v, P, U, hP, hU, h1, h2, h3⟩ := jn_odd ((xs (i + 1)).toInt) ((xs (i + 2)).toInt) ((xs (i + 3)).toInt) M N L K hR
  refine lv_aload_n C0.1 C0.2.1 dL_law_1189 rfl (lv_at hl 1 rfl) ?_
  refine lw_rd C0 hI.2.2.2.2.2.2 (lv_at hl 0 rfl) (lv_at hl 3 rfl) hLx 1 (by omega) rfl dL_law_1190 dL_law_1191 dL_law_1192 dL_law_1193 dL_law_1194 ?_
  refine lw_rd C0 hI.2.2.2.2.2.2 (lv_at hl 0 rfl) (lv_at hl 3 rfl) hLx 2 (by omega) rfl dL_law_1195 dL_law_1196 dL_law_1197 dL_law_1198 dL_law_1199 ?_
  refine lw_rd C0 hI.2.2.2.2.2.2 (lv_at hl 0 rfl) (lv_at hl 3 rfl) hLx 3 (by omega) rfl dL_law_1200 dL_law_1201 dL_law_1202 dL_law_1203 dL_law_1204 ?_
  refine lw_cC mX5_odd [fw_i (xs (i + 1)).toInt, fw_i (xs (i + 2)).toInt, fw_i (xs (i + 3)).toInt] C0 hI dL_law_1205 mv_X5_odd (fw_mem 730 (by decide +kernel) rfl) ⟨by decide, by decide⟩ ⟨rfl, rfl, rfl, rfl⟩ (by simp only [List.mem_cons, List.not_mem_nil, or_false]; rintro v (rfl | rfl | rfl) <;> first | exact lw_ok _ | exact True.intro) hroom rfl (Nat.le_of_ble_eq_true rfl) hl.1 hP (fun r5 M5 L5 H5 locs5 p5 hI5 => ?_)
  obtain rfl := h1 _ _ _ p5
  refine lv_aload_n C0.1 C0.2.1 dL_law_1208 rfl (lv_at hl 2 rfl) ?_
  refine lw_rd C0 hI5.2.2.2.2.2.2 (lv_at hl 0 rfl) (lv_at hl 3 rfl) hLx 1 (by omega) rfl dL_law_1209 dL_law_1210 dL_law_1211 dL_law_1212 dL_law_1213 ?_
  refine lw_rd C0 hI5.2.2.2.2.2.2 (lv_at hl 0 rfl) (lv_at hl 3 rfl) hLx 2 (by omega) rfl dL_law_1214 dL_law_1215 dL_law_1216 dL_law_1217 dL_law_1218 ?_
  refine lw_rd C0 hI5.2.2.2.2.2.2 (lv_at hl 0 rfl) (lv_at hl 3 rfl) hLx 3 (by omega) rfl dL_law_1219 dL_law_1220 dL_law_1221 dL_law_1222 dL_law_1223 ?_
  refine lw_cM mX6_odd [fw_i (xs (i + 1)).toInt, fw_i (xs (i + 2)).toInt, fw_i (xs (i + 3)).toInt] C0 hI5 dL_law_1224 mv_X6_odd (fw_mem 1142 (by decide +kernel) rfl) ⟨by decide, by decide⟩ ⟨rfl, rfl, rfl, rfl⟩ (by simp only [List.mem_cons, List.not_mem_nil, or_false]; rintro v (rfl | rfl | rfl) <;> first | exact lw_ok _ | exact True.intro) hroom rfl (Nat.le_of_ble_eq_true rfl) hl.1 hU (fun r6 M6 L6 H6 locs6 p6 hI6 => ?_)
  obtain rfl := h2 _ _ _ p6
  refine W.lcmp C0.1 C0.2.1 dL_law_1227 ?_
  refine lv_if_eq (tgt := 1270) C0.1 C0.2.1 dL_law_1228 (by decide) (fun _ => ?_) (fun h => absurd (by rw [fw_cmp_eq, fw_cmp_0.mpr rfl]; rfl) h)
  exact kk _ _ _ _ _ _ hI6 (h3 _ _ _ _ _ _ p5 p6)

set_option maxRecDepth 20000 in
theorem lc_28 {p : Program} {l : Launch} {e : Env} {s : State} {m : MethodId} {below : List Frame} {meth : Method} {c : Code} {b Lx : Nat} {xs : Nat → Int32} (C0 : lw_At p s m meth c b Lx xs) {D : va_G} {cA : Nat → ClassId} {H : Heap} {locs : List Loc} {M N : fw_F} {L K : fw_G} (hI : lw_I D cA s H locs M L N K) (hR : Rel M L N K) {la : Array Slot} {i : Nat} (hl : lv_has la 4 [(0, .ref b), (1, .ref s.heap.size), (2, .ref (s.heap.size + 203)), (3, .int (nI i))]) (hLx : Lx ≤ 3072) (hi : i + 6 ≤ Lx) {cells slots : Nat} (hroom : cells ≤ 600000 ∧ slots ≤ 7302249) {Z : State → Prop} (kk : ∀ (H2 : Heap) (locs2 : List Loc) (M2 : fw_F) (L2 : fw_G) (N2 : fw_F) (K2 : fw_G), lw_I D cA s H2 locs2 M2 L2 N2 K2 → Rel M2 L2 N2 K2 → W p l e room_1 s m #[Value.ref b] below meth c H2 locs2 cells slots Z (F0 m 1270 la [])) : W p l e room_1 s m #[Value.ref b] below meth c H locs cells slots Z (F0 m 1233 la []) := by
  obtain ⟨v, P, U, hP, hU, h1, h2, h3⟩ := jn_count ((xs (i + 1)).toInt) M N L K hR
  refine lv_aload_n C0.1 C0.2.1 dL_law_1233 rfl (lv_at hl 1 rfl) ?_
  refine lw_rd C0 hI.2.2.2.2.2.2 (lv_at hl 0 rfl) (lv_at hl 3 rfl) hLx 1 (by omega) rfl dL_law_1234 dL_law_1235 dL_law_1236 dL_law_1237 dL_law_1238 ?_
  refine lw_cC mX5_count [fw_i (xs (i + 1)).toInt] C0 hI dL_law_1239 mv_X5_count (fw_mem 749 (by decide +kernel) rfl) ⟨by decide, by decide⟩ ⟨rfl, rfl, rfl, rfl⟩ (by simp only [List.mem_cons, List.not_mem_nil, or_false]; rintro v rfl <;> first | exact lw_ok _ | exact True.intro) hroom rfl (Nat.le_of_ble_eq_true rfl) hl.1 hP (fun r5 M5 L5 H5 locs5 p5 hI5 => ?_)
  obtain rfl := h1 _ _ _ p5
  refine lv_aload_n C0.1 C0.2.1 dL_law_1242 rfl (lv_at hl 2 rfl) ?_
  refine lw_rd C0 hI5.2.2.2.2.2.2 (lv_at hl 0 rfl) (lv_at hl 3 rfl) hLx 1 (by omega) rfl dL_law_1243 dL_law_1244 dL_law_1245 dL_law_1246 dL_law_1247 ?_
  refine lw_cM mX6_count [fw_i (xs (i + 1)).toInt] C0 hI5 dL_law_1248 mv_X6_count (fw_mem 1154 (by decide +kernel) rfl) ⟨by decide, by decide⟩ ⟨rfl, rfl, rfl, rfl⟩ (by simp only [List.mem_cons, List.not_mem_nil, or_false]; rintro v rfl <;> first | exact lw_ok _ | exact True.intro) hroom rfl (Nat.le_of_ble_eq_true rfl) hl.1 hU (fun r6 M6 L6 H6 locs6 p6 hI6 => ?_)
  obtain rfl := h2 _ _ _ p6
  refine lv_icmp_eq (tgt := 1270) C0.1 C0.2.1 dL_law_1251 (by decide) (fun _ => ?_) (fun h => absurd rfl h)
  exact kk _ _ _ _ _ _ hI6 (h3 _ _ _ _ _ _ p5 p6)

set_option maxRecDepth 20000 in
theorem lc_29 {p : Program} {l : Launch} {e : Env} {s : State} {m : MethodId} {below : List Frame} {meth : Method} {c : Code} {b Lx : Nat} {xs : Nat → Int32} (C0 : lw_At p s m meth c b Lx xs) {D : va_G} {cA : Nat → ClassId} {H : Heap} {locs : List Loc} {M N : fw_F} {L K : fw_G} (hI : lw_I D cA s H locs M L N K) (hR : Rel M L N K) {la : Array Slot} {i : Nat} (hl : lv_has la 4 [(0, .ref b), (1, .ref s.heap.size), (2, .ref (s.heap.size + 203)), (3, .int (nI i))]) (hLx : Lx ≤ 3072) (hi : i + 6 ≤ Lx) {cells slots : Nat} (hroom : cells ≤ 600000 ∧ slots ≤ 7302249) {Z : State → Prop} (kk : ∀ (H2 : Heap) (locs2 : List Loc) (M2 : fw_F) (L2 : fw_G) (N2 : fw_F) (K2 : fw_G), lw_I D cA s H2 locs2 M2 L2 N2 K2 → Rel M2 L2 N2 K2 → W p l e room_1 s m #[Value.ref b] below meth c H2 locs2 cells slots Z (F0 m 1270 la [])) : W p l e room_1 s m #[Value.ref b] below meth c H locs cells slots Z (F0 m 1256 la []) := by
  obtain ⟨v, P, U, hP, hU, h1, h2, h3⟩ := jn_trace  M N L K hR
  refine lv_aload_n C0.1 C0.2.1 dL_law_1256 rfl (lv_at hl 1 rfl) ?_
  refine lw_cC mX5_trace [] C0 hI dL_law_1257 mv_X5_trace (fw_mem 761 (by decide +kernel) rfl) ⟨by decide, by decide⟩ ⟨rfl, rfl, rfl, rfl⟩ (fun _ h => absurd h List.not_mem_nil) hroom rfl (Nat.le_of_ble_eq_true rfl) hl.1 hP (fun r5 M5 L5 H5 locs5 p5 hI5 => ?_)
  obtain rfl := h1 _ _ _ p5
  refine lv_aload_n C0.1 C0.2.1 dL_law_1260 rfl (lv_at hl 2 rfl) ?_
  refine lw_cM mX6_trace [] C0 hI5 dL_law_1261 mv_X6_trace (fw_mem 1158 (by decide +kernel) rfl) ⟨by decide, by decide⟩ ⟨rfl, rfl, rfl, rfl⟩ (fun _ h => absurd h List.not_mem_nil) hroom rfl (Nat.le_of_ble_eq_true rfl) hl.1 hU (fun r6 M6 L6 H6 locs6 p6 hI6 => ?_)
  obtain rfl := h2 _ _ _ p6
  refine W.lcmp C0.1 C0.2.1 dL_law_1264 ?_
  refine lv_if_eq (tgt := 1270) C0.1 C0.2.1 dL_law_1265 (by decide) (fun _ => ?_) (fun h => absurd (by rw [fw_cmp_eq, fw_cmp_0.mpr rfl]; rfl) h)
  exact kk _ _ _ _ _ _ hI6 (h3 _ _ _ _ _ _ p5 p6)
