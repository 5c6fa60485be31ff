theorem fw_mem {w : Cond} (i : Nat) (h : lw_tbl[i]? = some w) (g : goodWord w = true) : w ∈ fw_tbl := fw_tbl_of (List.mem_of_getElem? h) g
theorem fw_cls0 : fw_cls 0 RX0 TX0 12 tyX0 := ⟨rfl, by decide +kernel, tyX0_ok, nmX0⟩
theorem fw_cls1 : fw_cls 1 RX1 TX1 8 tyX1 := ⟨rfl, by decide +kernel, tyX1_ok, nmX1⟩
theorem fw_cls2 : fw_cls 2 RX2 TX2 4 tyX2 := ⟨rfl, by decide +kernel, tyX2_ok, nmX2⟩
theorem fw_cls3 : fw_cls 3 RX3 TX3 5 tyX3 := ⟨rfl, by decide +kernel, tyX3_ok, nmX3⟩
theorem fw_cls4 : fw_cls 4 RX4 TX4 10 tyX4 := ⟨rfl, by decide +kernel, tyX4_ok, nmX4⟩
theorem fw_cls5 : fw_cls 5 RX5 TX5 10 tyX5 := ⟨rfl, by decide +kernel, tyX5_ok, nmX5⟩
theorem fw_cls6 : fw_cls 6 RX6 TX6 36 tyX6 := ⟨rfl, by decide +kernel, tyX6_ok, nmX6⟩
theorem ly0_0 : fw_lay 0 0 = (5, 10) := by decide
theorem ly0_1 : fw_lay 0 1 = (1, 8) := by decide
theorem ly0_2 : fw_lay 0 2 = (13, 80) := by decide
theorem ly0_3 : fw_lay 0 3 = (10, 80) := by decide
theorem ly0_4 : fw_lay 0 4 = (10, 4) := by decide
theorem ly0_5 : fw_lay 0 5 = (10, 480) := by decide
theorem ly0_6 : fw_lay 0 6 = (10, 4) := by decide
theorem ly0_7 : fw_lay 0 7 = (10, 4) := by decide
theorem ly0_168 : fw_lay 0 168 = (4, 10) := by decide
theorem ly0_169 : fw_lay 0 169 = (11, 12) := by decide
theorem ly0_170 : fw_lay 0 170 = (11, 12) := by decide
theorem ly0_171 : fw_lay 0 171 = (10, 12) := by decide
theorem ly0_172 : fw_lay 0 172 = (10, 12) := by decide
theorem ly0_173 : fw_lay 0 173 = (10, 12) := by decide
theorem ly0_174 : fw_lay 0 174 = (10, 12) := by decide
theorem ly0_175 : fw_lay 0 175 = (10, 12) := by decide
theorem ly0_176 : fw_lay 0 176 = (10, 12) := by decide
theorem ly0_177 : fw_lay 0 177 = (10, 48) := by decide
theorem ly0_178 : fw_lay 0 178 = (14, 4) := by decide
theorem ly0_179 : fw_lay 0 179 = (2, 4) := by decide
theorem ly0_180 : fw_lay 0 180 = (12, 200) := by decide
theorem ly0_181 : fw_lay 0 181 = (10, 200) := by decide
theorem ly0_182 : fw_lay 0 182 = (2, 4) := by decide
theorem ly0_183 : fw_lay 0 183 = (12, 200) := by decide
theorem ly0_184 : fw_lay 0 184 = (10, 200) := by decide
theorem ly0_185 : fw_lay 0 185 = (2, 4) := by decide
theorem ly0_186 : fw_lay 0 186 = (12, 200) := by decide
theorem ly0_187 : fw_lay 0 187 = (10, 200) := by decide
theorem ly0_188 : fw_lay 0 188 = (2, 4) := by decide
theorem ly0_189 : fw_lay 0 189 = (12, 200) := by decide
theorem ly0_190 : fw_lay 0 190 = (10, 200) := by decide
theorem ly0_191 : fw_lay 0 191 = (2, 4) := by decide
theorem ly0_192 : fw_lay 0 192 = (12, 32) := by decide
theorem ly0_193 : fw_lay 0 193 = (10, 32) := by decide
theorem ly0_194 : fw_lay 0 194 = (2, 4) := by decide
theorem ly0_195 : fw_lay 0 195 = (12, 384) := by decide
theorem ly0_196 : fw_lay 0 196 = (10, 384) := by decide
theorem ly0_197 : fw_lay 0 197 = (10, 4) := by decide
theorem ly0_198 : fw_lay 0 198 = (3, 5) := by decide
theorem ly0_199 : fw_lay 0 199 = (10, 20) := by decide
theorem ly0_200 : fw_lay 0 200 = (10, 20) := by decide
theorem ly0_201 : fw_lay 0 201 = (10, 20) := by decide
theorem ly0_202 : fw_lay 0 202 = (10, 20) := by decide
theorem ly1_0 : fw_lay 1 0 = (6, 36) := by decide
theorem ly1_1 : fw_lay 1 1 = (10, 4) := by decide
theorem ly1_2 : fw_lay 1 2 = (10, 960) := by decide
theorem ly1_3 : fw_lay 1 3 = (12, 80) := by decide
theorem ly1_4 : fw_lay 1 4 = (10, 16) := by decide
theorem ly1_5 : fw_lay 1 5 = (10, 480) := by decide
theorem ly1_6 : fw_lay 1 6 = (10, 4) := by decide
theorem ly1_7 : fw_lay 1 7 = (10, 4) := by decide
theorem ly1_8 : fw_lay 1 8 = (10, 4) := by decide
theorem ly1_9 : fw_lay 1 9 = (10, 4) := by decide
theorem ly1_10 : fw_lay 1 10 = (11, 12) := by decide
theorem ly1_11 : fw_lay 1 11 = (11, 12) := by decide
theorem ly1_12 : fw_lay 1 12 = (10, 12) := by decide
theorem ly1_13 : fw_lay 1 13 = (10, 12) := by decide
theorem ly1_14 : fw_lay 1 14 = (10, 12) := by decide
theorem ly1_15 : fw_lay 1 15 = (10, 12) := by decide
theorem ly1_16 : fw_lay 1 16 = (10, 12) := by decide
theorem ly1_17 : fw_lay 1 17 = (10, 12) := by decide
theorem ly1_18 : fw_lay 1 18 = (10, 192) := by decide
theorem ly1_19 : fw_lay 1 19 = (11, 12) := by decide
theorem ly1_20 : fw_lay 1 20 = (10, 4) := by decide
theorem ly1_21 : fw_lay 1 21 = (10, 4) := by decide
theorem ly1_22 : fw_lay 1 22 = (12, 800) := by decide
theorem ly1_23 : fw_lay 1 23 = (10, 800) := by decide
theorem ly1_24 : fw_lay 1 24 = (12, 704) := by decide
theorem ly1_25 : fw_lay 1 25 = (10, 704) := by decide
theorem ly1_26 : fw_lay 1 26 = (10, 20) := by decide
theorem ly1_27 : fw_lay 1 27 = (10, 20) := by decide
theorem ly1_28 : fw_lay 1 28 = (10, 20) := by decide
theorem ly1_29 : fw_lay 1 29 = (10, 20) := by decide
theorem ly_ch {c : Int} (h0 : 8 ≤ c) (h1 : c < 168) (h2 : c % 2 = 0) : fw_lay 0 c = (0, 12) := by
  show fw_layC c = _
  unfold fw_layC
  rw [if_neg (by omega), if_pos h1, if_pos (by omega)]
theorem ly_gr {c : Int} (h0 : 8 ≤ c) (h1 : c < 168) (h2 : c % 2 = 1) : fw_lay 0 c = (10, 4) := by
  show fw_layC c = _
  unfold fw_layC
  rw [if_neg (by omega), if_pos h1, if_neg (by omega)]
theorem rc_ch {c : Int} (h0 : 8 ≤ c) (h1 : c < 168) : fw_RC c 0 = c + 1 := by
  unfold fw_RC
  rw [if_neg (by omega), if_neg (by omega), if_neg (by omega), if_pos h1]
theorem rc_2 (x : Int) : fw_RC 2 x = 8 + 2 * x := rfl
theorem rc_178 (x : Int) : fw_RC 178 x = 179 + 3 * x := rfl
/-- a set of pieces at p, with room for n -/
def fw_ps (p : Int) (n : Nat) : Prop := fw_lay 0 p = (2, 4) ∧ fw_lay 0 (p + 1) = (12, n) ∧ fw_lay 0 (p + 2) = (10, n) ∧ fw_RC p 0 = p + 1 ∧ fw_RC p 1 = p + 2 ∧ 179 ≤ p ∧ p + 2 < 197
theorem ps_kept {m : Int} (h0 : 0 ≤ m) (h1 : m < 4) : fw_ps (179 + 3 * m) 200 := by
  rcases (show m = 0 ∨ m = 1 ∨ m = 2 ∨ m = 3 by omega) with rfl | rfl | rfl | rfl <;> exact ⟨by decide, by decide, by decide, by decide, by decide, by decide, by decide⟩
theorem ps_191 : fw_ps 191 32 := ⟨by decide, by decide, by decide, by decide, by decide, by decide, by decide⟩
theorem ps_194 : fw_ps 194 384 := ⟨by decide, by decide, by decide, by decide, by decide, by decide, by decide⟩
def mX0_init : fw_M := (yX0_init, cX0_init, 1, none, 0, 0, 1, 20, 1, 4)
set_option maxRecDepth 20000 in
theorem mv_X0_init : fw_mw mX0_init 0 ∧ ((fw_mN mX0_init).name = "<init>" ∧ fw_mT mX0_init = none ∧ Cond.instanceMethod (fw_mN mX0_init) ∈ fw_tbl) := ⟨⟨fw_mem 93 rfl rfl, fw_mem 67 (by decide +kernel) rfl, ⟨by decide +kernel, by decide +kernel, by decide +kernel⟩, rfl⟩, rfl, rfl, fw_mem 92 (by decide +kernel) rfl⟩
theorem pl_X0_init : plainName (fw_mN mX0_init).cls = true ∧ (fw_mN mX0_init).cls = fw_cn (fw_mO mX0_init) := ⟨by decide +kernel, rfl⟩
def mX0_slot : fw_M := (yX0_slot, cX0_slot, 1, (some .int), 0, 0, 0, 0, 0, 0)
set_option maxRecDepth 20000 in
theorem mv_X0_slot : fw_mv mX0_slot 0 := ⟨⟨fw_mem 420 rfl rfl, fw_mem 67 (by decide +kernel) rfl, ⟨by decide +kernel, by decide +kernel, by decide +kernel⟩, rfl⟩, ⟨fw_mem 418 (by decide +kernel) rfl, fw_mem 419 (by decide +kernel) rfl⟩, ⟨_, _, _, fw_cls0⟩, by decide⟩
theorem pl_X0_slot : plainName (fw_mN mX0_slot).cls = true ∧ (fw_mN mX0_slot).cls = fw_cn (fw_mO mX0_slot) := ⟨by decide +kernel, rfl⟩
def mX0_groundSize : fw_M := (yX0_groundSize, cX0_groundSize, 3, (some .int), 0, 0, 0, 0, 0, 0)
set_option maxRecDepth 20000 in
theorem mv_X0_groundSize : fw_mv mX0_groundSize 0 := ⟨⟨fw_mem 549 rfl rfl, fw_mem 67 (by decide +kernel) rfl, ⟨by decide +kernel, by decide +kernel, by decide +kernel⟩, rfl⟩, ⟨fw_mem 547 (by decide +kernel) rfl, fw_mem 548 (by decide +kernel) rfl⟩, ⟨_, _, _, fw_cls0⟩, by decide⟩
theorem pl_X0_groundSize : plainName (fw_mN mX0_groundSize).cls = true ∧ (fw_mN mX0_groundSize).cls = fw_cn (fw_mO mX0_groundSize) := ⟨by decide +kernel, rfl⟩
def mX0_standsOn : fw_M := (yX0_standsOn, cX0_standsOn, 2, (some .boolean), 0, 0, 0, 0, 0, 0)
set_option maxRecDepth 20000 in
theorem mv_X0_standsOn : fw_mv mX0_standsOn 1 := ⟨⟨fw_mem 416 rfl rfl, fw_mem 67 (by decide +kernel) rfl, ⟨by decide +kernel, by decide +kernel, by decide +kernel⟩, rfl⟩, ⟨fw_mem 414 (by decide +kernel) rfl, fw_mem 415 (by decide +kernel) rfl⟩, ⟨_, _, _, fw_cls0⟩, by decide⟩
theorem pl_X0_standsOn : plainName (fw_mN mX0_standsOn).cls = true ∧ (fw_mN mX0_standsOn).cls = fw_cn (fw_mO mX0_standsOn) := ⟨by decide +kernel, rfl⟩
def mX0_isAheadOf : fw_M := (yX0_isAheadOf, cX0_isAheadOf, 2, (some .boolean), 0, 0, 0, 0, 0, 0)
set_option maxRecDepth 20000 in
theorem mv_X0_isAheadOf : fw_mv mX0_isAheadOf 1 := ⟨⟨fw_mem 464 rfl rfl, fw_mem 67 (by decide +kernel) rfl, ⟨by decide +kernel, by decide +kernel, by decide +kernel⟩, rfl⟩, ⟨fw_mem 462 (by decide +kernel) rfl, fw_mem 463 (by decide +kernel) rfl⟩, ⟨_, _, _, fw_cls0⟩, by decide⟩
theorem pl_X0_isAheadOf : plainName (fw_mN mX0_isAheadOf).cls = true ∧ (fw_mN mX0_isAheadOf).cls = fw_cn (fw_mO mX0_isAheadOf) := ⟨by decide +kernel, rfl⟩
def mX1_init : fw_M := (yX1_init, cX1_init, 2, none, 1, 0, 2, 40, 166, 1932)
set_option maxRecDepth 20000 in
theorem mv_X1_init : fw_mw mX1_init 0 ∧ ((fw_mN mX1_init).name = "<init>" ∧ fw_mT mX1_init = none ∧ Cond.instanceMethod (fw_mN mX1_init) ∈ fw_tbl) := ⟨⟨fw_mem 86 rfl rfl, fw_mem 66 (by decide +kernel) rfl, ⟨by decide +kernel, by decide +kernel, by decide +kernel⟩, rfl⟩, rfl, rfl, fw_mem 85 (by decide +kernel) rfl⟩
theorem pl_X1_init : plainName (fw_mN mX1_init).cls = true ∧ (fw_mN mX1_init).cls = fw_cn (fw_mO mX1_init) := ⟨by decide +kernel, rfl⟩
def mX1_empty : fw_M := (yX1_empty, cX1_empty, 2, none, 1, 0, 0, 0, 0, 0)
set_option maxRecDepth 20000 in
theorem mv_X1_empty : fw_mv mX1_empty 0 := ⟨⟨fw_mem 284 rfl rfl, fw_mem 66 (by decide +kernel) rfl, ⟨by decide +kernel, by decide +kernel, by decide +kernel⟩, rfl⟩, ⟨fw_mem 282 (by decide +kernel) rfl, fw_mem 283 (by decide +kernel) rfl⟩, ⟨_, _, _, fw_cls1⟩, by decide⟩
theorem pl_X1_empty : plainName (fw_mN mX1_empty).cls = true ∧ (fw_mN mX1_empty).cls = fw_cn (fw_mO mX1_empty) := ⟨by decide +kernel, rfl⟩
def mX1_placeOf : fw_M := (yX1_placeOf, cX1_placeOf, 3, (some .int), 1, 0, 0, 0, 0, 0)
set_option maxRecDepth 20000 in
theorem mv_X1_placeOf : fw_mt mX1_placeOf 3 := ⟨⟨fw_mem 368 rfl rfl, fw_mem 66 (by decide +kernel) rfl, ⟨by decide +kernel, by decide +kernel, by decide +kernel⟩, rfl⟩, fw_mem 367 (by decide +kernel) rfl⟩
theorem pl_X1_placeOf : plainName (fw_mN mX1_placeOf).cls = true ∧ (fw_mN mX1_placeOf).cls = fw_cn (fw_mO mX1_placeOf) := ⟨by decide +kernel, rfl⟩
def mX1_knownOf : fw_M := (yX1_knownOf, cX1_knownOf, 4, (some .int), 1, 0, 1, 22, 0, 0)
set_option maxRecDepth 20000 in
theorem mv_X1_knownOf : fw_mv mX1_knownOf 3 := ⟨⟨fw_mem 365 rfl rfl, fw_mem 66 (by decide +kernel) rfl, ⟨by decide +kernel, by decide +kernel, by decide +kernel⟩, rfl⟩, ⟨fw_mem 363 (by decide +kernel) rfl, fw_mem 364 (by decide +kernel) rfl⟩, ⟨_, _, _, fw_cls1⟩, by decide⟩
theorem pl_X1_knownOf : plainName (fw_mN mX1_knownOf).cls = true ∧ (fw_mN mX1_knownOf).cls = fw_cn (fw_mO mX1_knownOf) := ⟨by decide +kernel, rfl⟩
def mX1_knows : fw_M := (yX1_knows, cX1_knows, 4, (some .boolean), 1, 0, 2, 45, 0, 0)
set_option maxRecDepth 20000 in
theorem mv_X1_knows : fw_mv mX1_knows 3 := ⟨⟨fw_mem 361 rfl rfl, fw_mem 66 (by decide +kernel) rfl, ⟨by decide +kernel, by decide +kernel, by decide +kernel⟩, rfl⟩, ⟨fw_mem 359 (by decide +kernel) rfl, fw_mem 360 (by decide +kernel) rfl⟩, ⟨_, _, _, fw_cls1⟩, by decide⟩
theorem pl_X1_knows : plainName (fw_mN mX1_knows).cls = true ∧ (fw_mN mX1_knows).cls = fw_cn (fw_mO mX1_knows) := ⟨by decide +kernel, rfl⟩
def mX1_changeOf : fw_M := (yX1_changeOf, cX1_changeOf, 3, (some (.object "FolderRows$Change")), 1, 0, 0, 0, 0, 0)
set_option maxRecDepth 20000 in
theorem mv_X1_changeOf : fw_mv mX1_changeOf 2 := ⟨⟨fw_mem 455 rfl rfl, fw_mem 66 (by decide +kernel) rfl, ⟨by decide +kernel, by decide +kernel, by decide +kernel⟩, rfl⟩, ⟨fw_mem 453 (by decide +kernel) rfl, fw_mem 454 (by decide +kernel) rfl⟩, ⟨_, _, _, fw_cls1⟩, by decide⟩
theorem pl_X1_changeOf : plainName (fw_mN mX1_changeOf).cls = true ∧ (fw_mN mX1_changeOf).cls = fw_cn (fw_mO mX1_changeOf) := ⟨by decide +kernel, rfl⟩
def mX1_inOrder : fw_M := (yX1_inOrder, cX1_inOrder, 2, (some (.object "FolderRows$Change")), 1, 0, 0, 0, 0, 0)
set_option maxRecDepth 20000 in
theorem mv_X1_inOrder : fw_mv mX1_inOrder 1 := ⟨⟨fw_mem 357 rfl rfl, fw_mem 66 (by decide +kernel) rfl, ⟨by decide +kernel, by decide +kernel, by decide +kernel⟩, rfl⟩, ⟨fw_mem 355 (by decide +kernel) rfl, fw_mem 356 (by decide +kernel) rfl⟩, ⟨_, _, _, fw_cls1⟩, by decide⟩
theorem pl_X1_inOrder : plainName (fw_mN mX1_inOrder).cls = true ∧ (fw_mN mX1_inOrder).cls = fw_cn (fw_mO mX1_inOrder) := ⟨by decide +kernel, rfl⟩
def mX1_isFull : fw_M := (yX1_isFull, cX1_isFull, 2, (some .boolean), 1, 0, 0, 0, 0, 0)
set_option maxRecDepth 20000 in
theorem mv_X1_isFull : fw_mv mX1_isFull 1 := ⟨⟨fw_mem 447 rfl rfl, fw_mem 66 (by decide +kernel) rfl, ⟨by decide +kernel, by decide +kernel, by decide +kernel⟩, rfl⟩, ⟨fw_mem 445 (by decide +kernel) rfl, fw_mem 446 (by decide +kernel) rfl⟩, ⟨_, _, _, fw_cls1⟩, by decide⟩
theorem pl_X1_isFull : plainName (fw_mN mX1_isFull).cls = true ∧ (fw_mN mX1_isFull).cls = fw_cn (fw_mO mX1_isFull) := ⟨by decide +kernel, rfl⟩
def mX1_append : fw_M := (yX1_append, cX1_append, 7, (some (.object "FolderRows$Change")), 1, 0, 2, 45, 0, 0)
set_option maxRecDepth 20000 in
theorem mv_X1_append : fw_mv mX1_append 3 := ⟨⟨fw_mem 451 rfl rfl, fw_mem 66 (by decide +kernel) rfl, ⟨by decide +kernel, by decide +kernel, by decide +kernel⟩, rfl⟩, ⟨fw_mem 449 (by decide +kernel) rfl, fw_mem 450 (by decide +kernel) rfl⟩, ⟨_, _, _, fw_cls1⟩, by decide⟩
theorem pl_X1_append : plainName (fw_mN mX1_append).cls = true ∧ (fw_mN mX1_append).cls = fw_cn (fw_mO mX1_append) := ⟨by decide +kernel, rfl⟩
def mX1_putInOrder : fw_M := (yX1_putInOrder, cX1_putInOrder, 3, none, 1, 0, 1, 21, 0, 0)
set_option maxRecDepth 20000 in
theorem mv_X1_putInOrder : fw_mv mX1_putInOrder 1 := ⟨⟨fw_mem 460 rfl rfl, fw_mem 66 (by decide +kernel) rfl, ⟨by decide +kernel, by decide +kernel, by decide +kernel⟩, rfl⟩, ⟨fw_mem 459 (by decide +kernel) rfl, fw_mem 13 (by decide +kernel) rfl⟩, ⟨_, _, _, fw_cls1⟩, by decide⟩
theorem pl_X1_putInOrder : plainName (fw_mN mX1_putInOrder).cls = true ∧ (fw_mN mX1_putInOrder).cls = fw_cn (fw_mO mX1_putInOrder) := ⟨by decide +kernel, rfl⟩
def mX1_leastUnmade : fw_M := (yX1_leastUnmade, cX1_leastUnmade, 5, (some .int), 1, 0, 3, 68, 0, 0)
set_option maxRecDepth 20000 in
theorem mv_X1_leastUnmade : fw_mv mX1_leastUnmade 1 := ⟨⟨fw_mem 441 rfl rfl, fw_mem 66 (by decide +kernel) rfl, ⟨by decide +kernel, by decide +kernel, by decide +kernel⟩, rfl⟩, ⟨fw_mem 439 (by decide +kernel) rfl, fw_mem 440 (by decide +kernel) rfl⟩, ⟨_, _, _, fw_cls1⟩, by decide⟩
theorem pl_X1_leastUnmade : plainName (fw_mN mX1_leastUnmade).cls = true ∧ (fw_mN mX1_leastUnmade).cls = fw_cn (fw_mO mX1_leastUnmade) := ⟨by decide +kernel, rfl⟩
def mX1_passOn : fw_M := (yX1_passOn, cX1_passOn, 7, (some .int), 1, 0, 3, 68, 0, 0)
set_option maxRecDepth 20000 in
theorem mv_X1_passOn : fw_mv mX1_passOn 3 := ⟨⟨fw_mem 536 rfl rfl, fw_mem 66 (by decide +kernel) rfl, ⟨by decide +kernel, by decide +kernel, by decide +kernel⟩, rfl⟩, ⟨fw_mem 534 (by decide +kernel) rfl, fw_mem 535 (by decide +kernel) rfl⟩, ⟨_, _, _, fw_cls1⟩, by decide⟩
theorem pl_X1_passOn : plainName (fw_mN mX1_passOn).cls = true ∧ (fw_mN mX1_passOn).cls = fw_cn (fw_mO mX1_passOn) := ⟨by decide +kernel, rfl⟩
def mX1_nextDay : fw_M := (yX1_nextDay, cX1_nextDay, 2, none, 1, 0, 1, 40, 0, 0)
set_option maxRecDepth 20000 in
theorem mv_X1_nextDay : fw_mv mX1_nextDay 0 := ⟨⟨fw_mem 702 rfl rfl, fw_mem 66 (by decide +kernel) rfl, ⟨by decide +kernel, by decide +kernel, by decide +kernel⟩, rfl⟩, ⟨fw_mem 700 (by decide +kernel) rfl, fw_mem 701 (by decide +kernel) rfl⟩, ⟨_, _, _, fw_cls1⟩, by decide⟩
theorem pl_X1_nextDay : plainName (fw_mN mX1_nextDay).cls = true ∧ (fw_mN mX1_nextDay).cls = fw_cn (fw_mO mX1_nextDay) := ⟨by decide +kernel, rfl⟩
def mX1_setApart : fw_M := (yX1_setApart, cX1_setApart, 4, (some .int), 1, 0, 2, 44, 0, 0)
set_option maxRecDepth 20000 in
theorem mv_X1_setApart : fw_mv mX1_setApart 2 := ⟨⟨fw_mem 640 rfl rfl, fw_mem 66 (by decide +kernel) rfl, ⟨by decide +kernel, by decide +kernel, by decide +kernel⟩, rfl⟩, ⟨fw_mem 638 (by decide +kernel) rfl, fw_mem 639 (by decide +kernel) rfl⟩, ⟨_, _, _, fw_cls1⟩, by decide⟩
theorem pl_X1_setApart : plainName (fw_mN mX1_setApart).cls = true ∧ (fw_mN mX1_setApart).cls = fw_cn (fw_mO mX1_setApart) := ⟨by decide +kernel, rfl⟩
def mX1_findLeftOut : fw_M := (yX1_findLeftOut, cX1_findLeftOut, 3, none, 1, 0, 1, 22, 0, 0)
set_option maxRecDepth 20000 in
theorem mv_X1_findLeftOut : fw_mv mX1_findLeftOut 0 := ⟨⟨fw_mem 469 rfl rfl, fw_mem 66 (by decide +kernel) rfl, ⟨by decide +kernel, by decide +kernel, by decide +kernel⟩, rfl⟩, ⟨fw_mem 468 (by decide +kernel) rfl, fw_mem 14 (by decide +kernel) rfl⟩, ⟨_, _, _, fw_cls1⟩, by decide⟩
theorem pl_X1_findLeftOut : plainName (fw_mN mX1_findLeftOut).cls = true ∧ (fw_mN mX1_findLeftOut).cls = fw_cn (fw_mO mX1_findLeftOut) := ⟨by decide +kernel, rfl⟩
def mX1_standsOnLeftOut : fw_M := (yX1_standsOnLeftOut, cX1_standsOnLeftOut, 3, (some .boolean), 1, 0, 0, 0, 0, 0)
set_option maxRecDepth 20000 in
theorem mv_X1_standsOnLeftOut : fw_mv mX1_standsOnLeftOut 1 := ⟨⟨fw_mem 473 rfl rfl, fw_mem 66 (by decide +kernel) rfl, ⟨by decide +kernel, by decide +kernel, by decide +kernel⟩, rfl⟩, ⟨fw_mem 472 (by decide +kernel) rfl, fw_mem 15 (by decide +kernel) rfl⟩, ⟨_, _, _, fw_cls1⟩, by decide⟩
theorem pl_X1_standsOnLeftOut : plainName (fw_mN mX1_standsOnLeftOut).cls = true ∧ (fw_mN mX1_standsOnLeftOut).cls = fw_cn (fw_mO mX1_standsOnLeftOut) := ⟨by decide +kernel, rfl⟩
def mX1_isLeftOut : fw_M := (yX1_isLeftOut, cX1_isLeftOut, 2, (some .boolean), 1, 0, 0, 0, 0, 0)
set_option maxRecDepth 20000 in
theorem mv_X1_isLeftOut : fw_mv mX1_isLeftOut 1 := ⟨⟨fw_mem 372 rfl rfl, fw_mem 66 (by decide +kernel) rfl, ⟨by decide +kernel, by decide +kernel, by decide +kernel⟩, rfl⟩, ⟨fw_mem 370 (by decide +kernel) rfl, fw_mem 371 (by decide +kernel) rfl⟩, ⟨_, _, _, fw_cls1⟩, by decide⟩
theorem pl_X1_isLeftOut : plainName (fw_mN mX1_isLeftOut).cls = true ∧ (fw_mN mX1_isLeftOut).cls = fw_cn (fw_mO mX1_isLeftOut) := ⟨by decide +kernel, rfl⟩
def mX1_leftOutInAll : fw_M := (yX1_leftOutInAll, cX1_leftOutInAll, 3, (some .int), 1, 0, 1, 21, 0, 0)
set_option maxRecDepth 20000 in
theorem mv_X1_leftOutInAll : fw_mv mX1_leftOutInAll 0 := ⟨⟨fw_mem 760 rfl rfl, fw_mem 66 (by decide +kernel) rfl, ⟨by decide +kernel, by decide +kernel, by decide +kernel⟩, rfl⟩, ⟨fw_mem 758 (by decide +kernel) rfl, fw_mem 759 (by decide +kernel) rfl⟩, ⟨_, _, _, fw_cls1⟩, by decide⟩
theorem pl_X1_leftOutInAll : plainName (fw_mN mX1_leftOutInAll).cls = true ∧ (fw_mN mX1_leftOutInAll).cls = fw_cn (fw_mO mX1_leftOutInAll) := ⟨by decide +kernel, rfl⟩
def mX1_madeOnDay : fw_M := (yX1_madeOnDay, cX1_madeOnDay, 5, (some .int), 1, 0, 1, 22, 0, 0)
set_option maxRecDepth 20000 in
theorem mv_X1_madeOnDay : fw_mv mX1_madeOnDay 2 := ⟨⟨fw_mem 742 rfl rfl, fw_mem 66 (by decide +kernel) rfl, ⟨by decide +kernel, by decide +kernel, by decide +kernel⟩, rfl⟩, ⟨fw_mem 740 (by decide +kernel) rfl, fw_mem 741 (by decide +kernel) rfl⟩, ⟨_, _, _, fw_cls1⟩, by decide⟩
theorem pl_X1_madeOnDay : plainName (fw_mN mX1_madeOnDay).cls = true ∧ (fw_mN mX1_madeOnDay).cls = fw_cn (fw_mO mX1_madeOnDay) := ⟨by decide +kernel, rfl⟩
def mX2_init (n : Nat) : fw_M := (yX2_init, cX2_init, 2, none, 2, 0, 1, 21, 2, 2 * n)
set_option maxRecDepth 20000 in
theorem mv_X2_init : fw_mw (mX2_init 0) 1 ∧ ((fw_mN (mX2_init 0)).name = "<init>" ∧ fw_mT (mX2_init 0) = none ∧ Cond.instanceMethod (fw_mN (mX2_init 0)) ∈ fw_tbl) := ⟨⟨fw_mem 228 rfl rfl, fw_mem 69 (by decide +kernel) rfl, ⟨by decide +kernel, by decide +kernel, by decide +kernel⟩, rfl⟩, rfl, rfl, fw_mem 227 (by decide +kernel) rfl⟩
theorem pl_X2_init : plainName (fw_mN (mX2_init 0)).cls = true ∧ (fw_mN (mX2_init 0)).cls = fw_cn (fw_mO (mX2_init 0)) := ⟨by decide +kernel, rfl⟩
theorem mv_X2_initn (n : Nat) : fw_mw (mX2_init n) 1 ∧ ((fw_mN (mX2_init n)).name = "<init>" ∧ fw_mT (mX2_init n) = none ∧ Cond.instanceMethod (fw_mN (mX2_init n)) ∈ fw_tbl) := mv_X2_init
theorem pl_X2_initn (n : Nat) : plainName (fw_mN (mX2_init n)).cls = true ∧ (fw_mN (mX2_init n)).cls = fw_cn (fw_mO (mX2_init n)) := pl_X2_init
def mX2_empty : fw_M := (yX2_empty, cX2_empty, 1, none, 2, 0, 0, 0, 0, 0)
set_option maxRecDepth 20000 in
theorem mv_X2_empty : fw_mv mX2_empty 0 := ⟨⟨fw_mem 288 rfl rfl, fw_mem 69 (by decide +kernel) rfl, ⟨by decide +kernel, by decide +kernel, by decide +kernel⟩, rfl⟩, ⟨fw_mem 286 (by decide +kernel) rfl, fw_mem 287 (by decide +kernel) rfl⟩, ⟨_, _, _, fw_cls2⟩, by decide⟩
theorem pl_X2_empty : plainName (fw_mN mX2_empty).cls = true ∧ (fw_mN mX2_empty).cls = fw_cn (fw_mO mX2_empty) := ⟨by decide +kernel, rfl⟩
def mX2_placeOf : fw_M := (yX2_placeOf, cX2_placeOf, 5, (some .int), 2, 0, 0, 0, 0, 0)
set_option maxRecDepth 20000 in
theorem mv_X2_placeOf : fw_mv mX2_placeOf 2 := ⟨⟨fw_mem 516 rfl rfl, fw_mem 69 (by decide +kernel) rfl, ⟨by decide +kernel, by decide +kernel, by decide +kernel⟩, rfl⟩, ⟨fw_mem 515 (by decide +kernel) rfl, fw_mem 17 (by decide +kernel) rfl⟩, ⟨_, _, _, fw_cls2⟩, by decide⟩
theorem pl_X2_placeOf : plainName (fw_mN mX2_placeOf).cls = true ∧ (fw_mN mX2_placeOf).cls = fw_cn (fw_mO mX2_placeOf) := ⟨by decide +kernel, rfl⟩
def mX2_has : fw_M := (yX2_has, cX2_has, 4, (some .boolean), 2, 0, 1, 24, 0, 0)
set_option maxRecDepth 20000 in
theorem mv_X2_has : fw_mv mX2_has 2 := ⟨⟨fw_mem 512 rfl rfl, fw_mem 69 (by decide +kernel) rfl, ⟨by decide +kernel, by decide +kernel, by decide +kernel⟩, rfl⟩, ⟨fw_mem 510 (by decide +kernel) rfl, fw_mem 511 (by decide +kernel) rfl⟩, ⟨_, _, _, fw_cls2⟩, by decide⟩
theorem pl_X2_has : plainName (fw_mN mX2_has).cls = true ∧ (fw_mN mX2_has).cls = fw_cn (fw_mO mX2_has) := ⟨by decide +kernel, rfl⟩
def mX2_add : fw_M := (yX2_add, cX2_add, 4, none, 2, 0, 2, 47, 0, 0)
set_option maxRecDepth 20000 in
theorem mv_X2_add : fw_mv mX2_add 2 := ⟨⟨fw_mem 508 rfl rfl, fw_mem 69 (by decide +kernel) rfl, ⟨by decide +kernel, by decide +kernel, by decide +kernel⟩, rfl⟩, ⟨fw_mem 507 (by decide +kernel) rfl, fw_mem 16 (by decide +kernel) rfl⟩, ⟨_, _, _, fw_cls2⟩, by decide⟩
theorem pl_X2_add : plainName (fw_mN mX2_add).cls = true ∧ (fw_mN mX2_add).cls = fw_cn (fw_mO mX2_add) := ⟨by decide +kernel, rfl⟩
def mX2_removeAt : fw_M := (yX2_removeAt, cX2_removeAt, 2, none, 2, 0, 0, 0, 0, 0)
set_option maxRecDepth 20000 in
theorem mv_X2_removeAt : fw_mv mX2_removeAt 1 := ⟨⟨fw_mem 673 rfl rfl, fw_mem 69 (by decide +kernel) rfl, ⟨by decide +kernel, by decide +kernel, by decide +kernel⟩, rfl⟩, ⟨fw_mem 672 (by decide +kernel) rfl, fw_mem 28 (by decide +kernel) rfl⟩, ⟨_, _, _, fw_cls2⟩, by decide⟩
theorem pl_X2_removeAt : plainName (fw_mN mX2_removeAt).cls = true ∧ (fw_mN mX2_removeAt).cls = fw_cn (fw_mO mX2_removeAt) := ⟨by decide +kernel, rfl⟩
def mX2_addCutOf : fw_M := (yX2_addCutOf, cX2_addCutOf, 9, none, 2, 0, 3, 70, 0, 0)
set_option maxRecDepth 20000 in
theorem mv_X2_addCutOf : fw_mv mX2_addCutOf 2 := ⟨⟨fw_mem 501 rfl rfl, fw_mem 69 (by decide +kernel) rfl, ⟨by decide +kernel, by decide +kernel, by decide +kernel⟩, rfl⟩, ⟨fw_mem 499 (by decide +kernel) rfl, fw_mem 500 (by decide +kernel) rfl⟩, ⟨_, _, _, fw_cls2⟩, by decide⟩
theorem pl_X2_addCutOf : plainName (fw_mN mX2_addCutOf).cls = true ∧ (fw_mN mX2_addCutOf).cls = fw_cn (fw_mO mX2_addCutOf) := ⟨by decide +kernel, rfl⟩
def mX2_addAll : fw_M := (yX2_addAll, cX2_addAll, 3, none, 2, 0, 3, 70, 0, 0)
set_option maxRecDepth 20000 in
theorem mv_X2_addAll : fw_mv mX2_addAll 1 := ⟨⟨fw_mem 528 rfl rfl, fw_mem 69 (by decide +kernel) rfl, ⟨by decide +kernel, by decide +kernel, by decide +kernel⟩, rfl⟩, ⟨fw_mem 526 (by decide +kernel) rfl, fw_mem 527 (by decide +kernel) rfl⟩, ⟨_, _, _, fw_cls2⟩, by decide⟩
theorem pl_X2_addAll : plainName (fw_mN mX2_addAll).cls = true ∧ (fw_mN mX2_addAll).cls = fw_cn (fw_mO mX2_addAll) := ⟨by decide +kernel, rfl⟩
def mX2_removeAll : fw_M := (yX2_removeAll, cX2_removeAll, 3, none, 2, 0, 2, 47, 0, 0)
set_option maxRecDepth 20000 in
theorem mv_X2_removeAll : fw_mv mX2_removeAll 1 := ⟨⟨fw_mem 669 rfl rfl, fw_mem 69 (by decide +kernel) rfl, ⟨by decide +kernel, by decide +kernel, by decide +kernel⟩, rfl⟩, ⟨fw_mem 667 (by decide +kernel) rfl, fw_mem 668 (by decide +kernel) rfl⟩, ⟨_, _, _, fw_cls2⟩, by decide⟩
theorem pl_X2_removeAll : plainName (fw_mN mX2_removeAll).cls = true ∧ (fw_mN mX2_removeAll).cls = fw_cn (fw_mO mX2_removeAll) := ⟨by decide +kernel, rfl⟩
def mX2_keepOnly : fw_M := (yX2_keepOnly, cX2_keepOnly, 3, none, 2, 0, 2, 47, 0, 0)
set_option maxRecDepth 20000 in
theorem mv_X2_keepOnly : fw_mv mX2_keepOnly 1 := ⟨⟨fw_mem 690 rfl rfl, fw_mem 69 (by decide +kernel) rfl, ⟨by decide +kernel, by decide +kernel, by decide +kernel⟩, rfl⟩, ⟨fw_mem 688 (by decide +kernel) rfl, fw_mem 689 (by decide +kernel) rfl⟩, ⟨_, _, _, fw_cls2⟩, by decide⟩
theorem pl_X2_keepOnly : plainName (fw_mN mX2_keepOnly).cls = true ∧ (fw_mN mX2_keepOnly).cls = fw_cn (fw_mO mX2_keepOnly) := ⟨by decide +kernel, rfl⟩
def mX2_bytesNotIn : fw_M := (yX2_bytesNotIn, cX2_bytesNotIn, 4, (some .int), 2, 0, 2, 47, 0, 0)
set_option maxRecDepth 20000 in
theorem mv_X2_bytesNotIn : fw_mv mX2_bytesNotIn 1 := ⟨⟨fw_mem 524 rfl rfl, fw_mem 69 (by decide +kernel) rfl, ⟨by decide +kernel, by decide +kernel, by decide +kernel⟩, rfl⟩, ⟨fw_mem 522 (by decide +kernel) rfl, fw_mem 523 (by decide +kernel) rfl⟩, ⟨_, _, _, fw_cls2⟩, by decide⟩
theorem pl_X2_bytesNotIn : plainName (fw_mN mX2_bytesNotIn).cls = true ∧ (fw_mN mX2_bytesNotIn).cls = fw_cn (fw_mO mX2_bytesNotIn) := ⟨by decide +kernel, rfl⟩
def mX3_init : fw_M := (yX3_init, cX3_init, 1, none, 3, 0, 1, 20, 4, 80)
set_option maxRecDepth 20000 in
theorem mv_X3_init : fw_mw mX3_init 0 ∧ ((fw_mN mX3_init).name = "<init>" ∧ fw_mT mX3_init = none ∧ Cond.instanceMethod (fw_mN mX3_init) ∈ fw_tbl) := ⟨⟨fw_mem 255 rfl rfl, fw_mem 71 (by decide +kernel) rfl, ⟨by decide +kernel, by decide +kernel, by decide +kernel⟩, rfl⟩, rfl, rfl, fw_mem 254 (by decide +kernel) rfl⟩
theorem pl_X3_init : plainName (fw_mN mX3_init).cls = true ∧ (fw_mN mX3_init).cls = fw_cn (fw_mO mX3_init) := ⟨by decide +kernel, rfl⟩
def mX3_begin : fw_M := (yX3_begin, cX3_begin, 4, (some .int), 3, 0, 0, 0, 0, 0)
set_option maxRecDepth 20000 in
theorem mv_X3_begin : fw_mv mX3_begin 3 := ⟨⟨fw_mem 716 rfl rfl, fw_mem 71 (by decide +kernel) rfl, ⟨by decide +kernel, by decide +kernel, by decide +kernel⟩, rfl⟩, ⟨fw_mem 714 (by decide +kernel) rfl, fw_mem 715 (by decide +kernel) rfl⟩, ⟨_, _, _, fw_cls3⟩, by decide⟩
theorem pl_X3_begin : plainName (fw_mN mX3_begin).cls = true ∧ (fw_mN mX3_begin).cls = fw_cn (fw_mO mX3_begin) := ⟨by decide +kernel, rfl⟩
def mX3_holds : fw_M := (yX3_holds, cX3_holds, 5, (some .boolean), 3, 0, 0, 0, 0, 0)
set_option maxRecDepth 20000 in
theorem mv_X3_holds : fw_mv mX3_holds 3 := ⟨⟨fw_mem 728 rfl rfl, fw_mem 71 (by decide +kernel) rfl, ⟨by decide +kernel, by decide +kernel, by decide +kernel⟩, rfl⟩, ⟨fw_mem 726 (by decide +kernel) rfl, fw_mem 727 (by decide +kernel) rfl⟩, ⟨_, _, _, fw_cls3⟩, by decide⟩
theorem pl_X3_holds : plainName (fw_mN mX3_holds).cls = true ∧ (fw_mN mX3_holds).cls = fw_cn (fw_mO mX3_holds) := ⟨by decide +kernel, rfl⟩
def mX3_holding : fw_M := (yX3_holding, cX3_holding, 3, (some .int), 3, 0, 0, 0, 0, 0)
set_option maxRecDepth 20000 in
theorem mv_X3_holding : fw_mv mX3_holding 0 := ⟨⟨fw_mem 756 rfl rfl, fw_mem 71 (by decide +kernel) rfl, ⟨by decide +kernel, by decide +kernel, by decide +kernel⟩, rfl⟩, ⟨fw_mem 754 (by decide +kernel) rfl, fw_mem 755 (by decide +kernel) rfl⟩, ⟨_, _, _, fw_cls3⟩, by decide⟩
theorem pl_X3_holding : plainName (fw_mN mX3_holding).cls = true ∧ (fw_mN mX3_holding).cls = fw_cn (fw_mO mX3_holding) := ⟨by decide +kernel, rfl⟩
def mX4_init : fw_M := (yX4_init, cX4_init, 2, none, 4, 0, 1, 20, 9, 144)
set_option maxRecDepth 20000 in
theorem mv_X4_init : fw_mw mX4_init 1 ∧ ((fw_mN mX4_init).name = "<init>" ∧ fw_mT mX4_init = none ∧ Cond.instanceMethod (fw_mN mX4_init) ∈ fw_tbl) := ⟨⟨fw_mem 185 rfl rfl, fw_mem 68 (by decide +kernel) rfl, ⟨by decide +kernel, by decide +kernel, by decide +kernel⟩, rfl⟩, rfl, rfl, fw_mem 184 (by decide +kernel) rfl⟩
theorem pl_X4_init : plainName (fw_mN mX4_init).cls = true ∧ (fw_mN mX4_init).cls = fw_cn (fw_mO mX4_init) := ⟨by decide +kernel, rfl⟩
def mX4_grow : fw_M := (yX4_grow, cX4_grow, 6, none, 4, 0, 4, 93, 0, 0)
set_option maxRecDepth 20000 in
theorem mv_X4_grow : fw_mv mX4_grow 3 := ⟨⟨fw_mem 349 rfl rfl, fw_mem 68 (by decide +kernel) rfl, ⟨by decide +kernel, by decide +kernel, by decide +kernel⟩, rfl⟩, ⟨fw_mem 347 (by decide +kernel) rfl, fw_mem 348 (by decide +kernel) rfl⟩, ⟨_, _, _, fw_cls4⟩, by decide⟩
theorem pl_X4_grow : plainName (fw_mN mX4_grow).cls = true ∧ (fw_mN mX4_grow).cls = fw_cn (fw_mO mX4_grow) := ⟨by decide +kernel, rfl⟩
def mX4_clear : fw_M := (yX4_clear, cX4_clear, 2, none, 4, 0, 0, 0, 0, 0)
set_option maxRecDepth 20000 in
theorem mv_X4_clear : fw_mv mX4_clear 0 := ⟨⟨fw_mem 353 rfl rfl, fw_mem 68 (by decide +kernel) rfl, ⟨by decide +kernel, by decide +kernel, by decide +kernel⟩, rfl⟩, ⟨fw_mem 352 (by decide +kernel) rfl, fw_mem 3 (by decide +kernel) rfl⟩, ⟨_, _, _, fw_cls4⟩, by decide⟩
theorem pl_X4_clear : plainName (fw_mN mX4_clear).cls = true ∧ (fw_mN mX4_clear).cls = fw_cn (fw_mO mX4_clear) := ⟨by decide +kernel, rfl⟩
def mX4_apply : fw_M := (yX4_apply, cX4_apply, 4, none, 4, 0, 3, 70, 0, 0)
set_option maxRecDepth 20000 in
theorem mv_X4_apply : fw_mv mX4_apply 3 := ⟨⟨fw_mem 376 rfl rfl, fw_mem 68 (by decide +kernel) rfl, ⟨by decide +kernel, by decide +kernel, by decide +kernel⟩, rfl⟩, ⟨fw_mem 375 (by decide +kernel) rfl, fw_mem 4 (by decide +kernel) rfl⟩, ⟨_, _, _, fw_cls4⟩, by decide⟩
theorem pl_X4_apply : plainName (fw_mN mX4_apply).cls = true ∧ (fw_mN mX4_apply).cls = fw_cn (fw_mO mX4_apply) := ⟨by decide +kernel, rfl⟩
def mX4_applyNew : fw_M := (yX4_applyNew, cX4_applyNew, 4, none, 4, 0, 1, 23, 0, 0)
set_option maxRecDepth 20000 in
theorem mv_X4_applyNew : fw_mv mX4_applyNew 2 := ⟨⟨fw_mem 380 rfl rfl, fw_mem 68 (by decide +kernel) rfl, ⟨by decide +kernel, by decide +kernel, by decide +kernel⟩, rfl⟩, ⟨fw_mem 379 (by decide +kernel) rfl, fw_mem 5 (by decide +kernel) rfl⟩, ⟨_, _, _, fw_cls4⟩, by decide⟩
theorem pl_X4_applyNew : plainName (fw_mN mX4_applyNew).cls = true ∧ (fw_mN mX4_applyNew).cls = fw_cn (fw_mO mX4_applyNew) := ⟨by decide +kernel, rfl⟩
def mX4_put : fw_M := (yX4_put, cX4_put, 4, none, 4, 0, 0, 0, 0, 0)
set_option maxRecDepth 20000 in
theorem mv_X4_put : fw_mv mX4_put 3 := ⟨⟨fw_mem 388 rfl rfl, fw_mem 68 (by decide +kernel) rfl, ⟨by decide +kernel, by decide +kernel, by decide +kernel⟩, rfl⟩, ⟨fw_mem 387 (by decide +kernel) rfl, fw_mem 6 (by decide +kernel) rfl⟩, ⟨_, _, _, fw_cls4⟩, by decide⟩
theorem pl_X4_put : plainName (fw_mN mX4_put).cls = true ∧ (fw_mN mX4_put).cls = fw_cn (fw_mO mX4_put) := ⟨by decide +kernel, rfl⟩
def mX4_applyGone : fw_M := (yX4_applyGone, cX4_applyGone, 3, none, 4, 0, 1, 24, 0, 0)
set_option maxRecDepth 20000 in
theorem mv_X4_applyGone : fw_mv mX4_applyGone 1 := ⟨⟨fw_mem 400 rfl rfl, fw_mem 68 (by decide +kernel) rfl, ⟨by decide +kernel, by decide +kernel, by decide +kernel⟩, rfl⟩, ⟨fw_mem 399 (by decide +kernel) rfl, fw_mem 7 (by decide +kernel) rfl⟩, ⟨_, _, _, fw_cls4⟩, by decide⟩
theorem pl_X4_applyGone : plainName (fw_mN mX4_applyGone).cls = true ∧ (fw_mN mX4_applyGone).cls = fw_cn (fw_mO mX4_applyGone) := ⟨by decide +kernel, rfl⟩
def mX4_applyWrite : fw_M := (yX4_applyWrite, cX4_applyWrite, 4, none, 4, 0, 2, 47, 0, 0)
set_option maxRecDepth 20000 in
theorem mv_X4_applyWrite : fw_mv mX4_applyWrite 2 := ⟨⟨fw_mem 404 rfl rfl, fw_mem 68 (by decide +kernel) rfl, ⟨by decide +kernel, by decide +kernel, by decide +kernel⟩, rfl⟩, ⟨fw_mem 403 (by decide +kernel) rfl, fw_mem 8 (by decide +kernel) rfl⟩, ⟨_, _, _, fw_cls4⟩, by decide⟩
theorem pl_X4_applyWrite : plainName (fw_mN mX4_applyWrite).cls = true ∧ (fw_mN mX4_applyWrite).cls = fw_cn (fw_mO mX4_applyWrite) := ⟨by decide +kernel, rfl⟩
def mX4_holdRow : fw_M := (yX4_holdRow, cX4_holdRow, 6, none, 4, 0, 1, 22, 0, 0)
set_option maxRecDepth 20000 in
theorem mv_X4_holdRow : fw_mv mX4_holdRow 2 := ⟨⟨fw_mem 408 rfl rfl, fw_mem 68 (by decide +kernel) rfl, ⟨by decide +kernel, by decide +kernel, by decide +kernel⟩, rfl⟩, ⟨fw_mem 407 (by decide +kernel) rfl, fw_mem 9 (by decide +kernel) rfl⟩, ⟨_, _, _, fw_cls4⟩, by decide⟩
theorem pl_X4_holdRow : plainName (fw_mN mX4_holdRow).cls = true ∧ (fw_mN mX4_holdRow).cls = fw_cn (fw_mO mX4_holdRow) := ⟨by decide +kernel, rfl⟩
def mX4_nameAll : fw_M := (yX4_nameAll, cX4_nameAll, 5, none, 4, 0, 2, 45, 0, 0)
set_option maxRecDepth 20000 in
theorem mv_X4_nameAll : fw_mv mX4_nameAll 1 := ⟨⟨fw_mem 424 rfl rfl, fw_mem 68 (by decide +kernel) rfl, ⟨by decide +kernel, by decide +kernel, by decide +kernel⟩, rfl⟩, ⟨fw_mem 423 (by decide +kernel) rfl, fw_mem 10 (by decide +kernel) rfl⟩, ⟨_, _, _, fw_cls4⟩, by decide⟩
theorem pl_X4_nameAll : plainName (fw_mN mX4_nameAll).cls = true ∧ (fw_mN mX4_nameAll).cls = fw_cn (fw_mO mX4_nameAll) := ⟨by decide +kernel, rfl⟩
def mX4_nextUnnamed : fw_M := (yX4_nextUnnamed, cX4_nextUnnamed, 4, (some .int), 4, 0, 0, 0, 0, 0)
set_option maxRecDepth 20000 in
theorem mv_X4_nextUnnamed : fw_mv mX4_nextUnnamed 1 := ⟨⟨fw_mem 428 rfl rfl, fw_mem 68 (by decide +kernel) rfl, ⟨by decide +kernel, by decide +kernel, by decide +kernel⟩, rfl⟩, ⟨fw_mem 427 (by decide +kernel) rfl, fw_mem 11 (by decide +kernel) rfl⟩, ⟨_, _, _, fw_cls4⟩, by decide⟩
theorem pl_X4_nextUnnamed : plainName (fw_mN mX4_nextUnnamed).cls = true ∧ (fw_mN mX4_nextUnnamed).cls = fw_cn (fw_mO mX4_nextUnnamed) := ⟨by decide +kernel, rfl⟩
def mX4_freeNameFor : fw_M := (yX4_freeNameFor, cX4_freeNameFor, 3, (some .int), 4, 0, 1, 23, 0, 0)
set_option maxRecDepth 20000 in
theorem mv_X4_freeNameFor : fw_mv mX4_freeNameFor 1 := ⟨⟨fw_mem 432 rfl rfl, fw_mem 68 (by decide +kernel) rfl, ⟨by decide +kernel, by decide +kernel, by decide +kernel⟩, rfl⟩, ⟨fw_mem 431 (by decide +kernel) rfl, fw_mem 12 (by decide +kernel) rfl⟩, ⟨_, _, _, fw_cls4⟩, by decide⟩
theorem pl_X4_freeNameFor : plainName (fw_mN mX4_freeNameFor).cls = true ∧ (fw_mN mX4_freeNameFor).cls = fw_cn (fw_mO mX4_freeNameFor) := ⟨by decide +kernel, rfl⟩
def mX4_thingNamed : fw_M := (yX4_thingNamed, cX4_thingNamed, 4, (some .int), 4, 0, 0, 0, 0, 0)
set_option maxRecDepth 20000 in
theorem mv_X4_thingNamed : fw_mv mX4_thingNamed 2 := ⟨⟨fw_mem 436 rfl rfl, fw_mem 68 (by decide +kernel) rfl, ⟨by decide +kernel, by decide +kernel, by decide +kernel⟩, rfl⟩, ⟨fw_mem 434 (by decide +kernel) rfl, fw_mem 435 (by decide +kernel) rfl⟩, ⟨_, _, _, fw_cls4⟩, by decide⟩
theorem pl_X4_thingNamed : plainName (fw_mN mX4_thingNamed).cls = true ∧ (fw_mN mX4_thingNamed).cls = fw_cn (fw_mO mX4_thingNamed) := ⟨by decide +kernel, rfl⟩
def mX4_isThere : fw_M := (yX4_isThere, cX4_isThere, 2, (some .boolean), 4, 0, 0, 0, 0, 0)
set_option maxRecDepth 20000 in
theorem mv_X4_isThere : fw_mv mX4_isThere 1 := ⟨⟨fw_mem 489 rfl rfl, fw_mem 68 (by decide +kernel) rfl, ⟨by decide +kernel, by decide +kernel, by decide +kernel⟩, rfl⟩, ⟨fw_mem 487 (by decide +kernel) rfl, fw_mem 488 (by decide +kernel) rfl⟩, ⟨_, _, _, fw_cls4⟩, by decide⟩
theorem pl_X4_isThere : plainName (fw_mN mX4_isThere).cls = true ∧ (fw_mN mX4_isThere).cls = fw_cn (fw_mO mX4_isThere) := ⟨by decide +kernel, rfl⟩
def mX4_isFile : fw_M := (yX4_isFile, cX4_isFile, 2, (some .boolean), 4, 0, 0, 0, 0, 0)
set_option maxRecDepth 20000 in
theorem mv_X4_isFile : fw_mv mX4_isFile 1 := ⟨⟨fw_mem 497 rfl rfl, fw_mem 68 (by decide +kernel) rfl, ⟨by decide +kernel, by decide +kernel, by decide +kernel⟩, rfl⟩, ⟨fw_mem 495 (by decide +kernel) rfl, fw_mem 496 (by decide +kernel) rfl⟩, ⟨_, _, _, fw_cls4⟩, by decide⟩
theorem pl_X4_isFile : plainName (fw_mN mX4_isFile).cls = true ∧ (fw_mN mX4_isFile).cls = fw_cn (fw_mO mX4_isFile) := ⟨by decide +kernel, rfl⟩
def mX4_isFolder : fw_M := (yX4_isFolder, cX4_isFolder, 2, (some .boolean), 4, 0, 0, 0, 0, 0)
set_option maxRecDepth 20000 in
theorem mv_X4_isFolder : fw_mv mX4_isFolder 1 := ⟨⟨fw_mem 384 rfl rfl, fw_mem 68 (by decide +kernel) rfl, ⟨by decide +kernel, by decide +kernel, by decide +kernel⟩, rfl⟩, ⟨fw_mem 382 (by decide +kernel) rfl, fw_mem 383 (by decide +kernel) rfl⟩, ⟨_, _, _, fw_cls4⟩, by decide⟩
theorem pl_X4_isFolder : plainName (fw_mN mX4_isFolder).cls = true ∧ (fw_mN mX4_isFolder).cls = fw_cn (fw_mO mX4_isFolder) := ⟨by decide +kernel, rfl⟩
def mX4_mayMove : fw_M := (yX4_mayMove, cX4_mayMove, 3, (some .boolean), 4, 0, 1, 24, 0, 0)
set_option maxRecDepth 20000 in
theorem mv_X4_mayMove : fw_mv mX4_mayMove 2 := ⟨⟨fw_mem 392 rfl rfl, fw_mem 68 (by decide +kernel) rfl, ⟨by decide +kernel, by decide +kernel, by decide +kernel⟩, rfl⟩, ⟨fw_mem 390 (by decide +kernel) rfl, fw_mem 391 (by decide +kernel) rfl⟩, ⟨_, _, _, fw_cls4⟩, by decide⟩
theorem pl_X4_mayMove : plainName (fw_mN mX4_mayMove).cls = true ∧ (fw_mN mX4_mayMove).cls = fw_cn (fw_mO mX4_mayMove) := ⟨by decide +kernel, rfl⟩
def mX4_isWithin : fw_M := (yX4_isWithin, cX4_isWithin, 5, (some .boolean), 4, 0, 0, 0, 0, 0)
set_option maxRecDepth 20000 in
theorem mv_X4_isWithin : fw_mv mX4_isWithin 2 := ⟨⟨fw_mem 396 rfl rfl, fw_mem 68 (by decide +kernel) rfl, ⟨by decide +kernel, by decide +kernel, by decide +kernel⟩, rfl⟩, ⟨fw_mem 394 (by decide +kernel) rfl, fw_mem 395 (by decide +kernel) rfl⟩, ⟨_, _, _, fw_cls4⟩, by decide⟩
theorem pl_X4_isWithin : plainName (fw_mN mX4_isWithin).cls = true ∧ (fw_mN mX4_isWithin).cls = fw_cn (fw_mO mX4_isWithin) := ⟨by decide +kernel, rfl⟩
def mX4_rowOf : fw_M := (yX4_rowOf, cX4_rowOf, 3, (some (.object "FolderRows$Change")), 4, 0, 0, 0, 0, 0)
set_option maxRecDepth 20000 in
theorem mv_X4_rowOf : fw_mv mX4_rowOf 2 := ⟨⟨fw_mem 412 rfl rfl, fw_mem 68 (by decide +kernel) rfl, ⟨by decide +kernel, by decide +kernel, by decide +kernel⟩, rfl⟩, ⟨fw_mem 410 (by decide +kernel) rfl, fw_mem 411 (by decide +kernel) rfl⟩, ⟨_, _, _, fw_cls4⟩, by decide⟩
theorem pl_X4_rowOf : plainName (fw_mN mX4_rowOf).cls = true ∧ (fw_mN mX4_rowOf).cls = fw_cn (fw_mO mX4_rowOf) := ⟨by decide +kernel, rfl⟩
def mX4_childCount : fw_M := (yX4_childCount, cX4_childCount, 4, (some .int), 4, 0, 0, 0, 0, 0)
set_option maxRecDepth 20000 in
theorem mv_X4_childCount : fw_mv mX4_childCount 1 := ⟨⟨fw_mem 590 rfl rfl, fw_mem 68 (by decide +kernel) rfl, ⟨by decide +kernel, by decide +kernel, by decide +kernel⟩, rfl⟩, ⟨fw_mem 588 (by decide +kernel) rfl, fw_mem 589 (by decide +kernel) rfl⟩, ⟨_, _, _, fw_cls4⟩, by decide⟩
theorem pl_X4_childCount : plainName (fw_mN mX4_childCount).cls = true ∧ (fw_mN mX4_childCount).cls = fw_cn (fw_mO mX4_childCount) := ⟨by decide +kernel, rfl⟩
def mX4_byteCount : fw_M := (yX4_byteCount, cX4_byteCount, 4, (some .int), 4, 0, 1, 22, 0, 0)
set_option maxRecDepth 20000 in
theorem mv_X4_byteCount : fw_mv mX4_byteCount 1 := ⟨⟨fw_mem 581 rfl rfl, fw_mem 68 (by decide +kernel) rfl, ⟨by decide +kernel, by decide +kernel, by decide +kernel⟩, rfl⟩, ⟨fw_mem 579 (by decide +kernel) rfl, fw_mem 580 (by decide +kernel) rfl⟩, ⟨_, _, _, fw_cls4⟩, by decide⟩
theorem pl_X4_byteCount : plainName (fw_mN mX4_byteCount).cls = true ∧ (fw_mN mX4_byteCount).cls = fw_cn (fw_mO mX4_byteCount) := ⟨by decide +kernel, rfl⟩
def mX4_byteTotal : fw_M := (yX4_byteTotal, cX4_byteTotal, 6, (some .int), 4, 0, 1, 23, 0, 0)
set_option maxRecDepth 20000 in
theorem mv_X4_byteTotal : fw_mv mX4_byteTotal 1 := ⟨⟨fw_mem 622 rfl rfl, fw_mem 68 (by decide +kernel) rfl, ⟨by decide +kernel, by decide +kernel, by decide +kernel⟩, rfl⟩, ⟨fw_mem 620 (by decide +kernel) rfl, fw_mem 621 (by decide +kernel) rfl⟩, ⟨_, _, _, fw_cls4⟩, by decide⟩
theorem pl_X4_byteTotal : plainName (fw_mN mX4_byteTotal).cls = true ∧ (fw_mN mX4_byteTotal).cls = fw_cn (fw_mO mX4_byteTotal) := ⟨by decide +kernel, rfl⟩
def mX5_init : fw_M := (yX5_init, cX5_init, 2, none, 5, 0, 3, 61, 202, 4643)
set_option maxRecDepth 20000 in
theorem mv_X5_init : fw_mw mX5_init 0 ∧ ((fw_mN mX5_init).name = "<init>" ∧ fw_mT mX5_init = none ∧ Cond.instanceMethod (fw_mN mX5_init) ∈ fw_tbl) := ⟨⟨fw_mem 78 rfl rfl, fw_mem 65 (by decide +kernel) rfl, ⟨by decide +kernel, by decide +kernel, by decide +kernel⟩, rfl⟩, rfl, rfl, fw_mem 77 (by decide +kernel) rfl⟩
theorem pl_X5_init : plainName (fw_mN mX5_init).cls = true ∧ (fw_mN mX5_init).cls = fw_cn (fw_mO mX5_init) := ⟨by decide +kernel, rfl⟩
def mX5_machines : fw_M := (yX5_machines, cX5_machines, 3, (some .int), 5, 0, 2, 43, 0, 0)
set_option maxRecDepth 20000 in
theorem mv_X5_machines : fw_mv mX5_machines 1 := ⟨⟨fw_mem 323 rfl rfl, fw_mem 65 (by decide +kernel) rfl, ⟨by decide +kernel, by decide +kernel, by decide +kernel⟩, rfl⟩, ⟨fw_mem 321 (by decide +kernel) rfl, fw_mem 322 (by decide +kernel) rfl⟩, ⟨_, _, _, fw_cls5⟩, by decide⟩
theorem pl_X5_machines : plainName (fw_mN mX5_machines).cls = true ∧ (fw_mN mX5_machines).cls = fw_cn (fw_mO mX5_machines) := ⟨by decide +kernel, rfl⟩
def mX5_rules : fw_M := (yX5_rules, cX5_rules, 3, (some .int), 5, 0, 0, 0, 0, 0)
set_option maxRecDepth 20000 in
theorem mv_X5_rules : fw_mv mX5_rules 1 := ⟨⟨fw_mem 327 rfl rfl, fw_mem 65 (by decide +kernel) rfl, ⟨by decide +kernel, by decide +kernel, by decide +kernel⟩, rfl⟩, ⟨fw_mem 325 (by decide +kernel) rfl, fw_mem 326 (by decide +kernel) rfl⟩, ⟨_, _, _, fw_cls5⟩, by decide⟩
theorem pl_X5_rules : plainName (fw_mN mX5_rules).cls = true ∧ (fw_mN mX5_rules).cls = fw_cn (fw_mO mX5_rules) := ⟨by decide +kernel, rfl⟩
def mX5_make : fw_M := (yX5_make, cX5_make, 7, (some .int), 5, 0, 6, 139, 0, 0)
set_option maxRecDepth 20000 in
theorem mv_X5_make : fw_mv mX5_make 4 := ⟨⟨fw_mem 331 rfl rfl, fw_mem 65 (by decide +kernel) rfl, ⟨by decide +kernel, by decide +kernel, by decide +kernel⟩, rfl⟩, ⟨fw_mem 329 (by decide +kernel) rfl, fw_mem 330 (by decide +kernel) rfl⟩, ⟨_, _, _, fw_cls5⟩, by decide⟩
theorem pl_X5_make : plainName (fw_mN mX5_make).cls = true ∧ (fw_mN mX5_make).cls = fw_cn (fw_mO mX5_make) := ⟨by decide +kernel, rfl⟩
def mX5_move : fw_M := (yX5_move, cX5_move, 6, (some .int), 5, 0, 6, 139, 0, 0)
set_option maxRecDepth 20000 in
theorem mv_X5_move : fw_mv mX5_move 4 := ⟨⟨fw_mem 480 rfl rfl, fw_mem 65 (by decide +kernel) rfl, ⟨by decide +kernel, by decide +kernel, by decide +kernel⟩, rfl⟩, ⟨fw_mem 478 (by decide +kernel) rfl, fw_mem 479 (by decide +kernel) rfl⟩, ⟨_, _, _, fw_cls5⟩, by decide⟩
theorem pl_X5_move : plainName (fw_mN mX5_move).cls = true ∧ (fw_mN mX5_move).cls = fw_cn (fw_mO mX5_move) := ⟨by decide +kernel, rfl⟩
def mX5_gone : fw_M := (yX5_gone, cX5_gone, 3, (some .int), 5, 0, 6, 139, 0, 0)
set_option maxRecDepth 20000 in
theorem mv_X5_gone : fw_mv mX5_gone 2 := ⟨⟨fw_mem 485 rfl rfl, fw_mem 65 (by decide +kernel) rfl, ⟨by decide +kernel, by decide +kernel, by decide +kernel⟩, rfl⟩, ⟨fw_mem 483 (by decide +kernel) rfl, fw_mem 484 (by decide +kernel) rfl⟩, ⟨_, _, _, fw_cls5⟩, by decide⟩
theorem pl_X5_gone : plainName (fw_mN mX5_gone).cls = true ∧ (fw_mN mX5_gone).cls = fw_cn (fw_mO mX5_gone) := ⟨by decide +kernel, rfl⟩
def mX5_write : fw_M := (yX5_write, cX5_write, 7, (some .int), 5, 0, 6, 139, 0, 0)
set_option maxRecDepth 20000 in
theorem mv_X5_write : fw_mv mX5_write 4 := ⟨⟨fw_mem 493 rfl rfl, fw_mem 65 (by decide +kernel) rfl, ⟨by decide +kernel, by decide +kernel, by decide +kernel⟩, rfl⟩, ⟨fw_mem 491 (by decide +kernel) rfl, fw_mem 492 (by decide +kernel) rfl⟩, ⟨_, _, _, fw_cls5⟩, by decide⟩
theorem pl_X5_write : plainName (fw_mN mX5_write).cls = true ∧ (fw_mN mX5_write).cls = fw_cn (fw_mO mX5_write) := ⟨by decide +kernel, rfl⟩
def mX5_send : fw_M := (yX5_send, cX5_send, 3, (some .int), 5, 0, 4, 94, 0, 0)
set_option maxRecDepth 20000 in
theorem mv_X5_send : fw_mv mX5_send 2 := ⟨⟨fw_mem 532 rfl rfl, fw_mem 65 (by decide +kernel) rfl, ⟨by decide +kernel, by decide +kernel, by decide +kernel⟩, rfl⟩, ⟨fw_mem 530 (by decide +kernel) rfl, fw_mem 531 (by decide +kernel) rfl⟩, ⟨_, _, _, fw_cls5⟩, by decide⟩
theorem pl_X5_send : plainName (fw_mN mX5_send).cls = true ∧ (fw_mN mX5_send).cls = fw_cn (fw_mO mX5_send) := ⟨by decide +kernel, rfl⟩
def mX5_sendSome : fw_M := (yX5_sendSome, cX5_sendSome, 4, (some .int), 5, 0, 4, 94, 0, 0)
set_option maxRecDepth 20000 in
theorem mv_X5_sendSome : fw_mv mX5_sendSome 3 := ⟨⟨fw_mem 540 rfl rfl, fw_mem 65 (by decide +kernel) rfl, ⟨by decide +kernel, by decide +kernel, by decide +kernel⟩, rfl⟩, ⟨fw_mem 538 (by decide +kernel) rfl, fw_mem 539 (by decide +kernel) rfl⟩, ⟨_, _, _, fw_cls5⟩, by decide⟩
theorem pl_X5_sendSome : plainName (fw_mN mX5_sendSome).cls = true ∧ (fw_mN mX5_sendSome).cls = fw_cn (fw_mO mX5_sendSome) := ⟨by decide +kernel, rfl⟩
def mX5_change : fw_M := (yX5_change, cX5_change, 5, (some .int), 5, 0, 1, 22, 0, 0)
set_option maxRecDepth 20000 in
theorem mv_X5_change : fw_mv mX5_change 3 := ⟨⟨fw_mem 544 rfl rfl, fw_mem 65 (by decide +kernel) rfl, ⟨by decide +kernel, by decide +kernel, by decide +kernel⟩, rfl⟩, ⟨fw_mem 542 (by decide +kernel) rfl, fw_mem 543 (by decide +kernel) rfl⟩, ⟨_, _, _, fw_cls5⟩, by decide⟩
theorem pl_X5_change : plainName (fw_mN mX5_change).cls = true ∧ (fw_mN mX5_change).cls = fw_cn (fw_mO mX5_change) := ⟨by decide +kernel, rfl⟩
def mX5_thing : fw_M := (yX5_thing, cX5_thing, 5, (some .int), 5, 0, 5, 118, 0, 0)
set_option maxRecDepth 20000 in
theorem mv_X5_thing : fw_mv mX5_thing 4 := ⟨⟨fw_mem 554 rfl rfl, fw_mem 65 (by decide +kernel) rfl, ⟨by decide +kernel, by decide +kernel, by decide +kernel⟩, rfl⟩, ⟨fw_mem 552 (by decide +kernel) rfl, fw_mem 553 (by decide +kernel) rfl⟩, ⟨_, _, _, fw_cls5⟩, by decide⟩
theorem pl_X5_thing : plainName (fw_mN mX5_thing).cls = true ∧ (fw_mN mX5_thing).cls = fw_cn (fw_mO mX5_thing) := ⟨by decide +kernel, rfl⟩
def mX5_bytes : fw_M := (yX5_bytes, cX5_bytes, 6, (some .int), 5, 0, 6, 139, 0, 0)
set_option maxRecDepth 20000 in
theorem mv_X5_bytes : fw_mv mX5_bytes 4 := ⟨⟨fw_mem 562 rfl rfl, fw_mem 65 (by decide +kernel) rfl, ⟨by decide +kernel, by decide +kernel, by decide +kernel⟩, rfl⟩, ⟨fw_mem 560 (by decide +kernel) rfl, fw_mem 561 (by decide +kernel) rfl⟩, ⟨_, _, _, fw_cls5⟩, by decide⟩
theorem pl_X5_bytes : plainName (fw_mN mX5_bytes).cls = true ∧ (fw_mN mX5_bytes).cls = fw_cn (fw_mO mX5_bytes) := ⟨by decide +kernel, rfl⟩
def mX5_bulk : fw_M := (yX5_bulk, cX5_bulk, 4, (some .int), 5, 0, 6, 139, 0, 0)
set_option maxRecDepth 20000 in
theorem mv_X5_bulk : fw_mv mX5_bulk 3 := ⟨⟨fw_mem 568 rfl rfl, fw_mem 65 (by decide +kernel) rfl, ⟨by decide +kernel, by decide +kernel, by decide +kernel⟩, rfl⟩, ⟨fw_mem 566 (by decide +kernel) rfl, fw_mem 567 (by decide +kernel) rfl⟩, ⟨_, _, _, fw_cls5⟩, by decide⟩
theorem pl_X5_bulk : plainName (fw_mN mX5_bulk).cls = true ∧ (fw_mN mX5_bulk).cls = fw_cn (fw_mO mX5_bulk) := ⟨by decide +kernel, rfl⟩
def mX5_things : fw_M := (yX5_things, cX5_things, 5, (some .int), 5, 0, 5, 118, 0, 0)
set_option maxRecDepth 20000 in
theorem mv_X5_things : fw_mv mX5_things 2 := ⟨⟨fw_mem 609 rfl rfl, fw_mem 65 (by decide +kernel) rfl, ⟨by decide +kernel, by decide +kernel, by decide +kernel⟩, rfl⟩, ⟨fw_mem 607 (by decide +kernel) rfl, fw_mem 608 (by decide +kernel) rfl⟩, ⟨_, _, _, fw_cls5⟩, by decide⟩
theorem pl_X5_things : plainName (fw_mN mX5_things).cls = true ∧ (fw_mN mX5_things).cls = fw_cn (fw_mO mX5_things) := ⟨by decide +kernel, rfl⟩
def mX5_find : fw_M := (yX5_find, cX5_find, 4, (some .int), 5, 0, 6, 139, 0, 0)
set_option maxRecDepth 20000 in
theorem mv_X5_find : fw_mv mX5_find 3 := ⟨⟨fw_mem 613 rfl rfl, fw_mem 65 (by decide +kernel) rfl, ⟨by decide +kernel, by decide +kernel, by decide +kernel⟩, rfl⟩, ⟨fw_mem 611 (by decide +kernel) rfl, fw_mem 612 (by decide +kernel) rfl⟩, ⟨_, _, _, fw_cls5⟩, by decide⟩
theorem pl_X5_find : plainName (fw_mN mX5_find).cls = true ∧ (fw_mN mX5_find).cls = fw_cn (fw_mO mX5_find) := ⟨by decide +kernel, rfl⟩
def mX5_sum : fw_M := (yX5_sum, cX5_sum, 6, (some .int), 5, 0, 5, 118, 0, 0)
set_option maxRecDepth 20000 in
theorem mv_X5_sum : fw_mv mX5_sum 2 := ⟨⟨fw_mem 618 rfl rfl, fw_mem 65 (by decide +kernel) rfl, ⟨by decide +kernel, by decide +kernel, by decide +kernel⟩, rfl⟩, ⟨fw_mem 616 (by decide +kernel) rfl, fw_mem 617 (by decide +kernel) rfl⟩, ⟨_, _, _, fw_cls5⟩, by decide⟩
theorem pl_X5_sum : plainName (fw_mN mX5_sum).cls = true ∧ (fw_mN mX5_sum).cls = fw_cn (fw_mO mX5_sum) := ⟨by decide +kernel, rfl⟩
def mX5_differ : fw_M := (yX5_differ, cX5_differ, 5, (some .int), 5, 0, 2, 45, 0, 0)
set_option maxRecDepth 20000 in
theorem mv_X5_differ : fw_mv mX5_differ 2 := ⟨⟨fw_mem 628 rfl rfl, fw_mem 65 (by decide +kernel) rfl, ⟨by decide +kernel, by decide +kernel, by decide +kernel⟩, rfl⟩, ⟨fw_mem 626 (by decide +kernel) rfl, fw_mem 627 (by decide +kernel) rfl⟩, ⟨_, _, _, fw_cls5⟩, by decide⟩
theorem pl_X5_differ : plainName (fw_mN mX5_differ).cls = true ∧ (fw_mN mX5_differ).cls = fw_cn (fw_mO mX5_differ) := ⟨by decide +kernel, rfl⟩
def mX5_apart : fw_M := (yX5_apart, cX5_apart, 3, (some .int), 5, 0, 3, 67, 0, 0)
set_option maxRecDepth 20000 in
theorem mv_X5_apart : fw_mv mX5_apart 2 := ⟨⟨fw_mem 636 rfl rfl, fw_mem 65 (by decide +kernel) rfl, ⟨by decide +kernel, by decide +kernel, by decide +kernel⟩, rfl⟩, ⟨fw_mem 634 (by decide +kernel) rfl, fw_mem 635 (by decide +kernel) rfl⟩, ⟨_, _, _, fw_cls5⟩, by decide⟩
theorem pl_X5_apart : plainName (fw_mN mX5_apart).cls = true ∧ (fw_mN mX5_apart).cls = fw_cn (fw_mO mX5_apart) := ⟨by decide +kernel, rfl⟩
def mX5_let : fw_M := (yX5_let, cX5_let, 2, (some .int), 5, 0, 3, 67, 0, 0)
set_option maxRecDepth 20000 in
theorem mv_X5_let : fw_mv mX5_let 1 := ⟨⟨fw_mem 644 rfl rfl, fw_mem 65 (by decide +kernel) rfl, ⟨by decide +kernel, by decide +kernel, by decide +kernel⟩, rfl⟩, ⟨fw_mem 642 (by decide +kernel) rfl, fw_mem 643 (by decide +kernel) rfl⟩, ⟨_, _, _, fw_cls5⟩, by decide⟩
theorem pl_X5_let : plainName (fw_mN mX5_let).cls = true ∧ (fw_mN mX5_let).cls = fw_cn (fw_mO mX5_let) := ⟨by decide +kernel, rfl⟩
def mX5_taken : fw_M := (yX5_taken, cX5_taken, 4, (some .int), 5, 0, 2, 45, 0, 0)
set_option maxRecDepth 20000 in
theorem mv_X5_taken : fw_mv mX5_taken 1 := ⟨⟨fw_mem 648 rfl rfl, fw_mem 65 (by decide +kernel) rfl, ⟨by decide +kernel, by decide +kernel, by decide +kernel⟩, rfl⟩, ⟨fw_mem 646 (by decide +kernel) rfl, fw_mem 647 (by decide +kernel) rfl⟩, ⟨_, _, _, fw_cls5⟩, by decide⟩
theorem pl_X5_taken : plainName (fw_mN mX5_taken).cls = true ∧ (fw_mN mX5_taken).cls = fw_cn (fw_mO mX5_taken) := ⟨by decide +kernel, rfl⟩
def mX5_room : fw_M := (yX5_room, cX5_room, 4, (some .int), 5, 0, 1, 21, 0, 0)
set_option maxRecDepth 20000 in
theorem mv_X5_room : fw_mv mX5_room 2 := ⟨⟨fw_mem 653 rfl rfl, fw_mem 65 (by decide +kernel) rfl, ⟨by decide +kernel, by decide +kernel, by decide +kernel⟩, rfl⟩, ⟨fw_mem 651 (by decide +kernel) rfl, fw_mem 652 (by decide +kernel) rfl⟩, ⟨_, _, _, fw_cls5⟩, by decide⟩
theorem pl_X5_room : plainName (fw_mN mX5_room).cls = true ∧ (fw_mN mX5_room).cls = fw_cn (fw_mO mX5_room) := ⟨by decide +kernel, rfl⟩
def mX5_pieces : fw_M := (yX5_pieces, cX5_pieces, 4, (some .int), 5, 0, 6, 143, 0, 0)
set_option maxRecDepth 20000 in
theorem mv_X5_pieces : fw_mv mX5_pieces 3 := ⟨⟨fw_mem 657 rfl rfl, fw_mem 65 (by decide +kernel) rfl, ⟨by decide +kernel, by decide +kernel, by decide +kernel⟩, rfl⟩, ⟨fw_mem 655 (by decide +kernel) rfl, fw_mem 656 (by decide +kernel) rfl⟩, ⟨_, _, _, fw_cls5⟩, by decide⟩
theorem pl_X5_pieces : plainName (fw_mN mX5_pieces).cls = true ∧ (fw_mN mX5_pieces).cls = fw_cn (fw_mO mX5_pieces) := ⟨by decide +kernel, rfl⟩
def mX5_fetch : fw_M := (yX5_fetch, cX5_fetch, 3, (some .int), 5, 0, 6, 143, 0, 0)
set_option maxRecDepth 20000 in
theorem mv_X5_fetch : fw_mv mX5_fetch 2 := ⟨⟨fw_mem 677 rfl rfl, fw_mem 65 (by decide +kernel) rfl, ⟨by decide +kernel, by decide +kernel, by decide +kernel⟩, rfl⟩, ⟨fw_mem 675 (by decide +kernel) rfl, fw_mem 676 (by decide +kernel) rfl⟩, ⟨_, _, _, fw_cls5⟩, by decide⟩
theorem pl_X5_fetch : plainName (fw_mN mX5_fetch).cls = true ∧ (fw_mN mX5_fetch).cls = fw_cn (fw_mO mX5_fetch) := ⟨by decide +kernel, rfl⟩
def mX5_away : fw_M := (yX5_away, cX5_away, 3, (some .int), 5, 0, 6, 144, 0, 0)
set_option maxRecDepth 20000 in
theorem mv_X5_away : fw_mv mX5_away 2 := ⟨⟨fw_mem 686 rfl rfl, fw_mem 65 (by decide +kernel) rfl, ⟨by decide +kernel, by decide +kernel, by decide +kernel⟩, rfl⟩, ⟨fw_mem 684 (by decide +kernel) rfl, fw_mem 685 (by decide +kernel) rfl⟩, ⟨_, _, _, fw_cls5⟩, by decide⟩
theorem pl_X5_away : plainName (fw_mN mX5_away).cls = true ∧ (fw_mN mX5_away).cls = fw_cn (fw_mO mX5_away) := ⟨by decide +kernel, rfl⟩
def mX5_night : fw_M := (yX5_night, cX5_night, 1, (some .int), 5, 0, 2, 61, 0, 0)
set_option maxRecDepth 20000 in
theorem mv_X5_night : fw_mv mX5_night 0 := ⟨⟨fw_mem 698 rfl rfl, fw_mem 65 (by decide +kernel) rfl, ⟨by decide +kernel, by decide +kernel, by decide +kernel⟩, rfl⟩, ⟨fw_mem 696 (by decide +kernel) rfl, fw_mem 697 (by decide +kernel) rfl⟩, ⟨_, _, _, fw_cls5⟩, by decide⟩
theorem pl_X5_night : plainName (fw_mN mX5_night).cls = true ∧ (fw_mN mX5_night).cls = fw_cn (fw_mO mX5_night) := ⟨by decide +kernel, rfl⟩
def mX5_share : fw_M := (yX5_share, cX5_share, 3, (some .int), 5, 0, 1, 23, 0, 0)
set_option maxRecDepth 20000 in
theorem mv_X5_share : fw_mv mX5_share 2 := ⟨⟨fw_mem 709 rfl rfl, fw_mem 65 (by decide +kernel) rfl, ⟨by decide +kernel, by decide +kernel, by decide +kernel⟩, rfl⟩, ⟨fw_mem 707 (by decide +kernel) rfl, fw_mem 708 (by decide +kernel) rfl⟩, ⟨_, _, _, fw_cls5⟩, by decide⟩
theorem pl_X5_share : plainName (fw_mN mX5_share).cls = true ∧ (fw_mN mX5_share).cls = fw_cn (fw_mO mX5_share) := ⟨by decide +kernel, rfl⟩
def mX5_take : fw_M := (yX5_take, cX5_take, 2, (some .int), 5, 0, 0, 0, 0, 0)
set_option maxRecDepth 20000 in
theorem mv_X5_take : fw_mv mX5_take 1 := ⟨⟨fw_mem 720 rfl rfl, fw_mem 65 (by decide +kernel) rfl, ⟨by decide +kernel, by decide +kernel, by decide +kernel⟩, rfl⟩, ⟨fw_mem 718 (by decide +kernel) rfl, fw_mem 719 (by decide +kernel) rfl⟩, ⟨_, _, _, fw_cls5⟩, by decide⟩
theorem pl_X5_take : plainName (fw_mN mX5_take).cls = true ∧ (fw_mN mX5_take).cls = fw_cn (fw_mO mX5_take) := ⟨by decide +kernel, rfl⟩
def mX5_could : fw_M := (yX5_could, cX5_could, 6, (some .int), 5, 0, 5, 118, 0, 0)
set_option maxRecDepth 20000 in
theorem mv_X5_could : fw_mv mX5_could 4 := ⟨⟨fw_mem 724 rfl rfl, fw_mem 65 (by decide +kernel) rfl, ⟨by decide +kernel, by decide +kernel, by decide +kernel⟩, rfl⟩, ⟨fw_mem 722 (by decide +kernel) rfl, fw_mem 723 (by decide +kernel) rfl⟩, ⟨_, _, _, fw_cls5⟩, by decide⟩
theorem pl_X5_could : plainName (fw_mN mX5_could).cls = true ∧ (fw_mN mX5_could).cls = fw_cn (fw_mO mX5_could) := ⟨by decide +kernel, rfl⟩
def mX5_odd : fw_M := (yX5_odd, cX5_odd, 6, (some .long), 5, 0, 2, 49, 0, 0)
set_option maxRecDepth 20000 in
theorem mv_X5_odd : fw_mv mX5_odd 3 := ⟨⟨fw_mem 733 rfl rfl, fw_mem 65 (by decide +kernel) rfl, ⟨by decide +kernel, by decide +kernel, by decide +kernel⟩, rfl⟩, ⟨fw_mem 731 (by decide +kernel) rfl, fw_mem 732 (by decide +kernel) rfl⟩, ⟨_, _, _, fw_cls5⟩, by decide⟩
theorem pl_X5_odd : plainName (fw_mN mX5_odd).cls = true ∧ (fw_mN mX5_odd).cls = fw_cn (fw_mO mX5_odd) := ⟨by decide +kernel, rfl⟩
def mX5_count : fw_M := (yX5_count, cX5_count, 2, (some .int), 5, 0, 2, 43, 0, 0)
set_option maxRecDepth 20000 in
theorem mv_X5_count : fw_mv mX5_count 1 := ⟨⟨fw_mem 752 rfl rfl, fw_mem 65 (by decide +kernel) rfl, ⟨by decide +kernel, by decide +kernel, by decide +kernel⟩, rfl⟩, ⟨fw_mem 750 (by decide +kernel) rfl, fw_mem 751 (by decide +kernel) rfl⟩, ⟨_, _, _, fw_cls5⟩, by decide⟩
theorem pl_X5_count : plainName (fw_mN mX5_count).cls = true ∧ (fw_mN mX5_count).cls = fw_cn (fw_mO mX5_count) := ⟨by decide +kernel, rfl⟩
def mX5_trace : fw_M := (yX5_trace, cX5_trace, 1, (some .long), 5, 0, 0, 0, 0, 0)
set_option maxRecDepth 20000 in
theorem mv_X5_trace : fw_mv mX5_trace 0 := ⟨⟨fw_mem 764 rfl rfl, fw_mem 65 (by decide +kernel) rfl, ⟨by decide +kernel, by decide +kernel, by decide +kernel⟩, rfl⟩, ⟨fw_mem 762 (by decide +kernel) rfl, fw_mem 763 (by decide +kernel) rfl⟩, ⟨_, _, _, fw_cls5⟩, by decide⟩
theorem pl_X5_trace : plainName (fw_mN mX5_trace).cls = true ∧ (fw_mN mX5_trace).cls = fw_cn (fw_mO mX5_trace) := ⟨by decide +kernel, rfl⟩
def mX5_beginAnew : fw_M := (yX5_beginAnew, cX5_beginAnew, 3, none, 5, 0, 1, 21, 0, 0)
set_option maxRecDepth 20000 in
theorem mv_X5_beginAnew : fw_mv mX5_beginAnew 1 := ⟨⟨fw_mem 280 rfl rfl, fw_mem 65 (by decide +kernel) rfl, ⟨by decide +kernel, by decide +kernel, by decide +kernel⟩, rfl⟩, ⟨fw_mem 279 (by decide +kernel) rfl, fw_mem 0 (by decide +kernel) rfl⟩, ⟨_, _, _, fw_cls5⟩, by decide⟩
theorem pl_X5_beginAnew : plainName (fw_mN mX5_beginAnew).cls = true ∧ (fw_mN mX5_beginAnew).cls = fw_cn (fw_mO mX5_beginAnew) := ⟨by decide +kernel, rfl⟩
def mX5_isMachine : fw_M := (yX5_isMachine, cX5_isMachine, 2, (some .boolean), 5, 0, 0, 0, 0, 0)
set_option maxRecDepth 20000 in
theorem mv_X5_isMachine : fw_mv mX5_isMachine 1 := ⟨⟨fw_mem 335 rfl rfl, fw_mem 65 (by decide +kernel) rfl, ⟨by decide +kernel, by decide +kernel, by decide +kernel⟩, rfl⟩, ⟨fw_mem 334 (by decide +kernel) rfl, fw_mem 1 (by decide +kernel) rfl⟩, ⟨_, _, _, fw_cls5⟩, by decide⟩
theorem pl_X5_isMachine : plainName (fw_mN mX5_isMachine).cls = true ∧ (fw_mN mX5_isMachine).cls = fw_cn (fw_mO mX5_isMachine) := ⟨by decide +kernel, rfl⟩
def mX5_isThing : fw_M := (yX5_isThing, cX5_isThing, 1, (some .boolean), 5, 0, 0, 0, 0, 0)
set_option maxRecDepth 20000 in
theorem mv_X5_isThing : fw_mt mX5_isThing 1 := ⟨⟨fw_mem 338 rfl rfl, fw_mem 65 (by decide +kernel) rfl, ⟨by decide +kernel, by decide +kernel, by decide +kernel⟩, rfl⟩, fw_mem 337 (by decide +kernel) rfl⟩
theorem pl_X5_isThing : plainName (fw_mN mX5_isThing).cls = true ∧ (fw_mN mX5_isThing).cls = fw_cn (fw_mO mX5_isThing) := ⟨by decide +kernel, rfl⟩
def mX5_isOwnName : fw_M := (yX5_isOwnName, cX5_isOwnName, 1, (some .boolean), 5, 0, 0, 0, 0, 0)
set_option maxRecDepth 20000 in
theorem mv_X5_isOwnName : fw_mt mX5_isOwnName 1 := ⟨⟨fw_mem 341 rfl rfl, fw_mem 65 (by decide +kernel) rfl, ⟨by decide +kernel, by decide +kernel, by decide +kernel⟩, rfl⟩, fw_mem 340 (by decide +kernel) rfl⟩
theorem pl_X5_isOwnName : plainName (fw_mN mX5_isOwnName).cls = true ∧ (fw_mN mX5_isOwnName).cls = fw_cn (fw_mO mX5_isOwnName) := ⟨by decide +kernel, rfl⟩
def mX5_isPerson : fw_M := (yX5_isPerson, cX5_isPerson, 1, (some .boolean), 5, 0, 0, 0, 0, 0)
set_option maxRecDepth 20000 in
theorem mv_X5_isPerson : fw_mt mX5_isPerson 1 := ⟨⟨fw_mem 712 rfl rfl, fw_mem 65 (by decide +kernel) rfl, ⟨by decide +kernel, by decide +kernel, by decide +kernel⟩, rfl⟩, fw_mem 711 (by decide +kernel) rfl⟩
theorem pl_X5_isPerson : plainName (fw_mN mX5_isPerson).cls = true ∧ (fw_mN mX5_isPerson).cls = fw_cn (fw_mO mX5_isPerson) := ⟨by decide +kernel, rfl⟩
def mX5_isDay : fw_M := (yX5_isDay, cX5_isDay, 2, (some .boolean), 5, 0, 0, 0, 0, 0)
set_option maxRecDepth 20000 in
theorem mv_X5_isDay : fw_mv mX5_isDay 1 := ⟨⟨fw_mem 558 rfl rfl, fw_mem 65 (by decide +kernel) rfl, ⟨by decide +kernel, by decide +kernel, by decide +kernel⟩, rfl⟩, ⟨fw_mem 557 (by decide +kernel) rfl, fw_mem 19 (by decide +kernel) rfl⟩, ⟨_, _, _, fw_cls5⟩, by decide⟩
theorem pl_X5_isDay : plainName (fw_mN mX5_isDay).cls = true ∧ (fw_mN mX5_isDay).cls = fw_cn (fw_mO mX5_isDay) := ⟨by decide +kernel, rfl⟩
def mX5_growNow : fw_M := (yX5_growNow, cX5_growNow, 2, none, 5, 0, 5, 118, 0, 0)
set_option maxRecDepth 20000 in
theorem mv_X5_growNow : fw_mv mX5_growNow 1 := ⟨⟨fw_mem 345 rfl rfl, fw_mem 65 (by decide +kernel) rfl, ⟨by decide +kernel, by decide +kernel, by decide +kernel⟩, rfl⟩, ⟨fw_mem 344 (by decide +kernel) rfl, fw_mem 2 (by decide +kernel) rfl⟩, ⟨_, _, _, fw_cls5⟩, by decide⟩
theorem pl_X5_growNow : plainName (fw_mN mX5_growNow).cls = true ∧ (fw_mN mX5_growNow).cls = fw_cn (fw_mO mX5_growNow) := ⟨by decide +kernel, rfl⟩
def mX5_byteOf : fw_M := (yX5_byteOf, cX5_byteOf, 4, (some .int), 5, 0, 0, 0, 0, 0)
set_option maxRecDepth 20000 in
theorem mv_X5_byteOf : fw_mt mX5_byteOf 3 := ⟨⟨fw_mem 504 rfl rfl, fw_mem 65 (by decide +kernel) rfl, ⟨by decide +kernel, by decide +kernel, by decide +kernel⟩, rfl⟩, fw_mem 503 (by decide +kernel) rfl⟩
theorem pl_X5_byteOf : plainName (fw_mN mX5_byteOf).cls = true ∧ (fw_mN mX5_byteOf).cls = fw_cn (fw_mO mX5_byteOf) := ⟨by decide +kernel, rfl⟩
def mX5_bulkAsThing : fw_M := (yX5_bulkAsThing, cX5_bulkAsThing, 2, (some .int), 5, 0, 0, 0, 0, 0)
set_option maxRecDepth 20000 in
theorem mv_X5_bulkAsThing : fw_mv mX5_bulkAsThing 1 := ⟨⟨fw_mem 577 rfl rfl, fw_mem 65 (by decide +kernel) rfl, ⟨by decide +kernel, by decide +kernel, by decide +kernel⟩, rfl⟩, ⟨fw_mem 576 (by decide +kernel) rfl, fw_mem 21 (by decide +kernel) rfl⟩, ⟨_, _, _, fw_cls5⟩, by decide⟩
theorem pl_X5_bulkAsThing : plainName (fw_mN mX5_bulkAsThing).cls = true ∧ (fw_mN mX5_bulkAsThing).cls = fw_cn (fw_mO mX5_bulkAsThing) := ⟨by decide +kernel, rfl⟩
def mX5_bulkAsFile : fw_M := (yX5_bulkAsFile, cX5_bulkAsFile, 2, (some .int), 5, 0, 2, 45, 0, 0)
set_option maxRecDepth 20000 in
theorem mv_X5_bulkAsFile : fw_mv mX5_bulkAsFile 1 := ⟨⟨fw_mem 572 rfl rfl, fw_mem 65 (by decide +kernel) rfl, ⟨by decide +kernel, by decide +kernel, by decide +kernel⟩, rfl⟩, ⟨fw_mem 571 (by decide +kernel) rfl, fw_mem 20 (by decide +kernel) rfl⟩, ⟨_, _, _, fw_cls5⟩, by decide⟩
theorem pl_X5_bulkAsFile : plainName (fw_mN mX5_bulkAsFile).cls = true ∧ (fw_mN mX5_bulkAsFile).cls = fw_cn (fw_mO mX5_bulkAsFile) := ⟨by decide +kernel, rfl⟩
def mX5_bulkAsFolder : fw_M := (yX5_bulkAsFolder, cX5_bulkAsFolder, 2, (some .int), 5, 0, 1, 23, 0, 0)
set_option maxRecDepth 20000 in
theorem mv_X5_bulkAsFolder : fw_mv mX5_bulkAsFolder 1 := ⟨⟨fw_mem 585 rfl rfl, fw_mem 65 (by decide +kernel) rfl, ⟨by decide +kernel, by decide +kernel, by decide +kernel⟩, rfl⟩, ⟨fw_mem 584 (by decide +kernel) rfl, fw_mem 22 (by decide +kernel) rfl⟩, ⟨_, _, _, fw_cls5⟩, by decide⟩
theorem pl_X5_bulkAsFolder : plainName (fw_mN mX5_bulkAsFolder).cls = true ∧ (fw_mN mX5_bulkAsFolder).cls = fw_cn (fw_mO mX5_bulkAsFolder) := ⟨by decide +kernel, rfl⟩
def mX5_bulkAsLink : fw_M := (yX5_bulkAsLink, cX5_bulkAsLink, 2, (some .int), 5, 0, 1, 21, 0, 0)
set_option maxRecDepth 20000 in
theorem mv_X5_bulkAsLink : fw_mv mX5_bulkAsLink 1 := ⟨⟨fw_mem 594 rfl rfl, fw_mem 65 (by decide +kernel) rfl, ⟨by decide +kernel, by decide +kernel, by decide +kernel⟩, rfl⟩, ⟨fw_mem 593 (by decide +kernel) rfl, fw_mem 23 (by decide +kernel) rfl⟩, ⟨_, _, _, fw_cls5⟩, by decide⟩
theorem pl_X5_bulkAsLink : plainName (fw_mN mX5_bulkAsLink).cls = true ∧ (fw_mN mX5_bulkAsLink).cls = fw_cn (fw_mO mX5_bulkAsLink) := ⟨by decide +kernel, rfl⟩
def mX5_bulkAsHeld : fw_M := (yX5_bulkAsHeld, cX5_bulkAsHeld, 2, (some .int), 5, 0, 3, 66, 0, 0)
set_option maxRecDepth 20000 in
theorem mv_X5_bulkAsHeld : fw_mv mX5_bulkAsHeld 1 := ⟨⟨fw_mem 599 rfl rfl, fw_mem 65 (by decide +kernel) rfl, ⟨by decide +kernel, by decide +kernel, by decide +kernel⟩, rfl⟩, ⟨fw_mem 598 (by decide +kernel) rfl, fw_mem 24 (by decide +kernel) rfl⟩, ⟨_, _, _, fw_cls5⟩, by decide⟩
theorem pl_X5_bulkAsHeld : plainName (fw_mN mX5_bulkAsHeld).cls = true ∧ (fw_mN mX5_bulkAsHeld).cls = fw_cn (fw_mO mX5_bulkAsHeld) := ⟨by decide +kernel, rfl⟩
def mX5_bulkAsClash : fw_M := (yX5_bulkAsClash, cX5_bulkAsClash, 2, (some .int), 5, 0, 3, 66, 0, 0)
set_option maxRecDepth 20000 in
theorem mv_X5_bulkAsClash : fw_mv mX5_bulkAsClash 1 := ⟨⟨fw_mem 604 rfl rfl, fw_mem 65 (by decide +kernel) rfl, ⟨by decide +kernel, by decide +kernel, by decide +kernel⟩, rfl⟩, ⟨fw_mem 603 (by decide +kernel) rfl, fw_mem 25 (by decide +kernel) rfl⟩, ⟨_, _, _, fw_cls5⟩, by decide⟩
theorem pl_X5_bulkAsClash : plainName (fw_mN mX5_bulkAsClash).cls = true ∧ (fw_mN mX5_bulkAsClash).cls = fw_cn (fw_mO mX5_bulkAsClash) := ⟨by decide +kernel, rfl⟩
def mX5_wantPiecesOf : fw_M := (yX5_wantPiecesOf, cX5_wantPiecesOf, 2, none, 5, 0, 5, 122, 0, 0)
set_option maxRecDepth 20000 in
theorem mv_X5_wantPiecesOf : fw_mv mX5_wantPiecesOf 1 := ⟨⟨fw_mem 661 rfl rfl, fw_mem 65 (by decide +kernel) rfl, ⟨by decide +kernel, by decide +kernel, by decide +kernel⟩, rfl⟩, ⟨fw_mem 660 (by decide +kernel) rfl, fw_mem 26 (by decide +kernel) rfl⟩, ⟨_, _, _, fw_cls5⟩, by decide⟩
theorem pl_X5_wantPiecesOf : plainName (fw_mN mX5_wantPiecesOf).cls = true ∧ (fw_mN mX5_wantPiecesOf).cls = fw_cn (fw_mO mX5_wantPiecesOf) := ⟨by decide +kernel, rfl⟩
def mX5_gatherPiecesOfOthers : fw_M := (yX5_gatherPiecesOfOthers, cX5_gatherPiecesOfOthers, 3, none, 5, 0, 5, 122, 0, 0)
set_option maxRecDepth 20000 in
theorem mv_X5_gatherPiecesOfOthers : fw_mv mX5_gatherPiecesOfOthers 1 := ⟨⟨fw_mem 694 rfl rfl, fw_mem 65 (by decide +kernel) rfl, ⟨by decide +kernel, by decide +kernel, by decide +kernel⟩, rfl⟩, ⟨fw_mem 693 (by decide +kernel) rfl, fw_mem 30 (by decide +kernel) rfl⟩, ⟨_, _, _, fw_cls5⟩, by decide⟩
theorem pl_X5_gatherPiecesOfOthers : plainName (fw_mN mX5_gatherPiecesOfOthers).cls = true ∧ (fw_mN mX5_gatherPiecesOfOthers).cls = fw_cn (fw_mO mX5_gatherPiecesOfOthers) := ⟨by decide +kernel, rfl⟩
def mX5_addPiecesOf : fw_M := (yX5_addPiecesOf, cX5_addPiecesOf, 5, none, 5, 0, 4, 98, 0, 0)
set_option maxRecDepth 20000 in
theorem mv_X5_addPiecesOf : fw_mv mX5_addPiecesOf 2 := ⟨⟨fw_mem 665 rfl rfl, fw_mem 65 (by decide +kernel) rfl, ⟨by decide +kernel, by decide +kernel, by decide +kernel⟩, rfl⟩, ⟨fw_mem 664 (by decide +kernel) rfl, fw_mem 27 (by decide +kernel) rfl⟩, ⟨_, _, _, fw_cls5⟩, by decide⟩
theorem pl_X5_addPiecesOf : plainName (fw_mN mX5_addPiecesOf).cls = true ∧ (fw_mN mX5_addPiecesOf).cls = fw_cn (fw_mO mX5_addPiecesOf) := ⟨by decide +kernel, rfl⟩
def mX5_hasRoomForWanted : fw_M := (yX5_hasRoomForWanted, cX5_hasRoomForWanted, 3, (some .boolean), 5, 0, 3, 70, 0, 0)
set_option maxRecDepth 20000 in
theorem mv_X5_hasRoomForWanted : fw_mv mX5_hasRoomForWanted 1 := ⟨⟨fw_mem 520 rfl rfl, fw_mem 65 (by decide +kernel) rfl, ⟨by decide +kernel, by decide +kernel, by decide +kernel⟩, rfl⟩, ⟨fw_mem 519 (by decide +kernel) rfl, fw_mem 18 (by decide +kernel) rfl⟩, ⟨_, _, _, fw_cls5⟩, by decide⟩
theorem pl_X5_hasRoomForWanted : plainName (fw_mN mX5_hasRoomForWanted).cls = true ∧ (fw_mN mX5_hasRoomForWanted).cls = fw_cn (fw_mO mX5_hasRoomForWanted) := ⟨by decide +kernel, rfl⟩
def mX5_othersHaveWanted : fw_M := (yX5_othersHaveWanted, cX5_othersHaveWanted, 5, (some .boolean), 5, 0, 2, 47, 0, 0)
set_option maxRecDepth 20000 in
theorem mv_X5_othersHaveWanted : fw_mv mX5_othersHaveWanted 1 := ⟨⟨fw_mem 681 rfl rfl, fw_mem 65 (by decide +kernel) rfl, ⟨by decide +kernel, by decide +kernel, by decide +kernel⟩, rfl⟩, ⟨fw_mem 680 (by decide +kernel) rfl, fw_mem 29 (by decide +kernel) rfl⟩, ⟨_, _, _, fw_cls5⟩, by decide⟩
theorem pl_X5_othersHaveWanted : plainName (fw_mN mX5_othersHaveWanted).cls = true ∧ (fw_mN mX5_othersHaveWanted).cls = fw_cn (fw_mO mX5_othersHaveWanted) := ⟨by decide +kernel, rfl⟩
def mX5_power : fw_M := (yX5_power, cX5_power, 5, (some .long), 5, 0, 0, 0, 0, 0)
set_option maxRecDepth 20000 in
theorem mv_X5_power : fw_mt mX5_power 2 := ⟨⟨fw_mem 738 rfl rfl, fw_mem 65 (by decide +kernel) rfl, ⟨by decide +kernel, by decide +kernel, by decide +kernel⟩, rfl⟩, fw_mem 737 (by decide +kernel) rfl⟩
theorem pl_X5_power : plainName (fw_mN mX5_power).cls = true ∧ (fw_mN mX5_power).cls = fw_cn (fw_mO mX5_power) := ⟨by decide +kernel, rfl⟩
def mX5_choose : fw_M := (yX5_choose, cX5_choose, 5, (some .long), 5, 0, 0, 0, 0, 0)
set_option maxRecDepth 20000 in
theorem mv_X5_choose : fw_mt mX5_choose 2 := ⟨⟨fw_mem 748 rfl rfl, fw_mem 65 (by decide +kernel) rfl, ⟨by decide +kernel, by decide +kernel, by decide +kernel⟩, rfl⟩, fw_mem 747 (by decide +kernel) rfl⟩
theorem pl_X5_choose : plainName (fw_mN mX5_choose).cls = true ∧ (fw_mN mX5_choose).cls = fw_cn (fw_mO mX5_choose) := ⟨by decide +kernel, rfl⟩
def mX5_waysOfAtLeast : fw_M := (yX5_waysOfAtLeast, cX5_waysOfAtLeast, 6, (some .long), 5, 0, 1, 24, 0, 0)
set_option maxRecDepth 20000 in
theorem mv_X5_waysOfAtLeast : fw_mt mX5_waysOfAtLeast 3 := ⟨⟨fw_mem 745 rfl rfl, fw_mem 65 (by decide +kernel) rfl, ⟨by decide +kernel, by decide +kernel, by decide +kernel⟩, rfl⟩, fw_mem 744 (by decide +kernel) rfl⟩
theorem pl_X5_waysOfAtLeast : plainName (fw_mN mX5_waysOfAtLeast).cls = true ∧ (fw_mN mX5_waysOfAtLeast).cls = fw_cn (fw_mO mX5_waysOfAtLeast) := ⟨by decide +kernel, rfl⟩
def mX6_init : fw_M := (yX6_init, cX6_init, 1, none, 6, 1, 1, 21, 29, 4952)
set_option maxRecDepth 20000 in
theorem mv_X6_init : fw_mw mX6_init 0 ∧ ((fw_mN mX6_init).name = "<init>" ∧ fw_mT mX6_init = none ∧ Cond.instanceMethod (fw_mN mX6_init) ∈ fw_tbl) := ⟨⟨fw_mem 769 rfl rfl, fw_mem 72 (by decide +kernel) rfl, ⟨by decide +kernel, by decide +kernel, by decide +kernel⟩, rfl⟩, rfl, rfl, fw_mem 768 (by decide +kernel) rfl⟩
theorem pl_X6_init : plainName (fw_mN mX6_init).cls = true ∧ (fw_mN mX6_init).cls = fw_cn (fw_mO mX6_init) := ⟨by decide +kernel, rfl⟩
def mX6_in : fw_M := (yX6_in, cX6_in, 3, (some .boolean), 6, 1, 0, 0, 0, 0)
set_option maxRecDepth 20000 in
theorem mv_X6_in : fw_mt mX6_in 3 := ⟨⟨fw_mem 890 rfl rfl, fw_mem 72 (by decide +kernel) rfl, ⟨by decide +kernel, by decide +kernel, by decide +kernel⟩, rfl⟩, fw_mem 889 (by decide +kernel) rfl⟩
theorem pl_X6_in : plainName (fw_mN mX6_in).cls = true ∧ (fw_mN mX6_in).cls = fw_cn (fw_mO mX6_in) := ⟨by decide +kernel, rfl⟩
def mX6_begins : fw_M := (yX6_begins, cX6_begins, 2, none, 6, 1, 0, 0, 0, 0)
set_option maxRecDepth 20000 in
theorem mv_X6_begins : fw_mv mX6_begins 0 := ⟨⟨fw_mem 774 rfl rfl, fw_mem 72 (by decide +kernel) rfl, ⟨by decide +kernel, by decide +kernel, by decide +kernel⟩, rfl⟩, ⟨fw_mem 773 (by decide +kernel) rfl, fw_mem 31 (by decide +kernel) rfl⟩, ⟨_, _, _, fw_cls6⟩, by decide⟩
theorem pl_X6_begins : plainName (fw_mN mX6_begins).cls = true ∧ (fw_mN mX6_begins).cls = fw_cn (fw_mO mX6_begins) := ⟨by decide +kernel, rfl⟩
def mX6_isMachine : fw_M := (yX6_isMachine, cX6_isMachine, 2, (some .boolean), 6, 1, 1, 22, 0, 0)
set_option maxRecDepth 20000 in
theorem mv_X6_isMachine : fw_mv mX6_isMachine 1 := ⟨⟨fw_mem 902 rfl rfl, fw_mem 72 (by decide +kernel) rfl, ⟨by decide +kernel, by decide +kernel, by decide +kernel⟩, rfl⟩, ⟨fw_mem 901 (by decide +kernel) rfl, fw_mem 32 (by decide +kernel) rfl⟩, ⟨_, _, _, fw_cls6⟩, by decide⟩
theorem pl_X6_isMachine : plainName (fw_mN mX6_isMachine).cls = true ∧ (fw_mN mX6_isMachine).cls = fw_cn (fw_mO mX6_isMachine) := ⟨by decide +kernel, rfl⟩
def mX6_isThing : fw_M := (yX6_isThing, cX6_isThing, 1, (some .boolean), 6, 1, 1, 22, 0, 0)
set_option maxRecDepth 20000 in
theorem mv_X6_isThing : fw_mt mX6_isThing 1 := ⟨⟨fw_mem 905 rfl rfl, fw_mem 72 (by decide +kernel) rfl, ⟨by decide +kernel, by decide +kernel, by decide +kernel⟩, rfl⟩, fw_mem 904 (by decide +kernel) rfl⟩
theorem pl_X6_isThing : plainName (fw_mN mX6_isThing).cls = true ∧ (fw_mN mX6_isThing).cls = fw_cn (fw_mO mX6_isThing) := ⟨by decide +kernel, rfl⟩
def mX6_isDay : fw_M := (yX6_isDay, cX6_isDay, 2, (some .boolean), 6, 1, 1, 22, 0, 0)
set_option maxRecDepth 20000 in
theorem mv_X6_isDay : fw_mv mX6_isDay 1 := ⟨⟨fw_mem 1037 rfl rfl, fw_mem 72 (by decide +kernel) rfl, ⟨by decide +kernel, by decide +kernel, by decide +kernel⟩, rfl⟩, ⟨fw_mem 1036 (by decide +kernel) rfl, fw_mem 56 (by decide +kernel) rfl⟩, ⟨_, _, _, fw_cls6⟩, by decide⟩
theorem pl_X6_isDay : plainName (fw_mN mX6_isDay).cls = true ∧ (fw_mN mX6_isDay).cls = fw_cn (fw_mO mX6_isDay) := ⟨by decide +kernel, rfl⟩
def mX6_changeAt : fw_M := (yX6_changeAt, cX6_changeAt, 2, (some .int), 6, 1, 0, 0, 0, 0)
set_option maxRecDepth 20000 in
theorem mv_X6_changeAt : fw_mt mX6_changeAt 2 := ⟨⟨fw_mem 928 rfl rfl, fw_mem 72 (by decide +kernel) rfl, ⟨by decide +kernel, by decide +kernel, by decide +kernel⟩, rfl⟩, fw_mem 927 (by decide +kernel) rfl⟩
theorem pl_X6_changeAt : plainName (fw_mN mX6_changeAt).cls = true ∧ (fw_mN mX6_changeAt).cls = fw_cn (fw_mO mX6_changeAt) := ⟨by decide +kernel, rfl⟩
def mX6_first : fw_M := (yX6_first, cX6_first, 4, (some .int), 6, 1, 1, 21, 0, 0)
set_option maxRecDepth 20000 in
theorem mv_X6_first : fw_mv mX6_first 1 := ⟨⟨fw_mem 925 rfl rfl, fw_mem 72 (by decide +kernel) rfl, ⟨by decide +kernel, by decide +kernel, by decide +kernel⟩, rfl⟩, ⟨fw_mem 924 (by decide +kernel) rfl, fw_mem 37 (by decide +kernel) rfl⟩, ⟨_, _, _, fw_cls6⟩, by decide⟩
theorem pl_X6_first : plainName (fw_mN mX6_first).cls = true ∧ (fw_mN mX6_first).cls = fw_cn (fw_mO mX6_first) := ⟨by decide +kernel, rfl⟩
def mX6_restarts : fw_M := (yX6_restarts, cX6_restarts, 2, none, 6, 1, 0, 0, 0, 0)
set_option maxRecDepth 20000 in
theorem mv_X6_restarts : fw_mv mX6_restarts 0 := ⟨⟨fw_mem 921 rfl rfl, fw_mem 72 (by decide +kernel) rfl, ⟨by decide +kernel, by decide +kernel, by decide +kernel⟩, rfl⟩, ⟨fw_mem 920 (by decide +kernel) rfl, fw_mem 36 (by decide +kernel) rfl⟩, ⟨_, _, _, fw_cls6⟩, by decide⟩
theorem pl_X6_restarts : plainName (fw_mN mX6_restarts).cls = true ∧ (fw_mN mX6_restarts).cls = fw_cn (fw_mO mX6_restarts) := ⟨by decide +kernel, rfl⟩
def mX6_leaves : fw_M := (yX6_leaves, cX6_leaves, 5, none, 6, 1, 2, 44, 0, 0)
set_option maxRecDepth 20000 in
theorem mv_X6_leaves : fw_mv mX6_leaves 0 := ⟨⟨fw_mem 917 rfl rfl, fw_mem 72 (by decide +kernel) rfl, ⟨by decide +kernel, by decide +kernel, by decide +kernel⟩, rfl⟩, ⟨fw_mem 916 (by decide +kernel) rfl, fw_mem 35 (by decide +kernel) rfl⟩, ⟨_, _, _, fw_cls6⟩, by decide⟩
theorem pl_X6_leaves : plainName (fw_mN mX6_leaves).cls = true ∧ (fw_mN mX6_leaves).cls = fw_cn (fw_mO mX6_leaves) := ⟨by decide +kernel, rfl⟩
def mX6_isFolder : fw_M := (yX6_isFolder, cX6_isFolder, 2, (some .boolean), 6, 1, 0, 0, 0, 0)
set_option maxRecDepth 20000 in
theorem mv_X6_isFolder : fw_mv mX6_isFolder 1 := ⟨⟨fw_mem 936 rfl rfl, fw_mem 72 (by decide +kernel) rfl, ⟨by decide +kernel, by decide +kernel, by decide +kernel⟩, rfl⟩, ⟨fw_mem 935 (by decide +kernel) rfl, fw_mem 39 (by decide +kernel) rfl⟩, ⟨_, _, _, fw_cls6⟩, by decide⟩
theorem pl_X6_isFolder : plainName (fw_mN mX6_isFolder).cls = true ∧ (fw_mN mX6_isFolder).cls = fw_cn (fw_mO mX6_isFolder) := ⟨by decide +kernel, rfl⟩
def mX6_liesIn : fw_M := (yX6_liesIn, cX6_liesIn, 4, (some .boolean), 6, 1, 0, 0, 0, 0)
set_option maxRecDepth 20000 in
theorem mv_X6_liesIn : fw_mv mX6_liesIn 2 := ⟨⟨fw_mem 944 rfl rfl, fw_mem 72 (by decide +kernel) rfl, ⟨by decide +kernel, by decide +kernel, by decide +kernel⟩, rfl⟩, ⟨fw_mem 943 (by decide +kernel) rfl, fw_mem 41 (by decide +kernel) rfl⟩, ⟨_, _, _, fw_cls6⟩, by decide⟩
theorem pl_X6_liesIn : plainName (fw_mN mX6_liesIn).cls = true ∧ (fw_mN mX6_liesIn).cls = fw_cn (fw_mO mX6_liesIn) := ⟨by decide +kernel, rfl⟩
def mX6_puts : fw_M := (yX6_puts, cX6_puts, 5, none, 6, 1, 0, 0, 0, 0)
set_option maxRecDepth 20000 in
theorem mv_X6_puts : fw_mv mX6_puts 4 := ⟨⟨fw_mem 940 rfl rfl, fw_mem 72 (by decide +kernel) rfl, ⟨by decide +kernel, by decide +kernel, by decide +kernel⟩, rfl⟩, ⟨fw_mem 939 (by decide +kernel) rfl, fw_mem 40 (by decide +kernel) rfl⟩, ⟨_, _, _, fw_cls6⟩, by decide⟩
theorem pl_X6_puts : plainName (fw_mN mX6_puts).cls = true ∧ (fw_mN mX6_puts).cls = fw_cn (fw_mO mX6_puts) := ⟨by decide +kernel, rfl⟩
def mX6_goes : fw_M := (yX6_goes, cX6_goes, 3, none, 6, 1, 1, 23, 0, 0)
set_option maxRecDepth 20000 in
theorem mv_X6_goes : fw_mv mX6_goes 1 := ⟨⟨fw_mem 948 rfl rfl, fw_mem 72 (by decide +kernel) rfl, ⟨by decide +kernel, by decide +kernel, by decide +kernel⟩, rfl⟩, ⟨fw_mem 947 (by decide +kernel) rfl, fw_mem 42 (by decide +kernel) rfl⟩, ⟨_, _, _, fw_cls6⟩, by decide⟩
theorem pl_X6_goes : plainName (fw_mN mX6_goes).cls = true ∧ (fw_mN mX6_goes).cls = fw_cn (fw_mO mX6_goes) := ⟨by decide +kernel, rfl⟩
def mX6_writes : fw_M := (yX6_writes, cX6_writes, 6, none, 6, 1, 1, 21, 0, 0)
set_option maxRecDepth 20000 in
theorem mv_X6_writes : fw_mv mX6_writes 2 := ⟨⟨fw_mem 952 rfl rfl, fw_mem 72 (by decide +kernel) rfl, ⟨by decide +kernel, by decide +kernel, by decide +kernel⟩, rfl⟩, ⟨fw_mem 951 (by decide +kernel) rfl, fw_mem 43 (by decide +kernel) rfl⟩, ⟨_, _, _, fw_cls6⟩, by decide⟩
theorem pl_X6_writes : plainName (fw_mN mX6_writes).cls = true ∧ (fw_mN mX6_writes).cls = fw_cn (fw_mO mX6_writes) := ⟨by decide +kernel, rfl⟩
def mX6_does : fw_M := (yX6_does, cX6_does, 8, none, 6, 1, 2, 46, 0, 0)
set_option maxRecDepth 20000 in
theorem mv_X6_does : fw_mv mX6_does 3 := ⟨⟨fw_mem 932 rfl rfl, fw_mem 72 (by decide +kernel) rfl, ⟨by decide +kernel, by decide +kernel, by decide +kernel⟩, rfl⟩, ⟨fw_mem 931 (by decide +kernel) rfl, fw_mem 38 (by decide +kernel) rfl⟩, ⟨_, _, _, fw_cls6⟩, by decide⟩
theorem pl_X6_does : plainName (fw_mN mX6_does).cls = true ∧ (fw_mN mX6_does).cls = fw_cn (fw_mO mX6_does) := ⟨by decide +kernel, rfl⟩
def mX6_tells : fw_M := (yX6_tells, cX6_tells, 3, none, 6, 1, 3, 73, 0, 0)
set_option maxRecDepth 20000 in
theorem mv_X6_tells : fw_mv mX6_tells 0 := ⟨⟨fw_mem 913 rfl rfl, fw_mem 72 (by decide +kernel) rfl, ⟨by decide +kernel, by decide +kernel, by decide +kernel⟩, rfl⟩, ⟨fw_mem 912 (by decide +kernel) rfl, fw_mem 34 (by decide +kernel) rfl⟩, ⟨_, _, _, fw_cls6⟩, by decide⟩
theorem pl_X6_tells : plainName (fw_mN mX6_tells).cls = true ∧ (fw_mN mX6_tells).cls = fw_cn (fw_mO mX6_tells) := ⟨by decide +kernel, rfl⟩
def mX6_isAhead : fw_M := (yX6_isAhead, cX6_isAhead, 3, (some .boolean), 6, 1, 0, 0, 0, 0)
set_option maxRecDepth 20000 in
theorem mv_X6_isAhead : fw_mv mX6_isAhead 2 := ⟨⟨fw_mem 960 rfl rfl, fw_mem 72 (by decide +kernel) rfl, ⟨by decide +kernel, by decide +kernel, by decide +kernel⟩, rfl⟩, ⟨fw_mem 959 (by decide +kernel) rfl, fw_mem 45 (by decide +kernel) rfl⟩, ⟨_, _, _, fw_cls6⟩, by decide⟩
theorem pl_X6_isAhead : plainName (fw_mN mX6_isAhead).cls = true ∧ (fw_mN mX6_isAhead).cls = fw_cn (fw_mO mX6_isAhead) := ⟨by decide +kernel, rfl⟩
def mX6_names : fw_M := (yX6_names, cX6_names, 4, none, 6, 1, 2, 44, 0, 0)
set_option maxRecDepth 20000 in
theorem mv_X6_names : fw_mv mX6_names 0 := ⟨⟨fw_mem 956 rfl rfl, fw_mem 72 (by decide +kernel) rfl, ⟨by decide +kernel, by decide +kernel, by decide +kernel⟩, rfl⟩, ⟨fw_mem 955 (by decide +kernel) rfl, fw_mem 44 (by decide +kernel) rfl⟩, ⟨_, _, _, fw_cls6⟩, by decide⟩
theorem pl_X6_names : plainName (fw_mN mX6_names).cls = true ∧ (fw_mN mX6_names).cls = fw_cn (fw_mO mX6_names) := ⟨by decide +kernel, rfl⟩
def mX6_nextNameless : fw_M := (yX6_nextNameless, cX6_nextNameless, 3, (some .int), 6, 1, 1, 22, 0, 0)
set_option maxRecDepth 20000 in
theorem mv_X6_nextNameless : fw_mv mX6_nextNameless 0 := ⟨⟨fw_mem 964 rfl rfl, fw_mem 72 (by decide +kernel) rfl, ⟨by decide +kernel, by decide +kernel, by decide +kernel⟩, rfl⟩, ⟨fw_mem 963 (by decide +kernel) rfl, fw_mem 46 (by decide +kernel) rfl⟩, ⟨_, _, _, fw_cls6⟩, by decide⟩
theorem pl_X6_nextNameless : plainName (fw_mN mX6_nextNameless).cls = true ∧ (fw_mN mX6_nextNameless).cls = fw_cn (fw_mO mX6_nextNameless) := ⟨by decide +kernel, rfl⟩
def mX6_isTaken : fw_M := (yX6_isTaken, cX6_isTaken, 5, (some .boolean), 6, 1, 0, 0, 0, 0)
set_option maxRecDepth 20000 in
theorem mv_X6_isTaken : fw_mv mX6_isTaken 2 := ⟨⟨fw_mem 968 rfl rfl, fw_mem 72 (by decide +kernel) rfl, ⟨by decide +kernel, by decide +kernel, by decide +kernel⟩, rfl⟩, ⟨fw_mem 967 (by decide +kernel) rfl, fw_mem 47 (by decide +kernel) rfl⟩, ⟨_, _, _, fw_cls6⟩, by decide⟩
theorem pl_X6_isTaken : plainName (fw_mN mX6_isTaken).cls = true ∧ (fw_mN mX6_isTaken).cls = fw_cn (fw_mO mX6_isTaken) := ⟨by decide +kernel, rfl⟩
def mX6_tellsNow : fw_M := (yX6_tellsNow, cX6_tellsNow, 3, none, 6, 1, 4, 95, 0, 0)
set_option maxRecDepth 20000 in
theorem mv_X6_tellsNow : fw_mv mX6_tellsNow 1 := ⟨⟨fw_mem 909 rfl rfl, fw_mem 72 (by decide +kernel) rfl, ⟨by decide +kernel, by decide +kernel, by decide +kernel⟩, rfl⟩, ⟨fw_mem 908 (by decide +kernel) rfl, fw_mem 33 (by decide +kernel) rfl⟩, ⟨_, _, _, fw_cls6⟩, by decide⟩
theorem pl_X6_tellsNow : plainName (fw_mN mX6_tellsNow).cls = true ∧ (fw_mN mX6_tellsNow).cls = fw_cn (fw_mO mX6_tellsNow) := ⟨by decide +kernel, rfl⟩
def mX6_tellsOf : fw_M := (yX6_tellsOf, cX6_tellsOf, 4, none, 6, 1, 5, 117, 0, 0)
set_option maxRecDepth 20000 in
theorem mv_X6_tellsOf : fw_mv mX6_tellsOf 2 := ⟨⟨fw_mem 1041 rfl rfl, fw_mem 72 (by decide +kernel) rfl, ⟨by decide +kernel, by decide +kernel, by decide +kernel⟩, rfl⟩, ⟨fw_mem 1040 (by decide +kernel) rfl, fw_mem 57 (by decide +kernel) rfl⟩, ⟨_, _, _, fw_cls6⟩, by decide⟩
theorem pl_X6_tellsOf : plainName (fw_mN mX6_tellsOf).cls = true ∧ (fw_mN mX6_tellsOf).cls = fw_cn (fw_mO mX6_tellsOf) := ⟨by decide +kernel, rfl⟩
def mX6_machines : fw_M := (yX6_machines, cX6_machines, 3, (some .int), 6, 1, 1, 22, 0, 0)
set_option maxRecDepth 20000 in
theorem mv_X6_machines : fw_mv mX6_machines 1 := ⟨⟨fw_mem 887 rfl rfl, fw_mem 72 (by decide +kernel) rfl, ⟨by decide +kernel, by decide +kernel, by decide +kernel⟩, rfl⟩, ⟨fw_mem 885 (by decide +kernel) rfl, fw_mem 886 (by decide +kernel) rfl⟩, ⟨_, _, _, fw_cls6⟩, by decide⟩
theorem pl_X6_machines : plainName (fw_mN mX6_machines).cls = true ∧ (fw_mN mX6_machines).cls = fw_cn (fw_mO mX6_machines) := ⟨by decide +kernel, rfl⟩
def mX6_rules : fw_M := (yX6_rules, cX6_rules, 3, (some .int), 6, 1, 1, 22, 0, 0)
set_option maxRecDepth 20000 in
theorem mv_X6_rules : fw_mv mX6_rules 1 := ⟨⟨fw_mem 894 rfl rfl, fw_mem 72 (by decide +kernel) rfl, ⟨by decide +kernel, by decide +kernel, by decide +kernel⟩, rfl⟩, ⟨fw_mem 892 (by decide +kernel) rfl, fw_mem 893 (by decide +kernel) rfl⟩, ⟨_, _, _, fw_cls6⟩, by decide⟩
theorem pl_X6_rules : plainName (fw_mN mX6_rules).cls = true ∧ (fw_mN mX6_rules).cls = fw_cn (fw_mO mX6_rules) := ⟨by decide +kernel, rfl⟩
def mX6_makes : fw_M := (yX6_makes, cX6_makes, 13, (some .int), 6, 1, 1, 21, 0, 0)
set_option maxRecDepth 20000 in
theorem mv_X6_makes : fw_mv mX6_makes 6 := ⟨⟨fw_mem 976 rfl rfl, fw_mem 72 (by decide +kernel) rfl, ⟨by decide +kernel, by decide +kernel, by decide +kernel⟩, rfl⟩, ⟨fw_mem 975 (by decide +kernel) rfl, fw_mem 49 (by decide +kernel) rfl⟩, ⟨_, _, _, fw_cls6⟩, by decide⟩
theorem pl_X6_makes : plainName (fw_mN mX6_makes).cls = true ∧ (fw_mN mX6_makes).cls = fw_cn (fw_mO mX6_makes) := ⟨by decide +kernel, rfl⟩
def mX6_make : fw_M := (yX6_make, cX6_make, 6, (some .int), 6, 1, 5, 117, 0, 0)
set_option maxRecDepth 20000 in
theorem mv_X6_make : fw_mv mX6_make 4 := ⟨⟨fw_mem 898 rfl rfl, fw_mem 72 (by decide +kernel) rfl, ⟨by decide +kernel, by decide +kernel, by decide +kernel⟩, rfl⟩, ⟨fw_mem 896 (by decide +kernel) rfl, fw_mem 897 (by decide +kernel) rfl⟩, ⟨_, _, _, fw_cls6⟩, by decide⟩
theorem pl_X6_make : plainName (fw_mN mX6_make).cls = true ∧ (fw_mN mX6_make).cls = fw_cn (fw_mO mX6_make) := ⟨by decide +kernel, rfl⟩
def mX6_isNew : fw_M := (yX6_isNew, cX6_isNew, 7, (some .boolean), 6, 1, 1, 21, 0, 0)
set_option maxRecDepth 20000 in
theorem mv_X6_isNew : fw_mv mX6_isNew 2 := ⟨⟨fw_mem 972 rfl rfl, fw_mem 72 (by decide +kernel) rfl, ⟨by decide +kernel, by decide +kernel, by decide +kernel⟩, rfl⟩, ⟨fw_mem 971 (by decide +kernel) rfl, fw_mem 48 (by decide +kernel) rfl⟩, ⟨_, _, _, fw_cls6⟩, by decide⟩
theorem pl_X6_isNew : plainName (fw_mN mX6_isNew).cls = true ∧ (fw_mN mX6_isNew).cls = fw_cn (fw_mO mX6_isNew) := ⟨by decide +kernel, rfl⟩
def mX6_move : fw_M := (yX6_move, cX6_move, 5, (some .int), 6, 1, 5, 117, 0, 0)
set_option maxRecDepth 20000 in
theorem mv_X6_move : fw_mv mX6_move 4 := ⟨⟨fw_mem 980 rfl rfl, fw_mem 72 (by decide +kernel) rfl, ⟨by decide +kernel, by decide +kernel, by decide +kernel⟩, rfl⟩, ⟨fw_mem 978 (by decide +kernel) rfl, fw_mem 979 (by decide +kernel) rfl⟩, ⟨_, _, _, fw_cls6⟩, by decide⟩
theorem pl_X6_move : plainName (fw_mN mX6_move).cls = true ∧ (fw_mN mX6_move).cls = fw_cn (fw_mO mX6_move) := ⟨by decide +kernel, rfl⟩
def mX6_gone : fw_M := (yX6_gone, cX6_gone, 3, (some .int), 6, 1, 5, 117, 0, 0)
set_option maxRecDepth 20000 in
theorem mv_X6_gone : fw_mv mX6_gone 2 := ⟨⟨fw_mem 984 rfl rfl, fw_mem 72 (by decide +kernel) rfl, ⟨by decide +kernel, by decide +kernel, by decide +kernel⟩, rfl⟩, ⟨fw_mem 982 (by decide +kernel) rfl, fw_mem 983 (by decide +kernel) rfl⟩, ⟨_, _, _, fw_cls6⟩, by decide⟩
theorem pl_X6_gone : plainName (fw_mN mX6_gone).cls = true ∧ (fw_mN mX6_gone).cls = fw_cn (fw_mO mX6_gone) := ⟨by decide +kernel, rfl⟩
def mX6_byteOf : fw_M := (yX6_byteOf, cX6_byteOf, 4, (some .int), 6, 1, 0, 0, 0, 0)
set_option maxRecDepth 20000 in
theorem mv_X6_byteOf : fw_mt mX6_byteOf 3 := ⟨⟨fw_mem 995 rfl rfl, fw_mem 72 (by decide +kernel) rfl, ⟨by decide +kernel, by decide +kernel, by decide +kernel⟩, rfl⟩, fw_mem 994 (by decide +kernel) rfl⟩
theorem pl_X6_byteOf : plainName (fw_mN mX6_byteOf).cls = true ∧ (fw_mN mX6_byteOf).cls = fw_cn (fw_mO mX6_byteOf) := ⟨by decide +kernel, rfl⟩
def mX6_cuts : fw_M := (yX6_cuts, cX6_cuts, 11, none, 6, 1, 1, 23, 0, 0)
set_option maxRecDepth 20000 in
theorem mv_X6_cuts : fw_mv mX6_cuts 2 := ⟨⟨fw_mem 992 rfl rfl, fw_mem 72 (by decide +kernel) rfl, ⟨by decide +kernel, by decide +kernel, by decide +kernel⟩, rfl⟩, ⟨fw_mem 991 (by decide +kernel) rfl, fw_mem 50 (by decide +kernel) rfl⟩, ⟨_, _, _, fw_cls6⟩, by decide⟩
theorem pl_X6_cuts : plainName (fw_mN mX6_cuts).cls = true ∧ (fw_mN mX6_cuts).cls = fw_cn (fw_mO mX6_cuts) := ⟨by decide +kernel, rfl⟩
def mX6_pieceAt : fw_M := (yX6_pieceAt, cX6_pieceAt, 7, (some .int), 6, 1, 0, 0, 0, 0)
set_option maxRecDepth 20000 in
theorem mv_X6_pieceAt : fw_mv mX6_pieceAt 3 := ⟨⟨fw_mem 1013 rfl rfl, fw_mem 72 (by decide +kernel) rfl, ⟨by decide +kernel, by decide +kernel, by decide +kernel⟩, rfl⟩, ⟨fw_mem 1012 (by decide +kernel) rfl, fw_mem 54 (by decide +kernel) rfl⟩, ⟨_, _, _, fw_cls6⟩, by decide⟩
theorem pl_X6_pieceAt : plainName (fw_mN mX6_pieceAt).cls = true ∧ (fw_mN mX6_pieceAt).cls = fw_cn (fw_mO mX6_pieceAt) := ⟨by decide +kernel, rfl⟩
def mX6_bytesAt : fw_M := (yX6_bytesAt, cX6_bytesAt, 4, (some .int), 6, 1, 0, 0, 0, 0)
set_option maxRecDepth 20000 in
theorem mv_X6_bytesAt : fw_mv mX6_bytesAt 1 := ⟨⟨fw_mem 1005 rfl rfl, fw_mem 72 (by decide +kernel) rfl, ⟨by decide +kernel, by decide +kernel, by decide +kernel⟩, rfl⟩, ⟨fw_mem 1004 (by decide +kernel) rfl, fw_mem 52 (by decide +kernel) rfl⟩, ⟨_, _, _, fw_cls6⟩, by decide⟩
theorem pl_X6_bytesAt : plainName (fw_mN mX6_bytesAt).cls = true ∧ (fw_mN mX6_bytesAt).cls = fw_cn (fw_mO mX6_bytesAt) := ⟨by decide +kernel, rfl⟩
def mX6_lacking : fw_M := (yX6_lacking, cX6_lacking, 4, (some .int), 6, 1, 1, 26, 0, 0)
set_option maxRecDepth 20000 in
theorem mv_X6_lacking : fw_mv mX6_lacking 1 := ⟨⟨fw_mem 1009 rfl rfl, fw_mem 72 (by decide +kernel) rfl, ⟨by decide +kernel, by decide +kernel, by decide +kernel⟩, rfl⟩, ⟨fw_mem 1008 (by decide +kernel) rfl, fw_mem 53 (by decide +kernel) rfl⟩, ⟨_, _, _, fw_cls6⟩, by decide⟩
theorem pl_X6_lacking : plainName (fw_mN mX6_lacking).cls = true ∧ (fw_mN mX6_lacking).cls = fw_cn (fw_mO mX6_lacking) := ⟨by decide +kernel, rfl⟩
def mX6_takes : fw_M := (yX6_takes, cX6_takes, 4, none, 6, 1, 1, 26, 0, 0)
set_option maxRecDepth 20000 in
theorem mv_X6_takes : fw_mv mX6_takes 1 := ⟨⟨fw_mem 1017 rfl rfl, fw_mem 72 (by decide +kernel) rfl, ⟨by decide +kernel, by decide +kernel, by decide +kernel⟩, rfl⟩, ⟨fw_mem 1016 (by decide +kernel) rfl, fw_mem 55 (by decide +kernel) rfl⟩, ⟨_, _, _, fw_cls6⟩, by decide⟩
theorem pl_X6_takes : plainName (fw_mN mX6_takes).cls = true ∧ (fw_mN mX6_takes).cls = fw_cn (fw_mO mX6_takes) := ⟨by decide +kernel, rfl⟩
def mX6_isFile : fw_M := (yX6_isFile, cX6_isFile, 2, (some .boolean), 6, 1, 0, 0, 0, 0)
set_option maxRecDepth 20000 in
theorem mv_X6_isFile : fw_mv mX6_isFile 1 := ⟨⟨fw_mem 1001 rfl rfl, fw_mem 72 (by decide +kernel) rfl, ⟨by decide +kernel, by decide +kernel, by decide +kernel⟩, rfl⟩, ⟨fw_mem 1000 (by decide +kernel) rfl, fw_mem 51 (by decide +kernel) rfl⟩, ⟨_, _, _, fw_cls6⟩, by decide⟩
theorem pl_X6_isFile : plainName (fw_mN mX6_isFile).cls = true ∧ (fw_mN mX6_isFile).cls = fw_cn (fw_mO mX6_isFile) := ⟨by decide +kernel, rfl⟩
def mX6_write : fw_M := (yX6_write, cX6_write, 6, (some .int), 6, 1, 5, 117, 0, 0)
set_option maxRecDepth 20000 in
theorem mv_X6_write : fw_mv mX6_write 4 := ⟨⟨fw_mem 988 rfl rfl, fw_mem 72 (by decide +kernel) rfl, ⟨by decide +kernel, by decide +kernel, by decide +kernel⟩, rfl⟩, ⟨fw_mem 986 (by decide +kernel) rfl, fw_mem 987 (by decide +kernel) rfl⟩, ⟨_, _, _, fw_cls6⟩, by decide⟩
theorem pl_X6_write : plainName (fw_mN mX6_write).cls = true ∧ (fw_mN mX6_write).cls = fw_cn (fw_mO mX6_write) := ⟨by decide +kernel, rfl⟩
def mX6_send : fw_M := (yX6_send, cX6_send, 6, (some .int), 6, 1, 2, 43, 0, 0)
set_option maxRecDepth 20000 in
theorem mv_X6_send : fw_mv mX6_send 2 := ⟨⟨fw_mem 1021 rfl rfl, fw_mem 72 (by decide +kernel) rfl, ⟨by decide +kernel, by decide +kernel, by decide +kernel⟩, rfl⟩, ⟨fw_mem 1019 (by decide +kernel) rfl, fw_mem 1020 (by decide +kernel) rfl⟩, ⟨_, _, _, fw_cls6⟩, by decide⟩
theorem pl_X6_send : plainName (fw_mN mX6_send).cls = true ∧ (fw_mN mX6_send).cls = fw_cn (fw_mO mX6_send) := ⟨by decide +kernel, rfl⟩
def mX6_sendSome : fw_M := (yX6_sendSome, cX6_sendSome, 6, (some .int), 6, 1, 2, 44, 0, 0)
set_option maxRecDepth 20000 in
theorem mv_X6_sendSome : fw_mv mX6_sendSome 3 := ⟨⟨fw_mem 1025 rfl rfl, fw_mem 72 (by decide +kernel) rfl, ⟨by decide +kernel, by decide +kernel, by decide +kernel⟩, rfl⟩, ⟨fw_mem 1023 (by decide +kernel) rfl, fw_mem 1024 (by decide +kernel) rfl⟩, ⟨_, _, _, fw_cls6⟩, by decide⟩
theorem pl_X6_sendSome : plainName (fw_mN mX6_sendSome).cls = true ∧ (fw_mN mX6_sendSome).cls = fw_cn (fw_mO mX6_sendSome) := ⟨by decide +kernel, rfl⟩
def mX6_change : fw_M := (yX6_change, cX6_change, 5, (some .int), 6, 1, 3, 68, 0, 0)
set_option maxRecDepth 20000 in
theorem mv_X6_change : fw_mv mX6_change 3 := ⟨⟨fw_mem 1029 rfl rfl, fw_mem 72 (by decide +kernel) rfl, ⟨by decide +kernel, by decide +kernel, by decide +kernel⟩, rfl⟩, ⟨fw_mem 1027 (by decide +kernel) rfl, fw_mem 1028 (by decide +kernel) rfl⟩, ⟨_, _, _, fw_cls6⟩, by decide⟩
theorem pl_X6_change : plainName (fw_mN mX6_change).cls = true ∧ (fw_mN mX6_change).cls = fw_cn (fw_mO mX6_change) := ⟨by decide +kernel, rfl⟩
def mX6_thing : fw_M := (yX6_thing, cX6_thing, 5, (some .int), 6, 1, 6, 140, 0, 0)
set_option maxRecDepth 20000 in
theorem mv_X6_thing : fw_mv mX6_thing 4 := ⟨⟨fw_mem 1033 rfl rfl, fw_mem 72 (by decide +kernel) rfl, ⟨by decide +kernel, by decide +kernel, by decide +kernel⟩, rfl⟩, ⟨fw_mem 1031 (by decide +kernel) rfl, fw_mem 1032 (by decide +kernel) rfl⟩, ⟨_, _, _, fw_cls6⟩, by decide⟩
theorem pl_X6_thing : plainName (fw_mN mX6_thing).cls = true ∧ (fw_mN mX6_thing).cls = fw_cn (fw_mO mX6_thing) := ⟨by decide +kernel, rfl⟩
def mX6_sizeOf : fw_M := (yX6_sizeOf, cX6_sizeOf, 2, (some .int), 6, 1, 0, 0, 0, 0)
set_option maxRecDepth 20000 in
theorem mv_X6_sizeOf : fw_mv mX6_sizeOf 1 := ⟨⟨fw_mem 1049 rfl rfl, fw_mem 72 (by decide +kernel) rfl, ⟨by decide +kernel, by decide +kernel, by decide +kernel⟩, rfl⟩, ⟨fw_mem 1048 (by decide +kernel) rfl, fw_mem 58 (by decide +kernel) rfl⟩, ⟨_, _, _, fw_cls6⟩, by decide⟩
theorem pl_X6_sizeOf : plainName (fw_mN mX6_sizeOf).cls = true ∧ (fw_mN mX6_sizeOf).cls = fw_cn (fw_mO mX6_sizeOf) := ⟨by decide +kernel, rfl⟩
def mX6_bytes : fw_M := (yX6_bytes, cX6_bytes, 6, (some .int), 6, 1, 5, 117, 0, 0)
set_option maxRecDepth 20000 in
theorem mv_X6_bytes : fw_mv mX6_bytes 4 := ⟨⟨fw_mem 1045 rfl rfl, fw_mem 72 (by decide +kernel) rfl, ⟨by decide +kernel, by decide +kernel, by decide +kernel⟩, rfl⟩, ⟨fw_mem 1043 (by decide +kernel) rfl, fw_mem 1044 (by decide +kernel) rfl⟩, ⟨_, _, _, fw_cls6⟩, by decide⟩
theorem pl_X6_bytes : plainName (fw_mN mX6_bytes).cls = true ∧ (fw_mN mX6_bytes).cls = fw_cn (fw_mO mX6_bytes) := ⟨by decide +kernel, rfl⟩
def mX6_held : fw_M := (yX6_held, cX6_held, 4, (some .int), 6, 1, 1, 21, 0, 0)
set_option maxRecDepth 20000 in
theorem mv_X6_held : fw_mv mX6_held 1 := ⟨⟨fw_mem 1057 rfl rfl, fw_mem 72 (by decide +kernel) rfl, ⟨by decide +kernel, by decide +kernel, by decide +kernel⟩, rfl⟩, ⟨fw_mem 1056 (by decide +kernel) rfl, fw_mem 59 (by decide +kernel) rfl⟩, ⟨_, _, _, fw_cls6⟩, by decide⟩
theorem pl_X6_held : plainName (fw_mN mX6_held).cls = true ∧ (fw_mN mX6_held).cls = fw_cn (fw_mO mX6_held) := ⟨by decide +kernel, rfl⟩
def mX6_inside : fw_M := (yX6_inside, cX6_inside, 4, (some .int), 6, 1, 0, 0, 0, 0)
set_option maxRecDepth 20000 in
theorem mv_X6_inside : fw_mv mX6_inside 1 := ⟨⟨fw_mem 1066 rfl rfl, fw_mem 72 (by decide +kernel) rfl, ⟨by decide +kernel, by decide +kernel, by decide +kernel⟩, rfl⟩, ⟨fw_mem 1065 (by decide +kernel) rfl, fw_mem 60 (by decide +kernel) rfl⟩, ⟨_, _, _, fw_cls6⟩, by decide⟩
theorem pl_X6_inside : plainName (fw_mN mX6_inside).cls = true ∧ (fw_mN mX6_inside).cls = fw_cn (fw_mO mX6_inside) := ⟨by decide +kernel, rfl⟩
def mX6_bulk : fw_M := (yX6_bulk, cX6_bulk, 6, (some .int), 6, 1, 5, 117, 0, 0)
set_option maxRecDepth 20000 in
theorem mv_X6_bulk : fw_mv mX6_bulk 3 := ⟨⟨fw_mem 1053 rfl rfl, fw_mem 72 (by decide +kernel) rfl, ⟨by decide +kernel, by decide +kernel, by decide +kernel⟩, rfl⟩, ⟨fw_mem 1051 (by decide +kernel) rfl, fw_mem 1052 (by decide +kernel) rfl⟩, ⟨_, _, _, fw_cls6⟩, by decide⟩
theorem pl_X6_bulk : plainName (fw_mN mX6_bulk).cls = true ∧ (fw_mN mX6_bulk).cls = fw_cn (fw_mO mX6_bulk) := ⟨by decide +kernel, rfl⟩
def mX6_things : fw_M := (yX6_things, cX6_things, 5, (some .int), 6, 1, 6, 140, 0, 0)
set_option maxRecDepth 20000 in
theorem mv_X6_things : fw_mv mX6_things 2 := ⟨⟨fw_mem 1070 rfl rfl, fw_mem 72 (by decide +kernel) rfl, ⟨by decide +kernel, by decide +kernel, by decide +kernel⟩, rfl⟩, ⟨fw_mem 1068 (by decide +kernel) rfl, fw_mem 1069 (by decide +kernel) rfl⟩, ⟨_, _, _, fw_cls6⟩, by decide⟩
theorem pl_X6_things : plainName (fw_mN mX6_things).cls = true ∧ (fw_mN mX6_things).cls = fw_cn (fw_mO mX6_things) := ⟨by decide +kernel, rfl⟩
def mX6_find : fw_M := (yX6_find, cX6_find, 6, (some .int), 6, 1, 5, 117, 0, 0)
set_option maxRecDepth 20000 in
theorem mv_X6_find : fw_mv mX6_find 3 := ⟨⟨fw_mem 1074 rfl rfl, fw_mem 72 (by decide +kernel) rfl, ⟨by decide +kernel, by decide +kernel, by decide +kernel⟩, rfl⟩, ⟨fw_mem 1072 (by decide +kernel) rfl, fw_mem 1073 (by decide +kernel) rfl⟩, ⟨_, _, _, fw_cls6⟩, by decide⟩
theorem pl_X6_find : plainName (fw_mN mX6_find).cls = true ∧ (fw_mN mX6_find).cls = fw_cn (fw_mO mX6_find) := ⟨by decide +kernel, rfl⟩
def mX6_sum : fw_M := (yX6_sum, cX6_sum, 11, (some .int), 6, 1, 6, 140, 0, 0)
set_option maxRecDepth 20000 in
theorem mv_X6_sum : fw_mv mX6_sum 2 := ⟨⟨fw_mem 1078 rfl rfl, fw_mem 72 (by decide +kernel) rfl, ⟨by decide +kernel, by decide +kernel, by decide +kernel⟩, rfl⟩, ⟨fw_mem 1076 (by decide +kernel) rfl, fw_mem 1077 (by decide +kernel) rfl⟩, ⟨_, _, _, fw_cls6⟩, by decide⟩
theorem pl_X6_sum : plainName (fw_mN mX6_sum).cls = true ∧ (fw_mN mX6_sum).cls = fw_cn (fw_mO mX6_sum) := ⟨by decide +kernel, rfl⟩
def mX6_differ : fw_M := (yX6_differ, cX6_differ, 6, (some .int), 6, 1, 2, 43, 0, 0)
set_option maxRecDepth 20000 in
theorem mv_X6_differ : fw_mv mX6_differ 2 := ⟨⟨fw_mem 1085 rfl rfl, fw_mem 72 (by decide +kernel) rfl, ⟨by decide +kernel, by decide +kernel, by decide +kernel⟩, rfl⟩, ⟨fw_mem 1083 (by decide +kernel) rfl, fw_mem 1084 (by decide +kernel) rfl⟩, ⟨_, _, _, fw_cls6⟩, by decide⟩
theorem pl_X6_differ : plainName (fw_mN mX6_differ).cls = true ∧ (fw_mN mX6_differ).cls = fw_cn (fw_mO mX6_differ) := ⟨by decide +kernel, rfl⟩
def mX6_apart : fw_M := (yX6_apart, cX6_apart, 4, (some .int), 6, 1, 2, 43, 0, 0)
set_option maxRecDepth 20000 in
theorem mv_X6_apart : fw_mv mX6_apart 2 := ⟨⟨fw_mem 1089 rfl rfl, fw_mem 72 (by decide +kernel) rfl, ⟨by decide +kernel, by decide +kernel, by decide +kernel⟩, rfl⟩, ⟨fw_mem 1087 (by decide +kernel) rfl, fw_mem 1088 (by decide +kernel) rfl⟩, ⟨_, _, _, fw_cls6⟩, by decide⟩
theorem pl_X6_apart : plainName (fw_mN mX6_apart).cls = true ∧ (fw_mN mX6_apart).cls = fw_cn (fw_mO mX6_apart) := ⟨by decide +kernel, rfl⟩
def mX6_let : fw_M := (yX6_let, cX6_let, 3, (some .int), 6, 1, 2, 43, 0, 0)
set_option maxRecDepth 20000 in
theorem mv_X6_let : fw_mv mX6_let 1 := ⟨⟨fw_mem 1093 rfl rfl, fw_mem 72 (by decide +kernel) rfl, ⟨by decide +kernel, by decide +kernel, by decide +kernel⟩, rfl⟩, ⟨fw_mem 1091 (by decide +kernel) rfl, fw_mem 1092 (by decide +kernel) rfl⟩, ⟨_, _, _, fw_cls6⟩, by decide⟩
theorem pl_X6_let : plainName (fw_mN mX6_let).cls = true ∧ (fw_mN mX6_let).cls = fw_cn (fw_mO mX6_let) := ⟨by decide +kernel, rfl⟩
def mX6_left : fw_M := (yX6_left, cX6_left, 6, (some .int), 6, 1, 3, 68, 0, 0)
set_option maxRecDepth 20000 in
theorem mv_X6_left : fw_mv mX6_left 2 := ⟨⟨fw_mem 1101 rfl rfl, fw_mem 72 (by decide +kernel) rfl, ⟨by decide +kernel, by decide +kernel, by decide +kernel⟩, rfl⟩, ⟨fw_mem 1100 (by decide +kernel) rfl, fw_mem 61 (by decide +kernel) rfl⟩, ⟨_, _, _, fw_cls6⟩, by decide⟩
theorem pl_X6_left : plainName (fw_mN mX6_left).cls = true ∧ (fw_mN mX6_left).cls = fw_cn (fw_mO mX6_left) := ⟨by decide +kernel, rfl⟩
def mX6_taken : fw_M := (yX6_taken, cX6_taken, 2, (some .int), 6, 1, 4, 93, 0, 0)
set_option maxRecDepth 20000 in
theorem mv_X6_taken : fw_mv mX6_taken 1 := ⟨⟨fw_mem 1097 rfl rfl, fw_mem 72 (by decide +kernel) rfl, ⟨by decide +kernel, by decide +kernel, by decide +kernel⟩, rfl⟩, ⟨fw_mem 1095 (by decide +kernel) rfl, fw_mem 1096 (by decide +kernel) rfl⟩, ⟨_, _, _, fw_cls6⟩, by decide⟩
theorem pl_X6_taken : plainName (fw_mN mX6_taken).cls = true ∧ (fw_mN mX6_taken).cls = fw_cn (fw_mO mX6_taken) := ⟨by decide +kernel, rfl⟩
def mX6_room : fw_M := (yX6_room, cX6_room, 4, (some .int), 6, 1, 2, 43, 0, 0)
set_option maxRecDepth 20000 in
theorem mv_X6_room : fw_mv mX6_room 2 := ⟨⟨fw_mem 1105 rfl rfl, fw_mem 72 (by decide +kernel) rfl, ⟨by decide +kernel, by decide +kernel, by decide +kernel⟩, rfl⟩, ⟨fw_mem 1103 (by decide +kernel) rfl, fw_mem 1104 (by decide +kernel) rfl⟩, ⟨_, _, _, fw_cls6⟩, by decide⟩
theorem pl_X6_room : plainName (fw_mN mX6_room).cls = true ∧ (fw_mN mX6_room).cls = fw_cn (fw_mO mX6_room) := ⟨by decide +kernel, rfl⟩
def mX6_cutsFile : fw_M := (yX6_cutsFile, cX6_cutsFile, 4, none, 6, 1, 2, 53, 0, 0)
set_option maxRecDepth 20000 in
theorem mv_X6_cutsFile : fw_mv mX6_cutsFile 1 := ⟨⟨fw_mem 1113 rfl rfl, fw_mem 72 (by decide +kernel) rfl, ⟨by decide +kernel, by decide +kernel, by decide +kernel⟩, rfl⟩, ⟨fw_mem 1112 (by decide +kernel) rfl, fw_mem 62 (by decide +kernel) rfl⟩, ⟨_, _, _, fw_cls6⟩, by decide⟩
theorem pl_X6_cutsFile : plainName (fw_mN mX6_cutsFile).cls = true ∧ (fw_mN mX6_cutsFile).cls = fw_cn (fw_mO mX6_cutsFile) := ⟨by decide +kernel, rfl⟩
def mX6_pieces : fw_M := (yX6_pieces, cX6_pieces, 6, (some .int), 6, 1, 5, 117, 0, 0)
set_option maxRecDepth 20000 in
theorem mv_X6_pieces : fw_mv mX6_pieces 3 := ⟨⟨fw_mem 1109 rfl rfl, fw_mem 72 (by decide +kernel) rfl, ⟨by decide +kernel, by decide +kernel, by decide +kernel⟩, rfl⟩, ⟨fw_mem 1107 (by decide +kernel) rfl, fw_mem 1108 (by decide +kernel) rfl⟩, ⟨_, _, _, fw_cls6⟩, by decide⟩
theorem pl_X6_pieces : plainName (fw_mN mX6_pieces).cls = true ∧ (fw_mN mX6_pieces).cls = fw_cn (fw_mO mX6_pieces) := ⟨by decide +kernel, rfl⟩
def mX6_isElsewhere : fw_M := (yX6_isElsewhere, cX6_isElsewhere, 7, (some .boolean), 6, 1, 1, 26, 0, 0)
set_option maxRecDepth 20000 in
theorem mv_X6_isElsewhere : fw_mv mX6_isElsewhere 3 := ⟨⟨fw_mem 1121 rfl rfl, fw_mem 72 (by decide +kernel) rfl, ⟨by decide +kernel, by decide +kernel, by decide +kernel⟩, rfl⟩, ⟨fw_mem 1120 (by decide +kernel) rfl, fw_mem 63 (by decide +kernel) rfl⟩, ⟨_, _, _, fw_cls6⟩, by decide⟩
theorem pl_X6_isElsewhere : plainName (fw_mN mX6_isElsewhere).cls = true ∧ (fw_mN mX6_isElsewhere).cls = fw_cn (fw_mO mX6_isElsewhere) := ⟨by decide +kernel, rfl⟩
def mX6_fetch : fw_M := (yX6_fetch, cX6_fetch, 4, (some .int), 6, 1, 5, 117, 0, 0)
set_option maxRecDepth 20000 in
theorem mv_X6_fetch : fw_mv mX6_fetch 2 := ⟨⟨fw_mem 1117 rfl rfl, fw_mem 72 (by decide +kernel) rfl, ⟨by decide +kernel, by decide +kernel, by decide +kernel⟩, rfl⟩, ⟨fw_mem 1115 (by decide +kernel) rfl, fw_mem 1116 (by decide +kernel) rfl⟩, ⟨_, _, _, fw_cls6⟩, by decide⟩
theorem pl_X6_fetch : plainName (fw_mN mX6_fetch).cls = true ∧ (fw_mN mX6_fetch).cls = fw_cn (fw_mO mX6_fetch) := ⟨by decide +kernel, rfl⟩
def mX6_away : fw_M := (yX6_away, cX6_away, 7, (some .int), 6, 1, 5, 117, 0, 0)
set_option maxRecDepth 20000 in
theorem mv_X6_away : fw_mv mX6_away 2 := ⟨⟨fw_mem 1125 rfl rfl, fw_mem 72 (by decide +kernel) rfl, ⟨by decide +kernel, by decide +kernel, by decide +kernel⟩, rfl⟩, ⟨fw_mem 1123 (by decide +kernel) rfl, fw_mem 1124 (by decide +kernel) rfl⟩, ⟨_, _, _, fw_cls6⟩, by decide⟩
theorem pl_X6_away : plainName (fw_mN mX6_away).cls = true ∧ (fw_mN mX6_away).cls = fw_cn (fw_mO mX6_away) := ⟨by decide +kernel, rfl⟩
def mX6_night : fw_M := (yX6_night, cX6_night, 2, (some .int), 6, 1, 0, 0, 0, 0)
set_option maxRecDepth 20000 in
theorem mv_X6_night : fw_mv mX6_night 0 := ⟨⟨fw_mem 1129 rfl rfl, fw_mem 72 (by decide +kernel) rfl, ⟨by decide +kernel, by decide +kernel, by decide +kernel⟩, rfl⟩, ⟨fw_mem 1127 (by decide +kernel) rfl, fw_mem 1128 (by decide +kernel) rfl⟩, ⟨_, _, _, fw_cls6⟩, by decide⟩
theorem pl_X6_night : plainName (fw_mN mX6_night).cls = true ∧ (fw_mN mX6_night).cls = fw_cn (fw_mO mX6_night) := ⟨by decide +kernel, rfl⟩
def mX6_share : fw_M := (yX6_share, cX6_share, 3, (some .int), 6, 1, 2, 42, 0, 0)
set_option maxRecDepth 20000 in
theorem mv_X6_share : fw_mv mX6_share 2 := ⟨⟨fw_mem 1133 rfl rfl, fw_mem 72 (by decide +kernel) rfl, ⟨by decide +kernel, by decide +kernel, by decide +kernel⟩, rfl⟩, ⟨fw_mem 1131 (by decide +kernel) rfl, fw_mem 1132 (by decide +kernel) rfl⟩, ⟨_, _, _, fw_cls6⟩, by decide⟩
theorem pl_X6_share : plainName (fw_mN mX6_share).cls = true ∧ (fw_mN mX6_share).cls = fw_cn (fw_mO mX6_share) := ⟨by decide +kernel, rfl⟩
def mX6_take : fw_M := (yX6_take, cX6_take, 2, (some .int), 6, 1, 1, 22, 0, 0)
set_option maxRecDepth 20000 in
theorem mv_X6_take : fw_mv mX6_take 1 := ⟨⟨fw_mem 1137 rfl rfl, fw_mem 72 (by decide +kernel) rfl, ⟨by decide +kernel, by decide +kernel, by decide +kernel⟩, rfl⟩, ⟨fw_mem 1135 (by decide +kernel) rfl, fw_mem 1136 (by decide +kernel) rfl⟩, ⟨_, _, _, fw_cls6⟩, by decide⟩
theorem pl_X6_take : plainName (fw_mN mX6_take).cls = true ∧ (fw_mN mX6_take).cls = fw_cn (fw_mO mX6_take) := ⟨by decide +kernel, rfl⟩
def mX6_could : fw_M := (yX6_could, cX6_could, 7, (some .int), 6, 1, 6, 140, 0, 0)
set_option maxRecDepth 20000 in
theorem mv_X6_could : fw_mv mX6_could 4 := ⟨⟨fw_mem 1141 rfl rfl, fw_mem 72 (by decide +kernel) rfl, ⟨by decide +kernel, by decide +kernel, by decide +kernel⟩, rfl⟩, ⟨fw_mem 1139 (by decide +kernel) rfl, fw_mem 1140 (by decide +kernel) rfl⟩, ⟨_, _, _, fw_cls6⟩, by decide⟩
theorem pl_X6_could : plainName (fw_mN mX6_could).cls = true ∧ (fw_mN mX6_could).cls = fw_cn (fw_mO mX6_could) := ⟨by decide +kernel, rfl⟩
def mX6_power : fw_M := (yX6_power, cX6_power, 5, (some .long), 6, 1, 0, 0, 0, 0)
set_option maxRecDepth 20000 in
theorem mv_X6_power : fw_mt mX6_power 2 := ⟨⟨fw_mem 1150 rfl rfl, fw_mem 72 (by decide +kernel) rfl, ⟨by decide +kernel, by decide +kernel, by decide +kernel⟩, rfl⟩, fw_mem 1149 (by decide +kernel) rfl⟩
theorem pl_X6_power : plainName (fw_mN mX6_power).cls = true ∧ (fw_mN mX6_power).cls = fw_cn (fw_mO mX6_power) := ⟨by decide +kernel, rfl⟩
def mX6_choose : fw_M := (yX6_choose, cX6_choose, 5, (some .long), 6, 1, 0, 0, 0, 0)
set_option maxRecDepth 20000 in
theorem mv_X6_choose : fw_mt mX6_choose 2 := ⟨⟨fw_mem 1153 rfl rfl, fw_mem 72 (by decide +kernel) rfl, ⟨by decide +kernel, by decide +kernel, by decide +kernel⟩, rfl⟩, fw_mem 1152 (by decide +kernel) rfl⟩
theorem pl_X6_choose : plainName (fw_mN mX6_choose).cls = true ∧ (fw_mN mX6_choose).cls = fw_cn (fw_mO mX6_choose) := ⟨by decide +kernel, rfl⟩
def mX6_odd : fw_M := (yX6_odd, cX6_odd, 9, (some .long), 6, 1, 2, 43, 0, 0)
set_option maxRecDepth 20000 in
theorem mv_X6_odd : fw_mv mX6_odd 3 := ⟨⟨fw_mem 1145 rfl rfl, fw_mem 72 (by decide +kernel) rfl, ⟨by decide +kernel, by decide +kernel, by decide +kernel⟩, rfl⟩, ⟨fw_mem 1143 (by decide +kernel) rfl, fw_mem 1144 (by decide +kernel) rfl⟩, ⟨_, _, _, fw_cls6⟩, by decide⟩
theorem pl_X6_odd : plainName (fw_mN mX6_odd).cls = true ∧ (fw_mN mX6_odd).cls = fw_cn (fw_mO mX6_odd) := ⟨by decide +kernel, rfl⟩
def mX6_count : fw_M := (yX6_count, cX6_count, 5, (some .int), 6, 1, 4, 93, 0, 0)
set_option maxRecDepth 20000 in
theorem mv_X6_count : fw_mv mX6_count 1 := ⟨⟨fw_mem 1157 rfl rfl, fw_mem 72 (by decide +kernel) rfl, ⟨by decide +kernel, by decide +kernel, by decide +kernel⟩, rfl⟩, ⟨fw_mem 1155 (by decide +kernel) rfl, fw_mem 1156 (by decide +kernel) rfl⟩, ⟨_, _, _, fw_cls6⟩, by decide⟩
theorem pl_X6_count : plainName (fw_mN mX6_count).cls = true ∧ (fw_mN mX6_count).cls = fw_cn (fw_mO mX6_count) := ⟨by decide +kernel, rfl⟩
def mX6_trace : fw_M := (yX6_trace, cX6_trace, 1, (some .long), 6, 1, 0, 0, 0, 0)
set_option maxRecDepth 20000 in
theorem mv_X6_trace : fw_mv mX6_trace 0 := ⟨⟨fw_mem 1161 rfl rfl, fw_mem 72 (by decide +kernel) rfl, ⟨by decide +kernel, by decide +kernel, by decide +kernel⟩, rfl⟩, ⟨fw_mem 1159 (by decide +kernel) rfl, fw_mem 1160 (by decide +kernel) rfl⟩, ⟨_, _, _, fw_cls6⟩, by decide⟩
theorem pl_X6_trace : plainName (fw_mN mX6_trace).cls = true ∧ (fw_mN mX6_trace).cls = fw_cn (fw_mO mX6_trace) := ⟨by decide +kernel, rfl⟩
theorem lk_0_3 : Cond.methodLink RX0 3 Lib.objectInit ∈ fw_tbl := fw_mem 94 (by decide +kernel) rfl
theorem lk_1_3 : Cond.methodLink RX1 3 Lib.objectInit ∈ fw_tbl := fw_mem 87 (by decide +kernel) rfl
theorem lk_1_41 : Cond.methodLink RX1 41 yX1_placeOf ∈ fw_tbl := fw_mem 366 (by decide +kernel) rfl
theorem lk_1_51 : Cond.methodLink RX1 51 yX1_knownOf ∈ fw_tbl := fw_mem 362 (by decide +kernel) rfl
theorem lk_1_54 : Cond.methodLink RX1 54 yX1_changeOf ∈ fw_tbl := fw_mem 452 (by decide +kernel) rfl
theorem lk_1_73 : Cond.methodLink RX1 73 Lib.Math.max.name ∈ fw_tbl := fw_mem 456 (by decide +kernel) rfl
theorem lk_1_79 : Cond.methodLink RX1 79 yX1_putInOrder ∈ fw_tbl := fw_mem 457 (by decide +kernel) rfl
theorem lk_1_83 : Cond.methodLink RX1 83 yX1_findLeftOut ∈ fw_tbl := fw_mem 466 (by decide +kernel) rfl
theorem lk_1_86 : Cond.methodLink RX1 86 yX1_inOrder ∈ fw_tbl := fw_mem 442 (by decide +kernel) rfl
theorem lk_1_90 : Cond.methodLink RX1 90 yX0_isAheadOf ∈ fw_tbl := fw_mem 461 (by decide +kernel) rfl
theorem lk_1_94 : Cond.methodLink RX1 94 yX0_slot ∈ fw_tbl := fw_mem 465 (by decide +kernel) rfl
theorem lk_1_98 : Cond.methodLink RX1 98 yX1_knows ∈ fw_tbl := fw_mem 443 (by decide +kernel) rfl
theorem lk_1_102 : Cond.methodLink RX1 102 arraycopyName ∈ fw_tbl := fw_mem 703 (by decide +kernel) rfl
theorem lk_1_108 : Cond.methodLink RX1 108 yX1_standsOnLeftOut ∈ fw_tbl := fw_mem 470 (by decide +kernel) rfl
theorem lk_1_111 : Cond.methodLink RX1 111 Lib.Math.min.name ∈ fw_tbl := fw_mem 474 (by decide +kernel) rfl
theorem lk_2_3 : Cond.methodLink RX2 3 Lib.objectInit ∈ fw_tbl := fw_mem 229 (by decide +kernel) rfl
theorem lk_2_9 : Cond.methodLink RX2 9 Lib.Math.max.name ∈ fw_tbl := fw_mem 230 (by decide +kernel) rfl
theorem lk_2_32 : Cond.methodLink RX2 32 yX2_placeOf ∈ fw_tbl := fw_mem 513 (by decide +kernel) rfl
theorem lk_2_36 : Cond.methodLink RX2 36 yX2_has ∈ fw_tbl := fw_mem 509 (by decide +kernel) rfl
theorem lk_2_44 : Cond.methodLink RX2 44 yX2_add ∈ fw_tbl := fw_mem 505 (by decide +kernel) rfl
theorem lk_2_48 : Cond.methodLink RX2 48 yX2_removeAt ∈ fw_tbl := fw_mem 670 (by decide +kernel) rfl
theorem lk_3_3 : Cond.methodLink RX3 3 Lib.objectInit ∈ fw_tbl := fw_mem 256 (by decide +kernel) rfl
theorem lk_4_3 : Cond.methodLink RX4 3 Lib.objectInit ∈ fw_tbl := fw_mem 186 (by decide +kernel) rfl
theorem lk_4_44 : Cond.methodLink RX4 44 yX4_clear ∈ fw_tbl := fw_mem 350 (by decide +kernel) rfl
theorem lk_4_53 : Cond.methodLink RX4 53 yX1_inOrder ∈ fw_tbl := fw_mem 354 (by decide +kernel) rfl
theorem lk_4_57 : Cond.methodLink RX4 57 yX1_knows ∈ fw_tbl := fw_mem 358 (by decide +kernel) rfl
theorem lk_4_61 : Cond.methodLink RX4 61 yX1_isLeftOut ∈ fw_tbl := fw_mem 369 (by decide +kernel) rfl
theorem lk_4_65 : Cond.methodLink RX4 65 yX4_apply ∈ fw_tbl := fw_mem 373 (by decide +kernel) rfl
theorem lk_4_69 : Cond.methodLink RX4 69 yX4_nameAll ∈ fw_tbl := fw_mem 421 (by decide +kernel) rfl
theorem lk_4_78 : Cond.methodLink RX4 78 yX4_applyNew ∈ fw_tbl := fw_mem 377 (by decide +kernel) rfl
theorem lk_4_87 : Cond.methodLink RX4 87 yX4_mayMove ∈ fw_tbl := fw_mem 389 (by decide +kernel) rfl
theorem lk_4_91 : Cond.methodLink RX4 91 yX4_put ∈ fw_tbl := fw_mem 385 (by decide +kernel) rfl
theorem lk_4_94 : Cond.methodLink RX4 94 yX4_applyGone ∈ fw_tbl := fw_mem 397 (by decide +kernel) rfl
theorem lk_4_97 : Cond.methodLink RX4 97 yX4_applyWrite ∈ fw_tbl := fw_mem 401 (by decide +kernel) rfl
theorem lk_4_100 : Cond.methodLink RX4 100 yX4_isFolder ∈ fw_tbl := fw_mem 381 (by decide +kernel) rfl
theorem lk_4_108 : Cond.methodLink RX4 108 yX4_isWithin ∈ fw_tbl := fw_mem 393 (by decide +kernel) rfl
theorem lk_4_111 : Cond.methodLink RX4 111 yX4_holdRow ∈ fw_tbl := fw_mem 405 (by decide +kernel) rfl
theorem lk_4_115 : Cond.methodLink RX4 115 yX4_rowOf ∈ fw_tbl := fw_mem 409 (by decide +kernel) rfl
theorem lk_4_119 : Cond.methodLink RX4 119 yX0_standsOn ∈ fw_tbl := fw_mem 413 (by decide +kernel) rfl
theorem lk_4_122 : Cond.methodLink RX4 122 yX0_slot ∈ fw_tbl := fw_mem 417 (by decide +kernel) rfl
theorem lk_4_126 : Cond.methodLink RX4 126 yX4_nextUnnamed ∈ fw_tbl := fw_mem 425 (by decide +kernel) rfl
theorem lk_4_130 : Cond.methodLink RX4 130 yX4_freeNameFor ∈ fw_tbl := fw_mem 429 (by decide +kernel) rfl
theorem lk_4_134 : Cond.methodLink RX4 134 yX4_thingNamed ∈ fw_tbl := fw_mem 433 (by decide +kernel) rfl
theorem lk_5_3 : Cond.methodLink RX5 3 Lib.objectInit ∈ fw_tbl := fw_mem 79 (by decide +kernel) rfl
theorem lk_5_11 : Cond.methodLink RX5 11 yX1_init ∈ fw_tbl := fw_mem 84 (by decide +kernel) rfl
theorem lk_5_18 : Cond.methodLink RX5 18 yX4_init ∈ fw_tbl := fw_mem 183 (by decide +kernel) rfl
theorem lk_5_31 : Cond.methodLink RX5 31 yX2_init ∈ fw_tbl := fw_mem 226 (by decide +kernel) rfl
theorem lk_5_52 : Cond.methodLink RX5 52 yX5_beginAnew ∈ fw_tbl := fw_mem 277 (by decide +kernel) rfl
theorem lk_5_62 : Cond.methodLink RX5 62 yX5_isMachine ∈ fw_tbl := fw_mem 332 (by decide +kernel) rfl
theorem lk_5_66 : Cond.methodLink RX5 66 yX5_isThing ∈ fw_tbl := fw_mem 336 (by decide +kernel) rfl
theorem lk_5_69 : Cond.methodLink RX5 69 yX5_isOwnName ∈ fw_tbl := fw_mem 339 (by decide +kernel) rfl
theorem lk_5_72 : Cond.methodLink RX5 72 yX5_growNow ∈ fw_tbl := fw_mem 342 (by decide +kernel) rfl
theorem lk_5_75 : Cond.methodLink RX5 75 yX4_isFolder ∈ fw_tbl := fw_mem 437 (by decide +kernel) rfl
theorem lk_5_78 : Cond.methodLink RX5 78 yX1_leastUnmade ∈ fw_tbl := fw_mem 438 (by decide +kernel) rfl
theorem lk_5_82 : Cond.methodLink RX5 82 yX1_isFull ∈ fw_tbl := fw_mem 444 (by decide +kernel) rfl
theorem lk_5_85 : Cond.methodLink RX5 85 yX1_append ∈ fw_tbl := fw_mem 448 (by decide +kernel) rfl
theorem lk_5_100 : Cond.methodLink RX5 100 yX4_mayMove ∈ fw_tbl := fw_mem 481 (by decide +kernel) rfl
theorem lk_5_107 : Cond.methodLink RX5 107 yX4_isThere ∈ fw_tbl := fw_mem 486 (by decide +kernel) rfl
theorem lk_5_110 : Cond.methodLink RX5 110 yX4_isFile ∈ fw_tbl := fw_mem 494 (by decide +kernel) rfl
theorem lk_5_113 : Cond.methodLink RX5 113 yX2_empty ∈ fw_tbl := fw_mem 285 (by decide +kernel) rfl
theorem lk_5_116 : Cond.methodLink RX5 116 yX2_addCutOf ∈ fw_tbl := fw_mem 498 (by decide +kernel) rfl
theorem lk_5_120 : Cond.methodLink RX5 120 yX5_hasRoomForWanted ∈ fw_tbl := fw_mem 517 (by decide +kernel) rfl
theorem lk_5_130 : Cond.methodLink RX5 130 yX2_addAll ∈ fw_tbl := fw_mem 525 (by decide +kernel) rfl
theorem lk_5_134 : Cond.methodLink RX5 134 yX1_passOn ∈ fw_tbl := fw_mem 533 (by decide +kernel) rfl
theorem lk_5_141 : Cond.methodLink RX5 141 yX1_changeOf ∈ fw_tbl := fw_mem 545 (by decide +kernel) rfl
theorem lk_5_154 : Cond.methodLink RX5 154 yX0_groundSize ∈ fw_tbl := fw_mem 546 (by decide +kernel) rfl
theorem lk_5_161 : Cond.methodLink RX5 161 yX1_isLeftOut ∈ fw_tbl := fw_mem 550 (by decide +kernel) rfl
theorem lk_5_165 : Cond.methodLink RX5 165 yX5_isDay ∈ fw_tbl := fw_mem 555 (by decide +kernel) rfl
theorem lk_5_168 : Cond.methodLink RX5 168 yX4_grow ∈ fw_tbl := fw_mem 346 (by decide +kernel) rfl
theorem lk_5_181 : Cond.methodLink RX5 181 yX4_rowOf ∈ fw_tbl := fw_mem 563 (by decide +kernel) rfl
theorem lk_5_184 : Cond.methodLink RX5 184 yX5_byteOf ∈ fw_tbl := fw_mem 564 (by decide +kernel) rfl
theorem lk_5_188 : Cond.methodLink RX5 188 yX5_bulkAsFile ∈ fw_tbl := fw_mem 569 (by decide +kernel) rfl
theorem lk_5_191 : Cond.methodLink RX5 191 yX5_bulkAsFolder ∈ fw_tbl := fw_mem 582 (by decide +kernel) rfl
theorem lk_5_194 : Cond.methodLink RX5 194 yX5_bulkAsLink ∈ fw_tbl := fw_mem 591 (by decide +kernel) rfl
theorem lk_5_197 : Cond.methodLink RX5 197 yX5_bulkAsHeld ∈ fw_tbl := fw_mem 596 (by decide +kernel) rfl
theorem lk_5_200 : Cond.methodLink RX5 200 yX5_bulkAsClash ∈ fw_tbl := fw_mem 601 (by decide +kernel) rfl
theorem lk_5_203 : Cond.methodLink RX5 203 yX5_bulkAsThing ∈ fw_tbl := fw_mem 574 (by decide +kernel) rfl
theorem lk_5_206 : Cond.methodLink RX5 206 yX4_thingNamed ∈ fw_tbl := fw_mem 614 (by decide +kernel) rfl
theorem lk_5_210 : Cond.methodLink RX5 210 yX4_byteTotal ∈ fw_tbl := fw_mem 619 (by decide +kernel) rfl
theorem lk_5_217 : Cond.methodLink RX5 217 yX1_knownOf ∈ fw_tbl := fw_mem 629 (by decide +kernel) rfl
theorem lk_5_220 : Cond.methodLink RX5 220 Lib.Math.abs.name ∈ fw_tbl := fw_mem 630 (by decide +kernel) rfl
theorem lk_5_225 : Cond.methodLink RX5 225 yX1_setApart ∈ fw_tbl := fw_mem 637 (by decide +kernel) rfl
theorem lk_5_234 : Cond.methodLink RX5 234 Lib.Math.max.name ∈ fw_tbl := fw_mem 649 (by decide +kernel) rfl
theorem lk_5_241 : Cond.methodLink RX5 241 yX5_wantPiecesOf ∈ fw_tbl := fw_mem 658 (by decide +kernel) rfl
theorem lk_5_244 : Cond.methodLink RX5 244 yX2_removeAll ∈ fw_tbl := fw_mem 666 (by decide +kernel) rfl
theorem lk_5_247 : Cond.methodLink RX5 247 yX5_othersHaveWanted ∈ fw_tbl := fw_mem 678 (by decide +kernel) rfl
theorem lk_5_250 : Cond.methodLink RX5 250 yX2_keepOnly ∈ fw_tbl := fw_mem 687 (by decide +kernel) rfl
theorem lk_5_253 : Cond.methodLink RX5 253 yX5_gatherPiecesOfOthers ∈ fw_tbl := fw_mem 691 (by decide +kernel) rfl
theorem lk_5_256 : Cond.methodLink RX5 256 yX1_nextDay ∈ fw_tbl := fw_mem 699 (by decide +kernel) rfl
theorem lk_5_259 : Cond.methodLink RX5 259 yX5_isPerson ∈ fw_tbl := fw_mem 710 (by decide +kernel) rfl
theorem lk_5_263 : Cond.methodLink RX5 263 yX3_begin ∈ fw_tbl := fw_mem 713 (by decide +kernel) rfl
theorem lk_5_272 : Cond.methodLink RX5 272 yX3_holds ∈ fw_tbl := fw_mem 725 (by decide +kernel) rfl
theorem lk_5_278 : Cond.methodLink RX5 278 yX4_isWithin ∈ fw_tbl := fw_mem 729 (by decide +kernel) rfl
theorem lk_5_285 : Cond.methodLink RX5 285 yX5_power ∈ fw_tbl := fw_mem 736 (by decide +kernel) rfl
theorem lk_5_289 : Cond.methodLink RX5 289 yX1_madeOnDay ∈ fw_tbl := fw_mem 739 (by decide +kernel) rfl
theorem lk_5_292 : Cond.methodLink RX5 292 yX5_waysOfAtLeast ∈ fw_tbl := fw_mem 743 (by decide +kernel) rfl
theorem lk_5_299 : Cond.methodLink RX5 299 yX3_holding ∈ fw_tbl := fw_mem 753 (by decide +kernel) rfl
theorem lk_5_302 : Cond.methodLink RX5 302 yX1_leftOutInAll ∈ fw_tbl := fw_mem 757 (by decide +kernel) rfl
theorem lk_5_308 : Cond.methodLink RX5 308 yX1_empty ∈ fw_tbl := fw_mem 281 (by decide +kernel) rfl
theorem lk_5_311 : Cond.methodLink RX5 311 yX4_byteCount ∈ fw_tbl := fw_mem 578 (by decide +kernel) rfl
theorem lk_5_315 : Cond.methodLink RX5 315 yX4_childCount ∈ fw_tbl := fw_mem 587 (by decide +kernel) rfl
theorem lk_5_324 : Cond.methodLink RX5 324 yX5_addPiecesOf ∈ fw_tbl := fw_mem 662 (by decide +kernel) rfl
theorem lk_5_328 : Cond.methodLink RX5 328 yX2_bytesNotIn ∈ fw_tbl := fw_mem 521 (by decide +kernel) rfl
theorem lk_5_337 : Cond.methodLink RX5 337 yX2_has ∈ fw_tbl := fw_mem 682 (by decide +kernel) rfl
theorem lk_5_341 : Cond.methodLink RX5 341 yX5_choose ∈ fw_tbl := fw_mem 746 (by decide +kernel) rfl
theorem lk_6_1 : Cond.methodLink RX6 1 Lib.objectInit ∈ fw_tbl := fw_mem 770 (by decide +kernel) rfl
theorem lk_6_103 : Cond.methodLink RX6 103 yX6_begins ∈ fw_tbl := fw_mem 771 (by decide +kernel) rfl
theorem lk_6_115 : Cond.methodLink RX6 115 yX6_in ∈ fw_tbl := fw_mem 888 (by decide +kernel) rfl
theorem lk_6_119 : Cond.methodLink RX6 119 yX6_changeAt ∈ fw_tbl := fw_mem 926 (by decide +kernel) rfl
theorem lk_6_123 : Cond.methodLink RX6 123 yX6_restarts ∈ fw_tbl := fw_mem 918 (by decide +kernel) rfl
theorem lk_6_126 : Cond.methodLink RX6 126 yX6_first ∈ fw_tbl := fw_mem 922 (by decide +kernel) rfl
theorem lk_6_130 : Cond.methodLink RX6 130 yX6_liesIn ∈ fw_tbl := fw_mem 941 (by decide +kernel) rfl
theorem lk_6_137 : Cond.methodLink RX6 137 yX6_isFolder ∈ fw_tbl := fw_mem 933 (by decide +kernel) rfl
theorem lk_6_141 : Cond.methodLink RX6 141 yX6_puts ∈ fw_tbl := fw_mem 937 (by decide +kernel) rfl
theorem lk_6_145 : Cond.methodLink RX6 145 yX6_goes ∈ fw_tbl := fw_mem 945 (by decide +kernel) rfl
theorem lk_6_149 : Cond.methodLink RX6 149 yX6_writes ∈ fw_tbl := fw_mem 949 (by decide +kernel) rfl
theorem lk_6_153 : Cond.methodLink RX6 153 yX6_leaves ∈ fw_tbl := fw_mem 914 (by decide +kernel) rfl
theorem lk_6_156 : Cond.methodLink RX6 156 yX6_does ∈ fw_tbl := fw_mem 929 (by decide +kernel) rfl
theorem lk_6_160 : Cond.methodLink RX6 160 yX6_names ∈ fw_tbl := fw_mem 953 (by decide +kernel) rfl
theorem lk_6_163 : Cond.methodLink RX6 163 yX6_isAhead ∈ fw_tbl := fw_mem 957 (by decide +kernel) rfl
theorem lk_6_166 : Cond.methodLink RX6 166 yX6_nextNameless ∈ fw_tbl := fw_mem 961 (by decide +kernel) rfl
theorem lk_6_170 : Cond.methodLink RX6 170 yX6_isTaken ∈ fw_tbl := fw_mem 965 (by decide +kernel) rfl
theorem lk_6_173 : Cond.methodLink RX6 173 yX6_tells ∈ fw_tbl := fw_mem 910 (by decide +kernel) rfl
theorem lk_6_176 : Cond.methodLink RX6 176 yX6_tellsNow ∈ fw_tbl := fw_mem 906 (by decide +kernel) rfl
theorem lk_6_179 : Cond.methodLink RX6 179 yX6_isMachine ∈ fw_tbl := fw_mem 899 (by decide +kernel) rfl
theorem lk_6_182 : Cond.methodLink RX6 182 yX6_isThing ∈ fw_tbl := fw_mem 903 (by decide +kernel) rfl
theorem lk_6_185 : Cond.methodLink RX6 185 yX6_isNew ∈ fw_tbl := fw_mem 969 (by decide +kernel) rfl
theorem lk_6_188 : Cond.methodLink RX6 188 yX6_makes ∈ fw_tbl := fw_mem 973 (by decide +kernel) rfl
theorem lk_6_194 : Cond.methodLink RX6 194 yX6_byteOf ∈ fw_tbl := fw_mem 993 (by decide +kernel) rfl
theorem lk_6_203 : Cond.methodLink RX6 203 yX6_pieceAt ∈ fw_tbl := fw_mem 1010 (by decide +kernel) rfl
theorem lk_6_207 : Cond.methodLink RX6 207 yX6_cuts ∈ fw_tbl := fw_mem 989 (by decide +kernel) rfl
theorem lk_6_211 : Cond.methodLink RX6 211 yX6_isFile ∈ fw_tbl := fw_mem 998 (by decide +kernel) rfl
theorem lk_6_214 : Cond.methodLink RX6 214 yX6_bytesAt ∈ fw_tbl := fw_mem 1002 (by decide +kernel) rfl
theorem lk_6_218 : Cond.methodLink RX6 218 yX6_lacking ∈ fw_tbl := fw_mem 1006 (by decide +kernel) rfl
theorem lk_6_221 : Cond.methodLink RX6 221 yX6_takes ∈ fw_tbl := fw_mem 1014 (by decide +kernel) rfl
theorem lk_6_224 : Cond.methodLink RX6 224 yX6_isDay ∈ fw_tbl := fw_mem 1034 (by decide +kernel) rfl
theorem lk_6_227 : Cond.methodLink RX6 227 yX6_tellsOf ∈ fw_tbl := fw_mem 1038 (by decide +kernel) rfl
theorem lk_6_230 : Cond.methodLink RX6 230 yX6_sizeOf ∈ fw_tbl := fw_mem 1046 (by decide +kernel) rfl
theorem lk_6_233 : Cond.methodLink RX6 233 yX6_held ∈ fw_tbl := fw_mem 1054 (by decide +kernel) rfl
theorem lk_6_250 : Cond.methodLink RX6 250 yX6_inside ∈ fw_tbl := fw_mem 1063 (by decide +kernel) rfl
theorem lk_6_259 : Cond.methodLink RX6 259 yX6_left ∈ fw_tbl := fw_mem 1098 (by decide +kernel) rfl
theorem lk_6_263 : Cond.methodLink RX6 263 yX6_cutsFile ∈ fw_tbl := fw_mem 1110 (by decide +kernel) rfl
theorem lk_6_266 : Cond.methodLink RX6 266 yX6_isElsewhere ∈ fw_tbl := fw_mem 1118 (by decide +kernel) rfl
theorem lk_6_274 : Cond.methodLink RX6 274 yX6_power ∈ fw_tbl := fw_mem 1148 (by decide +kernel) rfl
theorem lk_6_278 : Cond.methodLink RX6 278 yX6_choose ∈ fw_tbl := fw_mem 1151 (by decide +kernel) rfl
theorem lw_max : Cond.static Lib.Math.max.name ∈ fw_tbl ∧ Cond.initialized "java/lang/Math" ∈ fw_tbl ∧ Cond.code Lib.Math.max.name Lib.Math.max.code 2 (some .int) ∈ fw_tbl := ⟨fw_mem 231 (by decide +kernel) rfl, fw_mem 70 (by decide +kernel) rfl, fw_mem 232 (by decide +kernel) rfl⟩
theorem lw_min : Cond.static Lib.Math.min.name ∈ fw_tbl ∧ Cond.initialized "java/lang/Math" ∈ fw_tbl ∧ Cond.code Lib.Math.min.name Lib.Math.min.code 2 (some .int) ∈ fw_tbl := ⟨fw_mem 475 (by decide +kernel) rfl, fw_mem 70 (by decide +kernel) rfl, fw_mem 476 (by decide +kernel) rfl⟩
theorem lw_abs : Cond.static Lib.Math.abs.name ∈ fw_tbl ∧ Cond.initialized "java/lang/Math" ∈ fw_tbl ∧ Cond.code Lib.Math.abs.name Lib.Math.abs.code 1 (some .int) ∈ fw_tbl := ⟨fw_mem 631 (by decide +kernel) rfl, fw_mem 70 (by decide +kernel) rfl, fw_mem 632 (by decide +kernel) rfl⟩
theorem ff_0_9 : fw_fld 0 9 0 12 0 := ⟨_, _, _, fw_cls0, by decide, fw_mem 95 (by decide +kernel) rfl, by decide⟩
theorem ff_0_15 : fw_fld 0 15 0 12 1 := ⟨_, _, _, fw_cls0, by decide, fw_mem 97 (by decide +kernel) rfl, by decide⟩
theorem ff_0_19 : fw_fld 0 19 0 12 2 := ⟨_, _, _, fw_cls0, by decide, fw_mem 99 (by decide +kernel) rfl, by decide⟩
theorem ff_0_22 : fw_fld 0 22 0 12 5 := ⟨_, _, _, fw_cls0, by decide, fw_mem 108 (by decide +kernel) rfl, by decide⟩
theorem ff_1_11 : fw_fld 1 11 1 8 0 := ⟨_, _, _, fw_cls1, by decide, fw_mem 149 (by decide +kernel) rfl, by decide⟩
theorem ff_1_17 : fw_fld 1 17 1 8 1 := ⟨_, _, _, fw_cls1, by decide, fw_mem 151 (by decide +kernel) rfl, by decide⟩
theorem ff_1_21 : fw_fld 1 21 1 8 2 := ⟨_, _, _, fw_cls1, by decide, fw_mem 152 (by decide +kernel) rfl, by decide⟩
theorem ff_1_24 : fw_fld 1 24 1 8 3 := ⟨_, _, _, fw_cls1, by decide, fw_mem 154 (by decide +kernel) rfl, by decide⟩
theorem ff_1_27 : fw_fld 1 27 1 8 4 := ⟨_, _, _, fw_cls1, by decide, fw_mem 155 (by decide +kernel) rfl, by decide⟩
theorem ff_1_30 : fw_fld 1 30 1 8 5 := ⟨_, _, _, fw_cls1, by decide, fw_mem 157 (by decide +kernel) rfl, by decide⟩
theorem ff_1_34 : fw_fld 1 34 1 8 6 := ⟨_, _, _, fw_cls1, by decide, fw_mem 159 (by decide +kernel) rfl, by decide⟩
theorem fp_1_34 : fw_fldW 1 34 1 8 6 .int := ⟨_, _, _, fw_cls1, by decide, fw_mem 159 (by decide +kernel) rfl, by decide, rfl, rfl⟩
theorem ff_1_38 : fw_fld 1 38 1 8 7 := ⟨_, _, _, fw_cls1, by decide, fw_mem 162 (by decide +kernel) rfl, by decide⟩
theorem fp_1_38 : fw_fldW 1 38 1 8 7 .int := ⟨_, _, _, fw_cls1, by decide, fw_mem 162 (by decide +kernel) rfl, by decide, rfl, rfl⟩
theorem ff_1_45 : fw_fld 1 45 0 12 2 := ⟨_, _, _, fw_cls0, by decide, fw_mem 100 (by decide +kernel) rfl, by decide⟩
theorem fp_1_45 : fw_fldW 1 45 0 12 2 .int := ⟨_, _, _, fw_cls0, by decide, fw_mem 100 (by decide +kernel) rfl, by decide, rfl, rfl⟩
theorem ff_1_48 : fw_fld 1 48 0 12 1 := ⟨_, _, _, fw_cls0, by decide, fw_mem 98 (by decide +kernel) rfl, by decide⟩
theorem fp_1_48 : fw_fldW 1 48 0 12 1 .int := ⟨_, _, _, fw_cls0, by decide, fw_mem 98 (by decide +kernel) rfl, by decide, rfl, rfl⟩
theorem ff_1_58 : fw_fld 1 58 0 12 3 := ⟨_, _, _, fw_cls0, by decide, fw_mem 103 (by decide +kernel) rfl, by decide⟩
theorem fp_1_58 : fw_fldW 1 58 0 12 3 .int := ⟨_, _, _, fw_cls0, by decide, fw_mem 103 (by decide +kernel) rfl, by decide, rfl, rfl⟩
theorem ff_1_61 : fw_fld 1 61 0 12 4 := ⟨_, _, _, fw_cls0, by decide, fw_mem 106 (by decide +kernel) rfl, by decide⟩
theorem fp_1_61 : fw_fldW 1 61 0 12 4 .int := ⟨_, _, _, fw_cls0, by decide, fw_mem 106 (by decide +kernel) rfl, by decide, rfl, rfl⟩
theorem ff_1_64 : fw_fld 1 64 0 12 6 := ⟨_, _, _, fw_cls0, by decide, fw_mem 111 (by decide +kernel) rfl, by decide⟩
theorem fp_1_64 : fw_fldW 1 64 0 12 6 .int := ⟨_, _, _, fw_cls0, by decide, fw_mem 111 (by decide +kernel) rfl, by decide, rfl, rfl⟩
theorem ff_1_67 : fw_fld 1 67 0 12 5 := ⟨_, _, _, fw_cls0, by decide, fw_mem 109 (by decide +kernel) rfl, by decide⟩
theorem fp_1_67 : fw_fldW 1 67 0 12 5 .int := ⟨_, _, _, fw_cls0, by decide, fw_mem 109 (by decide +kernel) rfl, by decide, rfl, rfl⟩
theorem ff_1_70 : fw_fld 1 70 0 12 0 := ⟨_, _, _, fw_cls0, by decide, fw_mem 96 (by decide +kernel) rfl, by decide⟩
theorem ff_2_15 : fw_fld 2 15 2 4 0 := ⟨_, _, _, fw_cls2, by decide, fw_mem 233 (by decide +kernel) rfl, by decide⟩
theorem ff_2_21 : fw_fld 2 21 2 4 1 := ⟨_, _, _, fw_cls2, by decide, fw_mem 235 (by decide +kernel) rfl, by decide⟩
theorem ff_2_25 : fw_fld 2 25 2 4 2 := ⟨_, _, _, fw_cls2, by decide, fw_mem 237 (by decide +kernel) rfl, by decide⟩
theorem fp_2_25 : fw_fldW 2 25 2 4 2 .int := ⟨_, _, _, fw_cls2, by decide, fw_mem 237 (by decide +kernel) rfl, by decide, rfl, rfl⟩
theorem ff_2_29 : fw_fld 2 29 2 4 3 := ⟨_, _, _, fw_cls2, by decide, fw_mem 239 (by decide +kernel) rfl, by decide⟩
theorem fp_2_29 : fw_fldW 2 29 2 4 3 .int := ⟨_, _, _, fw_cls2, by decide, fw_mem 239 (by decide +kernel) rfl, by decide, rfl, rfl⟩
theorem ff_3_9 : fw_fld 3 9 3 5 0 := ⟨_, _, _, fw_cls3, by decide, fw_mem 257 (by decide +kernel) rfl, by decide⟩
theorem ff_3_15 : fw_fld 3 15 3 5 1 := ⟨_, _, _, fw_cls3, by decide, fw_mem 258 (by decide +kernel) rfl, by decide⟩
theorem ff_3_18 : fw_fld 3 18 3 5 2 := ⟨_, _, _, fw_cls3, by decide, fw_mem 260 (by decide +kernel) rfl, by decide⟩
theorem ff_3_21 : fw_fld 3 21 3 5 3 := ⟨_, _, _, fw_cls3, by decide, fw_mem 262 (by decide +kernel) rfl, by decide⟩
theorem ff_3_24 : fw_fld 3 24 3 5 4 := ⟨_, _, _, fw_cls3, by decide, fw_mem 264 (by decide +kernel) rfl, by decide⟩
theorem fp_3_24 : fw_fldW 3 24 3 5 4 .int := ⟨_, _, _, fw_cls3, by decide, fw_mem 264 (by decide +kernel) rfl, by decide, rfl, rfl⟩
theorem ff_4_9 : fw_fld 4 9 4 10 1 := ⟨_, _, _, fw_cls4, by decide, fw_mem 188 (by decide +kernel) rfl, by decide⟩
theorem ff_4_15 : fw_fld 4 15 4 10 2 := ⟨_, _, _, fw_cls4, by decide, fw_mem 189 (by decide +kernel) rfl, by decide⟩
theorem ff_4_18 : fw_fld 4 18 4 10 3 := ⟨_, _, _, fw_cls4, by decide, fw_mem 190 (by decide +kernel) rfl, by decide⟩
theorem ff_4_22 : fw_fld 4 22 4 10 4 := ⟨_, _, _, fw_cls4, by decide, fw_mem 192 (by decide +kernel) rfl, by decide⟩
theorem ff_4_25 : fw_fld 4 25 4 10 5 := ⟨_, _, _, fw_cls4, by decide, fw_mem 194 (by decide +kernel) rfl, by decide⟩
theorem ff_4_28 : fw_fld 4 28 4 10 6 := ⟨_, _, _, fw_cls4, by decide, fw_mem 195 (by decide +kernel) rfl, by decide⟩
theorem ff_4_31 : fw_fld 4 31 4 10 7 := ⟨_, _, _, fw_cls4, by decide, fw_mem 197 (by decide +kernel) rfl, by decide⟩
theorem ff_4_34 : fw_fld 4 34 4 10 8 := ⟨_, _, _, fw_cls4, by decide, fw_mem 198 (by decide +kernel) rfl, by decide⟩
theorem ff_4_37 : fw_fld 4 37 4 10 9 := ⟨_, _, _, fw_cls4, by decide, fw_mem 200 (by decide +kernel) rfl, by decide⟩
theorem ff_4_40 : fw_fld 4 40 4 10 0 := ⟨_, _, _, fw_cls4, by decide, fw_mem 187 (by decide +kernel) rfl, by decide⟩
theorem ff_4_47 : fw_fld 4 47 1 8 6 := ⟨_, _, _, fw_cls1, by decide, fw_mem 160 (by decide +kernel) rfl, by decide⟩
theorem ff_4_73 : fw_fld 4 73 0 12 3 := ⟨_, _, _, fw_cls0, by decide, fw_mem 102 (by decide +kernel) rfl, by decide⟩
theorem ff_4_82 : fw_fld 4 82 0 12 4 := ⟨_, _, _, fw_cls0, by decide, fw_mem 105 (by decide +kernel) rfl, by decide⟩
theorem ff_4_85 : fw_fld 4 85 0 12 8 := ⟨_, _, _, fw_cls0, by decide, fw_mem 115 (by decide +kernel) rfl, by decide⟩
theorem ff_4_104 : fw_fld 4 104 0 12 7 := ⟨_, _, _, fw_cls0, by decide, fw_mem 114 (by decide +kernel) rfl, by decide⟩
theorem ff_4_106 : fw_fld 4 106 0 12 9 := ⟨_, _, _, fw_cls0, by decide, fw_mem 118 (by decide +kernel) rfl, by decide⟩
theorem ff_4_138 : fw_fld 4 138 1 8 0 := ⟨_, _, _, fw_cls1, by decide, fw_mem 150 (by decide +kernel) rfl, by decide⟩
theorem ff_4_142 : fw_fld 4 142 0 12 10 := ⟨_, _, _, fw_cls0, by decide, fw_mem 120 (by decide +kernel) rfl, by decide⟩
theorem ff_4_145 : fw_fld 4 145 0 12 11 := ⟨_, _, _, fw_cls0, by decide, fw_mem 122 (by decide +kernel) rfl, by decide⟩
theorem ff_5_12 : fw_fld 5 12 5 10 0 := ⟨_, _, _, fw_cls5, by decide, fw_mem 289 (by decide +kernel) rfl, by decide⟩
theorem ff_5_21 : fw_fld 5 21 5 10 1 := ⟨_, _, _, fw_cls5, by decide, fw_mem 290 (by decide +kernel) rfl, by decide⟩
theorem ff_5_27 : fw_fld 5 27 5 10 2 := ⟨_, _, _, fw_cls5, by decide, fw_mem 291 (by decide +kernel) rfl, by decide⟩
theorem ff_5_34 : fw_fld 5 34 5 10 3 := ⟨_, _, _, fw_cls5, by decide, fw_mem 292 (by decide +kernel) rfl, by decide⟩
theorem ff_5_38 : fw_fld 5 38 5 10 4 := ⟨_, _, _, fw_cls5, by decide, fw_mem 293 (by decide +kernel) rfl, by decide⟩
theorem ff_5_41 : fw_fld 5 41 5 10 5 := ⟨_, _, _, fw_cls5, by decide, fw_mem 294 (by decide +kernel) rfl, by decide⟩
theorem ff_5_48 : fw_fld 5 48 5 10 6 := ⟨_, _, _, fw_cls5, by decide, fw_mem 295 (by decide +kernel) rfl, by decide⟩
theorem ff_5_55 : fw_fld 5 55 5 10 7 := ⟨_, _, _, fw_cls5, by decide, fw_mem 296 (by decide +kernel) rfl, by decide⟩
theorem fp_5_55 : fw_fldW 5 55 5 10 7 .int := ⟨_, _, _, fw_cls5, by decide, fw_mem 296 (by decide +kernel) rfl, by decide, rfl, rfl⟩
theorem ff_5_59 : fw_fld 5 59 5 10 8 := ⟨_, _, _, fw_cls5, by decide, fw_mem 297 (by decide +kernel) rfl, by decide⟩
theorem fp_5_59 : fw_fldW 5 59 5 10 8 .int := ⟨_, _, _, fw_cls5, by decide, fw_mem 297 (by decide +kernel) rfl, by decide, rfl, rfl⟩
theorem ff_5_89 : fw_fld 5 89 0 12 7 := ⟨_, _, _, fw_cls0, by decide, fw_mem 113 (by decide +kernel) rfl, by decide⟩
theorem fp_5_89 : fw_fldW 5 89 0 12 7 .int := ⟨_, _, _, fw_cls0, by decide, fw_mem 113 (by decide +kernel) rfl, by decide, rfl, rfl⟩
theorem ff_5_94 : fw_fld 5 94 0 12 8 := ⟨_, _, _, fw_cls0, by decide, fw_mem 116 (by decide +kernel) rfl, by decide⟩
theorem fp_5_94 : fw_fldW 5 94 0 12 8 .int := ⟨_, _, _, fw_cls0, by decide, fw_mem 116 (by decide +kernel) rfl, by decide, rfl, rfl⟩
theorem ff_5_97 : fw_fld 5 97 0 12 9 := ⟨_, _, _, fw_cls0, by decide, fw_mem 117 (by decide +kernel) rfl, by decide⟩
theorem fp_5_97 : fw_fldW 5 97 0 12 9 .int := ⟨_, _, _, fw_cls0, by decide, fw_mem 117 (by decide +kernel) rfl, by decide, rfl, rfl⟩
theorem ff_5_104 : fw_fld 5 104 0 12 2 := ⟨_, _, _, fw_cls0, by decide, fw_mem 101 (by decide +kernel) rfl, by decide⟩
theorem ff_5_123 : fw_fld 5 123 0 12 11 := ⟨_, _, _, fw_cls0, by decide, fw_mem 121 (by decide +kernel) rfl, by decide⟩
theorem fp_5_123 : fw_fldW 5 123 0 12 11 .long := ⟨_, _, _, fw_cls0, by decide, fw_mem 121 (by decide +kernel) rfl, by decide, rfl, rfl⟩
theorem ff_5_127 : fw_fld 5 127 0 12 10 := ⟨_, _, _, fw_cls0, by decide, fw_mem 119 (by decide +kernel) rfl, by decide⟩
theorem fp_5_127 : fw_fldW 5 127 0 12 10 .int := ⟨_, _, _, fw_cls0, by decide, fw_mem 119 (by decide +kernel) rfl, by decide, rfl, rfl⟩
theorem ff_5_138 : fw_fld 5 138 1 8 2 := ⟨_, _, _, fw_cls1, by decide, fw_mem 153 (by decide +kernel) rfl, by decide⟩
theorem ff_5_145 : fw_fld 5 145 0 12 3 := ⟨_, _, _, fw_cls0, by decide, fw_mem 104 (by decide +kernel) rfl, by decide⟩
theorem ff_5_148 : fw_fld 5 148 0 12 4 := ⟨_, _, _, fw_cls0, by decide, fw_mem 107 (by decide +kernel) rfl, by decide⟩
theorem ff_5_151 : fw_fld 5 151 0 12 5 := ⟨_, _, _, fw_cls0, by decide, fw_mem 110 (by decide +kernel) rfl, by decide⟩
theorem ff_5_158 : fw_fld 5 158 0 12 6 := ⟨_, _, _, fw_cls0, by decide, fw_mem 112 (by decide +kernel) rfl, by decide⟩
theorem ff_5_172 : fw_fld 5 172 4 10 8 := ⟨_, _, _, fw_cls4, by decide, fw_mem 199 (by decide +kernel) rfl, by decide⟩
theorem ff_5_175 : fw_fld 5 175 4 10 3 := ⟨_, _, _, fw_cls4, by decide, fw_mem 191 (by decide +kernel) rfl, by decide⟩
theorem ff_5_177 : fw_fld 5 177 4 10 4 := ⟨_, _, _, fw_cls4, by decide, fw_mem 193 (by decide +kernel) rfl, by decide⟩
theorem ff_5_179 : fw_fld 5 179 4 10 6 := ⟨_, _, _, fw_cls4, by decide, fw_mem 196 (by decide +kernel) rfl, by decide⟩
theorem ff_5_214 : fw_fld 5 214 1 8 7 := ⟨_, _, _, fw_cls1, by decide, fw_mem 163 (by decide +kernel) rfl, by decide⟩
theorem ff_5_228 : fw_fld 5 228 1 8 4 := ⟨_, _, _, fw_cls1, by decide, fw_mem 156 (by decide +kernel) rfl, by decide⟩
theorem ff_5_231 : fw_fld 5 231 1 8 5 := ⟨_, _, _, fw_cls1, by decide, fw_mem 158 (by decide +kernel) rfl, by decide⟩
theorem ff_5_237 : fw_fld 5 237 2 4 3 := ⟨_, _, _, fw_cls2, by decide, fw_mem 240 (by decide +kernel) rfl, by decide⟩
theorem ff_5_240 : fw_fld 5 240 2 4 2 := ⟨_, _, _, fw_cls2, by decide, fw_mem 238 (by decide +kernel) rfl, by decide⟩
theorem ff_5_262 : fw_fld 5 262 3 5 4 := ⟨_, _, _, fw_cls3, by decide, fw_mem 265 (by decide +kernel) rfl, by decide⟩
theorem fp_5_262 : fw_fldW 5 262 3 5 4 .int := ⟨_, _, _, fw_cls3, by decide, fw_mem 265 (by decide +kernel) rfl, by decide, rfl, rfl⟩
theorem ff_5_266 : fw_fld 5 266 3 5 3 := ⟨_, _, _, fw_cls3, by decide, fw_mem 263 (by decide +kernel) rfl, by decide⟩
theorem ff_5_269 : fw_fld 5 269 3 5 2 := ⟨_, _, _, fw_cls3, by decide, fw_mem 261 (by decide +kernel) rfl, by decide⟩
theorem ff_5_276 : fw_fld 5 276 3 5 1 := ⟨_, _, _, fw_cls3, by decide, fw_mem 259 (by decide +kernel) rfl, by decide⟩
theorem ff_5_296 : fw_fld 5 296 1 8 6 := ⟨_, _, _, fw_cls1, by decide, fw_mem 161 (by decide +kernel) rfl, by decide⟩
theorem ff_5_305 : fw_fld 5 305 5 10 9 := ⟨_, _, _, fw_cls5, by decide, fw_mem 298 (by decide +kernel) rfl, by decide⟩
theorem fp_5_305 : fw_fldW 5 305 5 10 9 .long := ⟨_, _, _, fw_cls5, by decide, fw_mem 298 (by decide +kernel) rfl, by decide, rfl, rfl⟩
theorem ff_5_332 : fw_fld 5 332 2 4 0 := ⟨_, _, _, fw_cls2, by decide, fw_mem 234 (by decide +kernel) rfl, by decide⟩
theorem ff_5_335 : fw_fld 5 335 2 4 1 := ⟨_, _, _, fw_cls2, by decide, fw_mem 236 (by decide +kernel) rfl, by decide⟩
theorem ff_6_7 : fw_fld 6 7 6 36 2 := ⟨_, _, _, fw_cls6, by decide, fw_mem 777 (by decide +kernel) rfl, by decide⟩
theorem fp_6_7 : fw_fldW 6 7 6 36 2 .int := ⟨_, _, _, fw_cls6, by decide, fw_mem 777 (by decide +kernel) rfl, by decide, rfl, rfl⟩
theorem ff_6_13 : fw_fld 6 13 6 36 5 := ⟨_, _, _, fw_cls6, by decide, fw_mem 780 (by decide +kernel) rfl, by decide⟩
theorem ff_6_17 : fw_fld 6 17 6 36 6 := ⟨_, _, _, fw_cls6, by decide, fw_mem 781 (by decide +kernel) rfl, by decide⟩
theorem ff_6_20 : fw_fld 6 20 6 36 7 := ⟨_, _, _, fw_cls6, by decide, fw_mem 782 (by decide +kernel) rfl, by decide⟩
theorem ff_6_24 : fw_fld 6 24 6 36 8 := ⟨_, _, _, fw_cls6, by decide, fw_mem 783 (by decide +kernel) rfl, by decide⟩
theorem ff_6_27 : fw_fld 6 27 6 36 9 := ⟨_, _, _, fw_cls6, by decide, fw_mem 784 (by decide +kernel) rfl, by decide⟩
theorem ff_6_30 : fw_fld 6 30 6 36 10 := ⟨_, _, _, fw_cls6, by decide, fw_mem 785 (by decide +kernel) rfl, by decide⟩
theorem ff_6_33 : fw_fld 6 33 6 36 11 := ⟨_, _, _, fw_cls6, by decide, fw_mem 786 (by decide +kernel) rfl, by decide⟩
theorem ff_6_36 : fw_fld 6 36 6 36 12 := ⟨_, _, _, fw_cls6, by decide, fw_mem 787 (by decide +kernel) rfl, by decide⟩
theorem ff_6_39 : fw_fld 6 39 6 36 13 := ⟨_, _, _, fw_cls6, by decide, fw_mem 788 (by decide +kernel) rfl, by decide⟩
theorem ff_6_42 : fw_fld 6 42 6 36 14 := ⟨_, _, _, fw_cls6, by decide, fw_mem 789 (by decide +kernel) rfl, by decide⟩
theorem ff_6_46 : fw_fld 6 46 6 36 15 := ⟨_, _, _, fw_cls6, by decide, fw_mem 790 (by decide +kernel) rfl, by decide⟩
theorem ff_6_49 : fw_fld 6 49 6 36 16 := ⟨_, _, _, fw_cls6, by decide, fw_mem 791 (by decide +kernel) rfl, by decide⟩
theorem ff_6_52 : fw_fld 6 52 6 36 17 := ⟨_, _, _, fw_cls6, by decide, fw_mem 792 (by decide +kernel) rfl, by decide⟩
theorem ff_6_55 : fw_fld 6 55 6 36 18 := ⟨_, _, _, fw_cls6, by decide, fw_mem 793 (by decide +kernel) rfl, by decide⟩
theorem ff_6_58 : fw_fld 6 58 6 36 19 := ⟨_, _, _, fw_cls6, by decide, fw_mem 794 (by decide +kernel) rfl, by decide⟩
theorem ff_6_61 : fw_fld 6 61 6 36 20 := ⟨_, _, _, fw_cls6, by decide, fw_mem 795 (by decide +kernel) rfl, by decide⟩
theorem ff_6_64 : fw_fld 6 64 6 36 21 := ⟨_, _, _, fw_cls6, by decide, fw_mem 796 (by decide +kernel) rfl, by decide⟩
theorem ff_6_67 : fw_fld 6 67 6 36 22 := ⟨_, _, _, fw_cls6, by decide, fw_mem 797 (by decide +kernel) rfl, by decide⟩
theorem ff_6_70 : fw_fld 6 70 6 36 23 := ⟨_, _, _, fw_cls6, by decide, fw_mem 798 (by decide +kernel) rfl, by decide⟩
theorem ff_6_73 : fw_fld 6 73 6 36 24 := ⟨_, _, _, fw_cls6, by decide, fw_mem 799 (by decide +kernel) rfl, by decide⟩
theorem ff_6_76 : fw_fld 6 76 6 36 25 := ⟨_, _, _, fw_cls6, by decide, fw_mem 800 (by decide +kernel) rfl, by decide⟩
theorem ff_6_79 : fw_fld 6 79 6 36 26 := ⟨_, _, _, fw_cls6, by decide, fw_mem 801 (by decide +kernel) rfl, by decide⟩
theorem ff_6_82 : fw_fld 6 82 6 36 27 := ⟨_, _, _, fw_cls6, by decide, fw_mem 802 (by decide +kernel) rfl, by decide⟩
theorem ff_6_85 : fw_fld 6 85 6 36 29 := ⟨_, _, _, fw_cls6, by decide, fw_mem 804 (by decide +kernel) rfl, by decide⟩
theorem ff_6_88 : fw_fld 6 88 6 36 30 := ⟨_, _, _, fw_cls6, by decide, fw_mem 805 (by decide +kernel) rfl, by decide⟩
theorem ff_6_91 : fw_fld 6 91 6 36 32 := ⟨_, _, _, fw_cls6, by decide, fw_mem 807 (by decide +kernel) rfl, by decide⟩
theorem ff_6_94 : fw_fld 6 94 6 36 33 := ⟨_, _, _, fw_cls6, by decide, fw_mem 808 (by decide +kernel) rfl, by decide⟩
theorem ff_6_97 : fw_fld 6 97 6 36 34 := ⟨_, _, _, fw_cls6, by decide, fw_mem 809 (by decide +kernel) rfl, by decide⟩
theorem ff_6_100 : fw_fld 6 100 6 36 35 := ⟨_, _, _, fw_cls6, by decide, fw_mem 810 (by decide +kernel) rfl, by decide⟩
theorem ff_6_106 : fw_fld 6 106 6 36 0 := ⟨_, _, _, fw_cls6, by decide, fw_mem 775 (by decide +kernel) rfl, by decide⟩
theorem fp_6_106 : fw_fldW 6 106 6 36 0 .int := ⟨_, _, _, fw_cls6, by decide, fw_mem 775 (by decide +kernel) rfl, by decide, rfl, rfl⟩
theorem ff_6_109 : fw_fld 6 109 6 36 4 := ⟨_, _, _, fw_cls6, by decide, fw_mem 779 (by decide +kernel) rfl, by decide⟩
theorem fp_6_109 : fw_fldW 6 109 6 36 4 .int := ⟨_, _, _, fw_cls6, by decide, fw_mem 779 (by decide +kernel) rfl, by decide, rfl, rfl⟩
theorem ff_6_112 : fw_fld 6 112 6 36 31 := ⟨_, _, _, fw_cls6, by decide, fw_mem 806 (by decide +kernel) rfl, by decide⟩
theorem fp_6_112 : fw_fldW 6 112 6 36 31 .int := ⟨_, _, _, fw_cls6, by decide, fw_mem 806 (by decide +kernel) rfl, by decide, rfl, rfl⟩
theorem ff_6_134 : fw_fld 6 134 6 36 3 := ⟨_, _, _, fw_cls6, by decide, fw_mem 778 (by decide +kernel) rfl, by decide⟩
theorem fp_6_134 : fw_fldW 6 134 6 36 3 .int := ⟨_, _, _, fw_cls6, by decide, fw_mem 778 (by decide +kernel) rfl, by decide, rfl, rfl⟩
theorem ff_6_200 : fw_fld 6 200 6 36 28 := ⟨_, _, _, fw_cls6, by decide, fw_mem 803 (by decide +kernel) rfl, by decide⟩
theorem fp_6_200 : fw_fldW 6 200 6 36 28 .int := ⟨_, _, _, fw_cls6, by decide, fw_mem 803 (by decide +kernel) rfl, by decide, rfl, rfl⟩
theorem ff_6_236 : fw_fld 6 236 6 36 1 := ⟨_, _, _, fw_cls6, by decide, fw_mem 776 (by decide +kernel) rfl, by decide⟩
theorem fp_6_236 : fw_fldW 6 236 6 36 1 .long := ⟨_, _, _, fw_cls6, by decide, fw_mem 776 (by decide +kernel) rfl, by decide, rfl, rfl⟩
theorem ck_5_213 : Cond.constant RX5 213 1000003 ∈ fw_tbl := fw_mem 624 (by decide +kernel) rfl
theorem cl_5_309 : Cond.constantLong RX5 309 (10) ∈ fw_tbl := fw_mem 573 (by decide +kernel) rfl
theorem cl_5_313 : Cond.constantLong RX5 313 (100) ∈ fw_tbl := fw_mem 586 (by decide +kernel) rfl
theorem cl_5_318 : Cond.constantLong RX5 318 (1000) ∈ fw_tbl := fw_mem 595 (by decide +kernel) rfl
theorem cl_5_320 : Cond.constantLong RX5 320 (10000) ∈ fw_tbl := fw_mem 600 (by decide +kernel) rfl
theorem cl_5_322 : Cond.constantLong RX5 322 (100000) ∈ fw_tbl := fw_mem 605 (by decide +kernel) rfl
theorem cl_5_281 : Cond.constantLong RX5 281 (-1) ∈ fw_tbl := fw_mem 734 (by decide +kernel) rfl
theorem cl_5_283 : Cond.constantLong RX5 283 (-2) ∈ fw_tbl := fw_mem 735 (by decide +kernel) rfl
theorem cl_6_192 : Cond.constantLong RX6 192 (255) ∈ fw_tbl := fw_mem 996 (by decide +kernel) rfl
theorem cl_6_198 : Cond.constantLong RX6 198 (256) ∈ fw_tbl := fw_mem 997 (by decide +kernel) rfl
theorem cl_6_240 : Cond.constantLong RX6 240 (11) ∈ fw_tbl := fw_mem 1058 (by decide +kernel) rfl
theorem cl_6_242 : Cond.constantLong RX6 242 (101) ∈ fw_tbl := fw_mem 1059 (by decide +kernel) rfl
theorem cl_6_244 : Cond.constantLong RX6 244 (1001) ∈ fw_tbl := fw_mem 1060 (by decide +kernel) rfl
theorem cl_6_246 : Cond.constantLong RX6 246 (10011) ∈ fw_tbl := fw_mem 1061 (by decide +kernel) rfl
theorem cl_6_248 : Cond.constantLong RX6 248 (100011) ∈ fw_tbl := fw_mem 1062 (by decide +kernel) rfl
theorem cl_6_253 : Cond.constantLong RX6 253 (31) ∈ fw_tbl := fw_mem 1079 (by decide +kernel) rfl
theorem cl_6_255 : Cond.constantLong RX6 255 (7) ∈ fw_tbl := fw_mem 1080 (by decide +kernel) rfl
theorem cl_6_257 : Cond.constantLong RX6 257 (1000003) ∈ fw_tbl := fw_mem 1081 (by decide +kernel) rfl
theorem cl_6_270 : Cond.constantLong RX6 270 (-1) ∈ fw_tbl := fw_mem 1146 (by decide +kernel) rfl
theorem cl_6_272 : Cond.constantLong RX6 272 (-2) ∈ fw_tbl := fw_mem 1147 (by decide +kernel) rfl
