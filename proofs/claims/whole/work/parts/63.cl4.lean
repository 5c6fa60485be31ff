set_option maxRecDepth 20000 in
set_option maxHeartbeats 4000000 in
theorem sp_X5_isMachine (m : Int) (M : fw_F) (L : fw_G) : fw_SC mX5_isMachine [fw_r 0, fw_i m] M L (fw_pure (some (fw_i (fw_b (0 ≤ m ∧ m < M 0 7)))) M L) := by
  refine fw_SP_of pl_X5_isMachine (ls := [_, _]) rfl (Nat.le_of_ble_eq_true rfl) fun hA hM => ?_
  refine fw_iload_n dX5_isMachine_0 rfl rfl ?_
  refine fw_if_lt 16 dX5_isMachine_1 (by decide) (fun h1 => ?_) (fun h1 => ?_)
  · skip
    refine fw_iconst dX5_isMachine_16 ⟨by decide, by decide⟩ ?_
    exact fw_zret dX5_isMachine_17 ⟨rfl, rfl, rfl⟩ (by first | decide | exact fw_b_01 _ | omega) (⟨by first | exact fw_zT (by omega) | exact fw_zF (by omega), rfl, rfl⟩)
  · skip
    refine fw_iload_n dX5_isMachine_4 rfl rfl ?_
    refine fw_aload_n dX5_isMachine_5 rfl rfl ?_
    refine fw_geti 7 rfl dX5_isMachine_6 ff_5_55 ly0_0 ⟨by decide, by decide⟩ rfl ?_
    refine fw_icmp_ge 16 dX5_isMachine_9 (by decide) (fun h9 => ?_) (fun h9 => ?_)
    · skip
      refine fw_iconst dX5_isMachine_16 ⟨by decide, by decide⟩ ?_
      exact fw_zret dX5_isMachine_17 ⟨rfl, rfl, rfl⟩ (by first | decide | exact fw_b_01 _ | omega) (⟨by first | exact fw_zT (by omega) | exact fw_zF (by omega), rfl, rfl⟩)
    · skip
      refine fw_iconst dX5_isMachine_12 ⟨by decide, by decide⟩ ?_
      refine fw_goto 17 dX5_isMachine_13 (by decide) ?_
      exact fw_zret dX5_isMachine_17 ⟨rfl, rfl, rfl⟩ (by first | decide | exact fw_b_01 _ | omega) (⟨by first | exact fw_zT (by omega) | exact fw_zF (by omega), rfl, rfl⟩)

set_option maxRecDepth 20000 in
set_option maxHeartbeats 4000000 in
theorem sp_X5_isThing (t : Int) (M : fw_F) (L : fw_G) : fw_SC mX5_isThing [fw_i t] M L (fw_pure (some (fw_i (fw_b (0 ≤ t ∧ t < 12)))) M L) := by
  refine fw_SP_of pl_X5_isThing (ls := [_]) rfl (Nat.le_of_ble_eq_true rfl) fun hA hM => ?_
  refine fw_iload_n dX5_isThing_0 rfl rfl ?_
  refine fw_if_lt 14 dX5_isThing_1 (by decide) (fun h1 => ?_) (fun h1 => ?_)
  · skip
    refine fw_iconst dX5_isThing_14 ⟨by decide, by decide⟩ ?_
    exact fw_zret dX5_isThing_15 ⟨rfl, rfl, rfl⟩ (by first | decide | exact fw_b_01 _ | omega) (⟨by first | exact fw_zT (by omega) | exact fw_zF (by omega), rfl, rfl⟩)
  · skip
    refine fw_iload_n dX5_isThing_4 rfl rfl ?_
    refine fw_bipush dX5_isThing_5 ⟨by decide, by decide⟩ (by decide) ?_
    refine fw_icmp_ge 14 dX5_isThing_7 (by decide) (fun h7 => ?_) (fun h7 => ?_)
    · skip
      refine fw_iconst dX5_isThing_14 ⟨by decide, by decide⟩ ?_
      exact fw_zret dX5_isThing_15 ⟨rfl, rfl, rfl⟩ (by first | decide | exact fw_b_01 _ | omega) (⟨by first | exact fw_zT (by omega) | exact fw_zF (by omega), rfl, rfl⟩)
    · skip
      refine fw_iconst dX5_isThing_10 ⟨by decide, by decide⟩ ?_
      refine fw_goto 15 dX5_isThing_11 (by decide) ?_
      exact fw_zret dX5_isThing_15 ⟨rfl, rfl, rfl⟩ (by first | decide | exact fw_b_01 _ | omega) (⟨by first | exact fw_zT (by omega) | exact fw_zF (by omega), rfl, rfl⟩)

set_option maxRecDepth 20000 in
set_option maxHeartbeats 4000000 in
theorem sp_X5_isOwnName (t : Int) (M : fw_F) (L : fw_G) : fw_SC mX5_isOwnName [fw_i t] M L (fw_pure (some (fw_i (fw_b (0 ≤ t ∧ t < 10)))) M L) := by
  refine fw_SP_of pl_X5_isOwnName (ls := [_]) rfl (Nat.le_of_ble_eq_true rfl) fun hA hM => ?_
  refine fw_iload_n dX5_isOwnName_0 rfl rfl ?_
  refine fw_if_lt 14 dX5_isOwnName_1 (by decide) (fun h1 => ?_) (fun h1 => ?_)
  · skip
    refine fw_iconst dX5_isOwnName_14 ⟨by decide, by decide⟩ ?_
    exact fw_zret dX5_isOwnName_15 ⟨rfl, rfl, rfl⟩ (by first | decide | exact fw_b_01 _ | omega) (⟨by first | exact fw_zT (by omega) | exact fw_zF (by omega), rfl, rfl⟩)
  · skip
    refine fw_iload_n dX5_isOwnName_4 rfl rfl ?_
    refine fw_bipush dX5_isOwnName_5 ⟨by decide, by decide⟩ (by decide) ?_
    refine fw_icmp_ge 14 dX5_isOwnName_7 (by decide) (fun h7 => ?_) (fun h7 => ?_)
    · skip
      refine fw_iconst dX5_isOwnName_14 ⟨by decide, by decide⟩ ?_
      exact fw_zret dX5_isOwnName_15 ⟨rfl, rfl, rfl⟩ (by first | decide | exact fw_b_01 _ | omega) (⟨by first | exact fw_zT (by omega) | exact fw_zF (by omega), rfl, rfl⟩)
    · skip
      refine fw_iconst dX5_isOwnName_10 ⟨by decide, by decide⟩ ?_
      refine fw_goto 15 dX5_isOwnName_11 (by decide) ?_
      exact fw_zret dX5_isOwnName_15 ⟨rfl, rfl, rfl⟩ (by first | decide | exact fw_b_01 _ | omega) (⟨by first | exact fw_zT (by omega) | exact fw_zF (by omega), rfl, rfl⟩)

set_option maxRecDepth 20000 in
set_option maxHeartbeats 4000000 in
theorem sp_X5_isPerson (t : Int) (M : fw_F) (L : fw_G) : fw_SC mX5_isPerson [fw_i t] M L (fw_pure (some (fw_i (fw_b (0 ≤ t ∧ t < 8)))) M L) := by
  refine fw_SP_of pl_X5_isPerson (ls := [_]) rfl (Nat.le_of_ble_eq_true rfl) fun hA hM => ?_
  refine fw_iload_n dX5_isPerson_0 rfl rfl ?_
  refine fw_if_lt 14 dX5_isPerson_1 (by decide) (fun h1 => ?_) (fun h1 => ?_)
  · skip
    refine fw_iconst dX5_isPerson_14 ⟨by decide, by decide⟩ ?_
    exact fw_zret dX5_isPerson_15 ⟨rfl, rfl, rfl⟩ (by first | decide | exact fw_b_01 _ | omega) (⟨by first | exact fw_zT (by omega) | exact fw_zF (by omega), rfl, rfl⟩)
  · skip
    refine fw_iload_n dX5_isPerson_4 rfl rfl ?_
    refine fw_bipush dX5_isPerson_5 ⟨by decide, by decide⟩ (by decide) ?_
    refine fw_icmp_ge 14 dX5_isPerson_7 (by decide) (fun h7 => ?_) (fun h7 => ?_)
    · skip
      refine fw_iconst dX5_isPerson_14 ⟨by decide, by decide⟩ ?_
      exact fw_zret dX5_isPerson_15 ⟨rfl, rfl, rfl⟩ (by first | decide | exact fw_b_01 _ | omega) (⟨by first | exact fw_zT (by omega) | exact fw_zF (by omega), rfl, rfl⟩)
    · skip
      refine fw_iconst dX5_isPerson_10 ⟨by decide, by decide⟩ ?_
      refine fw_goto 15 dX5_isPerson_11 (by decide) ?_
      exact fw_zret dX5_isPerson_15 ⟨rfl, rfl, rfl⟩ (by first | decide | exact fw_b_01 _ | omega) (⟨by first | exact fw_zT (by omega) | exact fw_zF (by omega), rfl, rfl⟩)

set_option maxRecDepth 20000 in
set_option maxHeartbeats 4000000 in
theorem sp_X5_isDay (t : Int) (M : fw_F) (L : fw_G) : fw_SC mX5_isDay [fw_r 0, fw_i t] M L (fw_pure (some (fw_i (fw_b (0 ≤ t ∧ t ≤ M 1 7)))) M L) := by
  refine fw_SP_of pl_X5_isDay (ls := [_, _]) rfl (Nat.le_of_ble_eq_true rfl) fun hA hM => ?_
  refine fw_iload_n dX5_isDay_0 rfl rfl ?_
  refine fw_if_lt 19 dX5_isDay_1 (by decide) (fun h1 => ?_) (fun h1 => ?_)
  · skip
    refine fw_iconst dX5_isDay_19 ⟨by decide, by decide⟩ ?_
    exact fw_zret dX5_isDay_20 ⟨rfl, rfl, rfl⟩ (by first | decide | exact fw_b_01 _ | omega) (⟨by first | exact fw_zT (by omega) | exact fw_zF (by omega), rfl, rfl⟩)
  · skip
    refine fw_iload_n dX5_isDay_4 rfl rfl ?_
    refine fw_aload_n dX5_isDay_5 rfl rfl ?_
    refine fw_getr 0 1 rfl dX5_isDay_6 ff_5_12 ly0_0 ⟨by decide, by decide⟩ rfl rfl (by decide) ?_
    refine fw_geti 7 rfl dX5_isDay_9 ff_5_214 ly0_1 ⟨by decide, by decide⟩ rfl ?_
    refine fw_icmp_gt 19 dX5_isDay_12 (by decide) (fun h12 => ?_) (fun h12 => ?_)
    · skip
      refine fw_iconst dX5_isDay_19 ⟨by decide, by decide⟩ ?_
      exact fw_zret dX5_isDay_20 ⟨rfl, rfl, rfl⟩ (by first | decide | exact fw_b_01 _ | omega) (⟨by first | exact fw_zT (by omega) | exact fw_zF (by omega), rfl, rfl⟩)
    · skip
      refine fw_iconst dX5_isDay_15 ⟨by decide, by decide⟩ ?_
      refine fw_goto 20 dX5_isDay_16 (by decide) ?_
      exact fw_zret dX5_isDay_20 ⟨rfl, rfl, rfl⟩ (by first | decide | exact fw_b_01 _ | omega) (⟨by first | exact fw_zT (by omega) | exact fw_zF (by omega), rfl, rfl⟩)

set_option maxRecDepth 20000 in
set_option maxHeartbeats 4000000 in
theorem sp_X3_begin (pe th d : Int) (N : fw_F) (L : fw_G) (h : 0 ≤ N 198 4 ∧ N 198 4 < 20) : fw_SC mX3_begin [fw_r 198, fw_i pe, fw_i th, fw_i d] N L (fun r M2 L2 => r = some (fw_i (N 198 4)) ∧ L2 = L ∧ (∀ k, ¬ k = 198 → ¬ k = 199 → ¬ k = 200 → ¬ k = 201 → ¬ k = 202 → M2 k = N k) ∧ M2 198 4 = N 198 4 + 1 ∧ (∀ i, M2 199 i = if i = N 198 4 then pe else N 199 i) ∧ (∀ i, M2 200 i = if i = N 198 4 then th else N 200 i) ∧ (∀ i, M2 201 i = if i = N 198 4 then d else N 201 i) ∧ (∀ i, M2 202 i = if i = N 198 4 then -9 else N 202 i)) := by
  refine fw_SP_of pl_X3_begin (ls := [_, _, _, _]) rfl (Nat.le_of_ble_eq_true rfl) fun hA hM => ?_
  refine fw_aload_n dX3_begin_0 rfl rfl ?_
  refine fw_getr 0 199 rfl dX3_begin_1 ff_3_9 ly0_198 ⟨by decide, by decide⟩ rfl rfl (by decide) ?_
  refine fw_aload_n dX3_begin_4 rfl rfl ?_
  refine fw_geti 4 rfl dX3_begin_5 ff_3_24 ly0_198 ⟨by decide, by decide⟩ rfl ?_
  refine fw_iload_n dX3_begin_8 rfl rfl ?_
  refine fw_iastore dX3_begin_9 ly0_199 (by decide) ⟨by decide, by decide⟩ ⟨by omega, by omega⟩ ?_
  refine fw_aload_n dX3_begin_10 rfl rfl ?_
  refine fw_getr 1 200 rfl dX3_begin_11 ff_3_15 ly0_198 ⟨by decide, by decide⟩ rfl rfl (by decide) ?_
  refine fw_aload_n dX3_begin_14 rfl rfl ?_
  refine fw_geti 4 rfl dX3_begin_15 ff_3_24 ly0_198 ⟨by decide, by decide⟩ rfl ?_
  simp (disch := decide) only [fw_updne]
  refine fw_iload_n dX3_begin_18 rfl rfl ?_
  refine fw_iastore dX3_begin_19 ly0_200 (by decide) ⟨by decide, by decide⟩ ⟨by omega, by omega⟩ ?_
  refine fw_aload_n dX3_begin_20 rfl rfl ?_
  refine fw_getr 2 201 rfl dX3_begin_21 ff_3_18 ly0_198 ⟨by decide, by decide⟩ rfl rfl (by decide) ?_
  refine fw_aload_n dX3_begin_24 rfl rfl ?_
  refine fw_geti 4 rfl dX3_begin_25 ff_3_24 ly0_198 ⟨by decide, by decide⟩ rfl ?_
  simp (disch := decide) only [fw_updne]
  refine fw_iload_n dX3_begin_28 rfl rfl ?_
  refine fw_iastore dX3_begin_29 ly0_201 (by decide) ⟨by decide, by decide⟩ ⟨by omega, by omega⟩ ?_
  refine fw_aload_n dX3_begin_30 rfl rfl ?_
  refine fw_getr 3 202 rfl dX3_begin_31 ff_3_21 ly0_198 ⟨by decide, by decide⟩ rfl rfl (by decide) ?_
  refine fw_aload_n dX3_begin_34 rfl rfl ?_
  refine fw_geti 4 rfl dX3_begin_35 ff_3_24 ly0_198 ⟨by decide, by decide⟩ rfl ?_
  simp (disch := decide) only [fw_updne]
  refine fw_bipush dX3_begin_38 ⟨by decide, by decide⟩ (by decide) ?_
  refine fw_iastore dX3_begin_40 ly0_202 (by decide) ⟨by decide, by decide⟩ ⟨by omega, by omega⟩ ?_
  refine fw_aload_n dX3_begin_41 rfl rfl ?_
  refine fw_dup dX3_begin_42 rfl ?_
  refine fw_geti 4 rfl dX3_begin_43 ff_3_24 ly0_198 ⟨by decide, by decide⟩ rfl ?_
  refine fw_iconst dX3_begin_46 ⟨by decide, by decide⟩ ?_
  simp (disch := decide) only [fw_updne]
  refine fw_iadd dX3_begin_47 ⟨by omega, by omega⟩ ?_
  refine fw_puti 4 rfl dX3_begin_48 fp_3_24 ly0_198 (by decide) ⟨by decide, by decide⟩ rfl ?_
  refine fw_aload_n dX3_begin_51 rfl rfl ?_
  refine fw_geti 4 rfl dX3_begin_52 ff_3_24 ly0_198 ⟨by decide, by decide⟩ rfl ?_
  refine fw_iconst dX3_begin_55 ⟨by decide, by decide⟩ ?_
  simp (disch := decide) only [fw_updne, fw_updj]
  refine fw_isub dX3_begin_56 ⟨by omega, by omega⟩ ?_
  refine fw_iret dX3_begin_57 ⟨rfl, rfl, rfl⟩ ?_
  refine ⟨?_, rfl, fun k a b c d e => ?_, ?_, fun i => ?_, fun i => ?_, fun i => ?_, fun i => ?_⟩
  · congr 2; omega
  · simp (disch := omega) only [fw_updne]
  · simp (disch := decide) only [fw_updne, fw_updj]
  · simp (disch := decide) only [fw_updne, fw_updeq]
  · simp (disch := decide) only [fw_updne, fw_updeq]
  · simp (disch := decide) only [fw_updne, fw_updeq]
  · simp (disch := decide) only [fw_updne, fw_updeq]
