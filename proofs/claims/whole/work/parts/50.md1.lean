set_option maxRecDepth 20000 in
set_option maxHeartbeats 4000000 in
theorem sp_X6_in (v lo hi : Int) (M : fw_F) (L : fw_G) : fw_SD mX6_in [fw_i v, fw_i lo, fw_i hi] M L (fw_pure (some (fw_i (fw_b (lo ≤ v ∧ v ≤ hi)))) M L) := by
  refine fw_SP_of pl_X6_in (ls := [_, _, _]) rfl (Nat.le_of_ble_eq_true rfl) fun hA hM => ?_
  refine fw_iload_n dX6_in_0 rfl rfl ?_
  refine fw_iload_n dX6_in_1 rfl rfl ?_
  refine fw_icmp_lt 14 dX6_in_2 (by decide) (fun h2 => ?_) (fun h2 => ?_)
  · skip
    refine fw_iconst dX6_in_14 ⟨by decide, by decide⟩ ?_
    exact fw_zret dX6_in_15 ⟨rfl, rfl, rfl⟩ (by first | decide | exact fw_b_01 _ | omega) (⟨by first | exact fw_zT (by omega) | exact fw_zF (by omega), rfl, rfl⟩)
  · skip
    refine fw_iload_n dX6_in_5 rfl rfl ?_
    refine fw_iload_n dX6_in_6 rfl rfl ?_
    refine fw_icmp_gt 14 dX6_in_7 (by decide) (fun h7 => ?_) (fun h7 => ?_)
    · skip
      refine fw_iconst dX6_in_14 ⟨by decide, by decide⟩ ?_
      exact fw_zret dX6_in_15 ⟨rfl, rfl, rfl⟩ (by first | decide | exact fw_b_01 _ | omega) (⟨by first | exact fw_zT (by omega) | exact fw_zF (by omega), rfl, rfl⟩)
    · skip
      refine fw_iconst dX6_in_10 ⟨by decide, by decide⟩ ?_
      refine fw_goto 15 dX6_in_11 (by decide) ?_
      exact fw_zret dX6_in_15 ⟨rfl, rfl, rfl⟩ (by first | decide | exact fw_b_01 _ | omega) (⟨by first | exact fw_zT (by omega) | exact fw_zF (by omega), rfl, rfl⟩)

set_option maxRecDepth 20000 in
set_option maxHeartbeats 4000000 in
theorem sp_X6_isMachine (m : Int) (M : fw_F) (L : fw_G) (hn : 1 ≤ M 0 2 ∧ M 0 2 ≤ 4) : fw_SD mX6_isMachine [fw_r 0, fw_i m] M L (fw_pure (some (fw_i (fw_b (0 ≤ m ∧ m ≤ M 0 2 - 1)))) M L) := by
  refine fw_SP_of pl_X6_isMachine (ls := [_, _]) rfl (Nat.le_of_ble_eq_true rfl) fun hA hM => ?_
  refine fw_iload_n dX6_isMachine_0 rfl rfl ?_
  refine fw_iconst dX6_isMachine_1 ⟨by decide, by decide⟩ ?_
  refine fw_aload_n dX6_isMachine_2 rfl rfl ?_
  refine fw_geti 2 rfl dX6_isMachine_3 ff_6_7 ly1_0 ⟨by decide, by decide⟩ rfl ?_
  refine fw_iconst dX6_isMachine_6 ⟨by decide, by decide⟩ ?_
  refine fw_isub dX6_isMachine_7 ⟨by omega, by omega⟩ ?_
  refine fw_pS mX6_in [_, _, _] dX6_isMachine_8 mv_X6_in lk_6_115 ⟨⟨by decide, by decide⟩, rfl, rfl, rfl, by decide, by decide⟩ rfl rfl (Nat.le_of_ble_eq_true rfl) (sp_X6_in _ _ _ _ _) ?_
  exact fw_zret dX6_isMachine_11 ⟨rfl, rfl, rfl⟩ (by first | decide | exact fw_b_01 _ | omega) (⟨rfl, rfl, rfl⟩)

set_option maxRecDepth 20000 in
set_option maxHeartbeats 4000000 in
theorem sp_X6_isThing (m : Int) (M : fw_F) (L : fw_G) : fw_SD mX6_isThing [fw_i m] M L (fw_pure (some (fw_i (fw_b (0 ≤ m ∧ m ≤ 11)))) M L) := by
  refine fw_SP_of pl_X6_isThing (ls := [_]) rfl (Nat.le_of_ble_eq_true rfl) fun hA hM => ?_
  refine fw_iload_n dX6_isThing_0 rfl rfl ?_
  refine fw_iconst dX6_isThing_1 ⟨by decide, by decide⟩ ?_
  refine fw_bipush dX6_isThing_2 ⟨by decide, by decide⟩ (by decide) ?_
  refine fw_pS mX6_in [_, _, _] dX6_isThing_4 mv_X6_in lk_6_115 ⟨⟨by decide, by decide⟩, rfl, rfl, rfl, by decide, by decide⟩ rfl rfl (Nat.le_of_ble_eq_true rfl) (sp_X6_in _ _ _ _ _) ?_
  exact fw_zret dX6_isThing_7 ⟨rfl, rfl, rfl⟩ (by first | decide | exact fw_b_01 _ | omega) (⟨rfl, rfl, rfl⟩)

set_option maxRecDepth 20000 in
set_option maxHeartbeats 4000000 in
theorem sp_X6_isDay (m : Int) (M : fw_F) (L : fw_G) : fw_SD mX6_isDay [fw_r 0, fw_i m] M L (fw_pure (some (fw_i (fw_b (0 ≤ m ∧ m ≤ M 0 4)))) M L) := by
  refine fw_SP_of pl_X6_isDay (ls := [_, _]) rfl (Nat.le_of_ble_eq_true rfl) fun hA hM => ?_
  refine fw_iload_n dX6_isDay_0 rfl rfl ?_
  refine fw_iconst dX6_isDay_1 ⟨by decide, by decide⟩ ?_
  refine fw_aload_n dX6_isDay_2 rfl rfl ?_
  refine fw_geti 4 rfl dX6_isDay_3 ff_6_109 ly1_0 ⟨by decide, by decide⟩ rfl ?_
  refine fw_pS mX6_in [_, _, _] dX6_isDay_6 mv_X6_in lk_6_115 ⟨⟨by decide, by decide⟩, rfl, rfl, rfl, by decide, by decide⟩ rfl rfl (Nat.le_of_ble_eq_true rfl) (sp_X6_in _ _ _ _ _) ?_
  exact fw_zret dX6_isDay_9 ⟨rfl, rfl, rfl⟩ (by first | decide | exact fw_b_01 _ | omega) (⟨rfl, rfl, rfl⟩)

set_option maxRecDepth 20000 in
set_option maxHeartbeats 4000000 in
theorem sp_X6_changeAt (m i : Int) (M : fw_F) (L : fw_G) (h0 : 0 ≤ m ∧ m < 4) (h1 : 0 ≤ i ∧ i ≤ 20) : fw_SD mX6_changeAt [fw_i m, fw_i i] M L (fw_pure (some (fw_i (12 * (20 * m + i)))) M L) := by
  refine fw_SP_of pl_X6_changeAt (ls := [_, _]) rfl (Nat.le_of_ble_eq_true rfl) fun hA hM => ?_
  refine fw_bipush dX6_changeAt_0 ⟨by decide, by decide⟩ (by decide) ?_
  refine fw_bipush dX6_changeAt_2 ⟨by decide, by decide⟩ (by decide) ?_
  refine fw_iload_n dX6_changeAt_4 rfl rfl ?_
  refine fw_imul dX6_changeAt_5 ⟨by omega, by omega⟩ ?_
  refine fw_iload_n dX6_changeAt_6 rfl rfl ?_
  refine fw_iadd dX6_changeAt_7 ⟨by omega, by omega⟩ ?_
  refine fw_imul dX6_changeAt_8 ⟨by omega, by omega⟩ ?_
  exact fw_iret dX6_changeAt_9 ⟨rfl, rfl, rfl⟩ (⟨rfl, rfl, rfl⟩)
