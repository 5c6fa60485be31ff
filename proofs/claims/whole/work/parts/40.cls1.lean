set_option maxRecDepth 20000 in
set_option maxHeartbeats 4000000 in
theorem sp_X0_slot (c : Int) (M : fw_F) (L : fw_G) (h1 : 8 ≤ c ∧ c < 168 ∧ c % 2 = 0) (h2 : 0 ≤ M c 1 ∧ M c 1 < 4) (h3 : 0 ≤ M c 2 ∧ M c 2 < 20) : fw_SC mX0_slot [fw_r c] M L (fw_pure (some (fw_i (M c 1 * 20 + M c 2))) M L) := by
  refine fw_SP_of pl_X0_slot (ls := [_]) rfl (Nat.le_of_ble_eq_true rfl) fun hA hM => ?_
  refine fw_aload_n dX0_slot_0 rfl rfl ?_
  refine fw_geti 1 rfl dX0_slot_1 ff_0_15 (ly_ch (by omega) (by omega) (by omega)) ⟨by omega, by omega⟩ rfl ?_
  refine fw_bipush dX0_slot_4 ⟨by decide, by decide⟩ (by decide) ?_
  refine fw_imul dX0_slot_6 ⟨by omega, by omega⟩ ?_
  refine fw_aload_n dX0_slot_7 rfl rfl ?_
  refine fw_geti 2 rfl dX0_slot_8 ff_0_19 (ly_ch (by omega) (by omega) (by omega)) ⟨by omega, by omega⟩ rfl ?_
  refine fw_iadd dX0_slot_11 ⟨by omega, by omega⟩ ?_
  exact fw_iret dX0_slot_12 ⟨rfl, rfl, rfl⟩ (⟨rfl, rfl, rfl⟩)

set_option maxRecDepth 20000 in
set_option maxHeartbeats 4000000 in
theorem sp_X0_groundSize (c : Int) (M : fw_F) (L : fw_G) (h1 : 8 ≤ c ∧ c < 168 ∧ c % 2 = 0) (h2 : ∀ p, 0 ≤ p → p < 4 → 0 ≤ M (c + 1) p ∧ M (c + 1) p ≤ 20) : fw_SC mX0_groundSize [fw_r c] M L (fw_pure (some (fw_i (M (c + 1) 0 + M (c + 1) 1 + M (c + 1) 2 + M (c + 1) 3))) M L) := by
  refine fw_SP_of pl_X0_groundSize (ls := [_]) rfl (Nat.le_of_ble_eq_true rfl) fun hA hM => ?_
  have a0 := h2 0 (by omega) (by omega)
  have a1 := h2 1 (by omega) (by omega)
  have a2 := h2 2 (by omega) (by omega)
  have a3 := h2 3 (by omega) (by omega)
  refine fw_iconst dX0_groundSize_0 ⟨by decide, by decide⟩ ?_
  refine fw_istore_n (ls2 := [_, _]) dX0_groundSize_1 rfl (by decide) rfl ?_
  refine fw_iconst dX0_groundSize_2 ⟨by decide, by decide⟩ ?_
  refine fw_istore_n (ls2 := [_, _, _]) dX0_groundSize_3 rfl (by decide) rfl ?_
  refine fw_iload_n dX0_groundSize_4 rfl rfl ?_
  refine fw_iconst dX0_groundSize_5 ⟨by decide, by decide⟩ ?_
  refine fw_icmp_ge 24 dX0_groundSize_6 (by decide) (fun h6 => ?_) (fun h6 => ?_)
  · skip
    exfalso; omega
  · skip
    refine fw_iload_n dX0_groundSize_9 rfl rfl ?_
    refine fw_aload_n dX0_groundSize_10 rfl rfl ?_
    refine fw_getr 0 (_ + 1) rfl dX0_groundSize_11 ff_0_9 (ly_ch (by omega) (by omega) (by omega)) ⟨by omega, by omega⟩ rfl (rc_ch (by omega) (by omega)) (by omega) ?_
    refine fw_iload_n dX0_groundSize_14 rfl rfl ?_
    refine fw_iaload dX0_groundSize_15 (ly_gr (by omega) (by omega) (by omega)) ⟨by omega, by omega⟩ ⟨by omega, by omega⟩ ?_
    refine fw_iadd dX0_groundSize_16 ⟨by omega, by omega⟩ ?_
    refine fw_istore_n (ls2 := [_, _, _]) dX0_groundSize_17 rfl (by decide) rfl ?_
    refine fw_iincv (ls2 := [_, _, _]) (1) dX0_groundSize_18 rfl (by decide) ⟨by decide, by decide⟩ (by decide) rfl ?_
    refine fw_goto 4 dX0_groundSize_21 (by decide) ?_
    refine fw_iload_n dX0_groundSize_4 rfl rfl ?_
    refine fw_iconst dX0_groundSize_5 ⟨by decide, by decide⟩ ?_
    refine fw_icmp_ge 24 dX0_groundSize_6 (by decide) (fun h6 => ?_) (fun h6 => ?_)
    · skip
      exfalso; omega
    · skip
      refine fw_iload_n dX0_groundSize_9 rfl rfl ?_
      refine fw_aload_n dX0_groundSize_10 rfl rfl ?_
      refine fw_getr 0 (_ + 1) rfl dX0_groundSize_11 ff_0_9 (ly_ch (by omega) (by omega) (by omega)) ⟨by omega, by omega⟩ rfl (rc_ch (by omega) (by omega)) (by omega) ?_
      refine fw_iload_n dX0_groundSize_14 rfl rfl ?_
      refine fw_iaload dX0_groundSize_15 (ly_gr (by omega) (by omega) (by omega)) ⟨by omega, by omega⟩ ⟨by omega, by omega⟩ ?_
      refine fw_iadd dX0_groundSize_16 ⟨by omega, by omega⟩ ?_
      refine fw_istore_n (ls2 := [_, _, _]) dX0_groundSize_17 rfl (by decide) rfl ?_
      refine fw_iincv (ls2 := [_, _, _]) (2) dX0_groundSize_18 rfl (by decide) ⟨by decide, by decide⟩ (by decide) rfl ?_
      refine fw_goto 4 dX0_groundSize_21 (by decide) ?_
      refine fw_iload_n dX0_groundSize_4 rfl rfl ?_
      refine fw_iconst dX0_groundSize_5 ⟨by decide, by decide⟩ ?_
      refine fw_icmp_ge 24 dX0_groundSize_6 (by decide) (fun h6 => ?_) (fun h6 => ?_)
      · skip
        exfalso; omega
      · skip
        refine fw_iload_n dX0_groundSize_9 rfl rfl ?_
        refine fw_aload_n dX0_groundSize_10 rfl rfl ?_
        refine fw_getr 0 (_ + 1) rfl dX0_groundSize_11 ff_0_9 (ly_ch (by omega) (by omega) (by omega)) ⟨by omega, by omega⟩ rfl (rc_ch (by omega) (by omega)) (by omega) ?_
        refine fw_iload_n dX0_groundSize_14 rfl rfl ?_
        refine fw_iaload dX0_groundSize_15 (ly_gr (by omega) (by omega) (by omega)) ⟨by omega, by omega⟩ ⟨by omega, by omega⟩ ?_
        refine fw_iadd dX0_groundSize_16 ⟨by omega, by omega⟩ ?_
        refine fw_istore_n (ls2 := [_, _, _]) dX0_groundSize_17 rfl (by decide) rfl ?_
        refine fw_iincv (ls2 := [_, _, _]) (3) dX0_groundSize_18 rfl (by decide) ⟨by decide, by decide⟩ (by decide) rfl ?_
        refine fw_goto 4 dX0_groundSize_21 (by decide) ?_
        refine fw_iload_n dX0_groundSize_4 rfl rfl ?_
        refine fw_iconst dX0_groundSize_5 ⟨by decide, by decide⟩ ?_
        refine fw_icmp_ge 24 dX0_groundSize_6 (by decide) (fun h6 => ?_) (fun h6 => ?_)
        · skip
          exfalso; omega
        · skip
          refine fw_iload_n dX0_groundSize_9 rfl rfl ?_
          refine fw_aload_n dX0_groundSize_10 rfl rfl ?_
          refine fw_getr 0 (_ + 1) rfl dX0_groundSize_11 ff_0_9 (ly_ch (by omega) (by omega) (by omega)) ⟨by omega, by omega⟩ rfl (rc_ch (by omega) (by omega)) (by omega) ?_
          refine fw_iload_n dX0_groundSize_14 rfl rfl ?_
          refine fw_iaload dX0_groundSize_15 (ly_gr (by omega) (by omega) (by omega)) ⟨by omega, by omega⟩ ⟨by omega, by omega⟩ ?_
          refine fw_iadd dX0_groundSize_16 ⟨by omega, by omega⟩ ?_
          refine fw_istore_n (ls2 := [_, _, _]) dX0_groundSize_17 rfl (by decide) rfl ?_
          refine fw_iincv (ls2 := [_, _, _]) (4) dX0_groundSize_18 rfl (by decide) ⟨by decide, by decide⟩ (by decide) rfl ?_
          refine fw_goto 4 dX0_groundSize_21 (by decide) ?_
          refine fw_iload_n dX0_groundSize_4 rfl rfl ?_
          refine fw_iconst dX0_groundSize_5 ⟨by decide, by decide⟩ ?_
          refine fw_icmp_ge 24 dX0_groundSize_6 (by decide) (fun h6 => ?_) (fun h6 => ?_)
          · skip
            refine fw_iload_n dX0_groundSize_24 rfl rfl ?_
            exact fw_iret dX0_groundSize_25 ⟨rfl, rfl, rfl⟩ (⟨by rw [Int.zero_add], rfl, rfl⟩)
          · skip
            exfalso; omega

set_option maxRecDepth 20000 in
set_option maxHeartbeats 4000000 in
theorem sp_X0_standsOn (c e : Int) (M : fw_F) (L : fw_G) (h1 : 8 ≤ c ∧ c < 168 ∧ c % 2 = 0) (g1 : 8 ≤ e ∧ e < 168 ∧ e % 2 = 0) (h2 : 0 ≤ M e 1 ∧ M e 1 < 4) : fw_SC mX0_standsOn [fw_r c, fw_r e] M L (fw_pure (some (fw_i (fw_b (M e 2 < M (c + 1) (M e 1))))) M L) := by
  refine fw_SP_of pl_X0_standsOn (ls := [_, _]) rfl (Nat.le_of_ble_eq_true rfl) fun hA hM => ?_
  refine fw_aload_n dX0_standsOn_0 rfl rfl ?_
  refine fw_geti 2 rfl dX0_standsOn_1 ff_0_19 (ly_ch (by omega) (by omega) (by omega)) ⟨by omega, by omega⟩ rfl ?_
  refine fw_aload_n dX0_standsOn_4 rfl rfl ?_
  refine fw_getr 0 (_ + 1) rfl dX0_standsOn_5 ff_0_9 (ly_ch (by omega) (by omega) (by omega)) ⟨by omega, by omega⟩ rfl (rc_ch (by omega) (by omega)) (by omega) ?_
  refine fw_aload_n dX0_standsOn_8 rfl rfl ?_
  refine fw_geti 1 rfl dX0_standsOn_9 ff_0_15 (ly_ch (by omega) (by omega) (by omega)) ⟨by omega, by omega⟩ rfl ?_
  refine fw_iaload dX0_standsOn_12 (ly_gr (by omega) (by omega) (by omega)) ⟨by omega, by omega⟩ ⟨by omega, by omega⟩ ?_
  refine fw_icmp_ge 20 dX0_standsOn_13 (by decide) (fun h13 => ?_) (fun h13 => ?_)
  · skip
    refine fw_iconst dX0_standsOn_20 ⟨by decide, by decide⟩ ?_
    exact fw_zret dX0_standsOn_21 ⟨rfl, rfl, rfl⟩ (by first | decide | exact fw_b_01 _ | omega) (⟨by first | exact fw_zT (by omega) | exact fw_zF (by omega), rfl, rfl⟩)
  · skip
    refine fw_iconst dX0_standsOn_16 ⟨by decide, by decide⟩ ?_
    refine fw_goto 21 dX0_standsOn_17 (by decide) ?_
    exact fw_zret dX0_standsOn_21 ⟨rfl, rfl, rfl⟩ (by first | decide | exact fw_b_01 _ | omega) (⟨by first | exact fw_zT (by omega) | exact fw_zF (by omega), rfl, rfl⟩)

set_option maxRecDepth 20000 in
set_option maxHeartbeats 4000000 in
theorem sp_X0_isAheadOf (c e : Int) (M : fw_F) (L : fw_G) (h1 : 8 ≤ c ∧ c < 168 ∧ c % 2 = 0) (g1 : 8 ≤ e ∧ e < 168 ∧ e % 2 = 0) : fw_SC mX0_isAheadOf [fw_r c, fw_r e] M L (fw_pure (some (fw_i (fw_b (M c 5 < M e 5 ∨ (M c 5 = M e 5 ∧ M c 1 < M e 1))))) M L) := by
  refine fw_SP_of pl_X0_isAheadOf (ls := [_, _]) rfl (Nat.le_of_ble_eq_true rfl) fun hA hM => ?_
  refine fw_aload_n dX0_isAheadOf_0 rfl rfl ?_
  refine fw_geti 5 rfl dX0_isAheadOf_1 ff_0_22 (ly_ch (by omega) (by omega) (by omega)) ⟨by omega, by omega⟩ rfl ?_
  refine fw_aload_n dX0_isAheadOf_4 rfl rfl ?_
  refine fw_geti 5 rfl dX0_isAheadOf_5 ff_0_22 (ly_ch (by omega) (by omega) (by omega)) ⟨by omega, by omega⟩ rfl ?_
  refine fw_icmp_lt 33 dX0_isAheadOf_8 (by decide) (fun h8 => ?_) (fun h8 => ?_)
  · skip
    refine fw_iconst dX0_isAheadOf_33 ⟨by decide, by decide⟩ ?_
    refine fw_goto 38 dX0_isAheadOf_34 (by decide) ?_
    exact fw_zret dX0_isAheadOf_38 ⟨rfl, rfl, rfl⟩ (by first | decide | exact fw_b_01 _ | omega) (⟨by first | exact fw_zT (by omega) | exact fw_zF (by omega), rfl, rfl⟩)
  · skip
    refine fw_aload_n dX0_isAheadOf_11 rfl rfl ?_
    refine fw_geti 5 rfl dX0_isAheadOf_12 ff_0_22 (ly_ch (by omega) (by omega) (by omega)) ⟨by omega, by omega⟩ rfl ?_
    refine fw_aload_n dX0_isAheadOf_15 rfl rfl ?_
    refine fw_geti 5 rfl dX0_isAheadOf_16 ff_0_22 (ly_ch (by omega) (by omega) (by omega)) ⟨by omega, by omega⟩ rfl ?_
    refine fw_icmp_ne 37 dX0_isAheadOf_19 (by decide) (fun h19 => ?_) (fun h19 => ?_)
    · skip
      refine fw_iconst dX0_isAheadOf_37 ⟨by decide, by decide⟩ ?_
      exact fw_zret dX0_isAheadOf_38 ⟨rfl, rfl, rfl⟩ (by first | decide | exact fw_b_01 _ | omega) (⟨by first | exact fw_zT (by omega) | exact fw_zF (by omega), rfl, rfl⟩)
    · skip
      refine fw_aload_n dX0_isAheadOf_22 rfl rfl ?_
      refine fw_geti 1 rfl dX0_isAheadOf_23 ff_0_15 (ly_ch (by omega) (by omega) (by omega)) ⟨by omega, by omega⟩ rfl ?_
      refine fw_aload_n dX0_isAheadOf_26 rfl rfl ?_
      refine fw_geti 1 rfl dX0_isAheadOf_27 ff_0_15 (ly_ch (by omega) (by omega) (by omega)) ⟨by omega, by omega⟩ rfl ?_
      refine fw_icmp_ge 37 dX0_isAheadOf_30 (by decide) (fun h30 => ?_) (fun h30 => ?_)
      · skip
        refine fw_iconst dX0_isAheadOf_37 ⟨by decide, by decide⟩ ?_
        exact fw_zret dX0_isAheadOf_38 ⟨rfl, rfl, rfl⟩ (by first | decide | exact fw_b_01 _ | omega) (⟨by first | exact fw_zT (by omega) | exact fw_zF (by omega), rfl, rfl⟩)
      · skip
        refine fw_iconst dX0_isAheadOf_33 ⟨by decide, by decide⟩ ?_
        refine fw_goto 38 dX0_isAheadOf_34 (by decide) ?_
        exact fw_zret dX0_isAheadOf_38 ⟨rfl, rfl, rfl⟩ (by first | decide | exact fw_b_01 _ | omega) (⟨by first | exact fw_zT (by omega) | exact fw_zF (by omega), rfl, rfl⟩)

set_option maxRecDepth 20000 in
set_option maxHeartbeats 4000000 in
theorem sp_X1_placeOf (d m p : Int) (M : fw_F) (L : fw_G) (h0 : 0 ≤ d ∧ d < 30) (h1 : 0 ≤ m ∧ m < 4) (h2 : 0 ≤ p ∧ p < 4) : fw_SC mX1_placeOf [fw_i d, fw_i m, fw_i p] M L (fw_pure (some (fw_i ((d * 4 + m) * 4 + p))) M L) := by
  refine fw_SP_of pl_X1_placeOf (ls := [_, _, _]) rfl (Nat.le_of_ble_eq_true rfl) fun hA hM => ?_
  refine fw_iload_n dX1_placeOf_0 rfl rfl ?_
  refine fw_iconst dX1_placeOf_1 ⟨by decide, by decide⟩ ?_
  refine fw_imul dX1_placeOf_2 ⟨by omega, by omega⟩ ?_
  refine fw_iload_n dX1_placeOf_3 rfl rfl ?_
  refine fw_iadd dX1_placeOf_4 ⟨by omega, by omega⟩ ?_
  refine fw_iconst dX1_placeOf_5 ⟨by decide, by decide⟩ ?_
  refine fw_imul dX1_placeOf_6 ⟨by omega, by omega⟩ ?_
  refine fw_iload_n dX1_placeOf_7 rfl rfl ?_
  refine fw_iadd dX1_placeOf_8 ⟨by omega, by omega⟩ ?_
  exact fw_iret dX1_placeOf_9 ⟨rfl, rfl, rfl⟩ (⟨rfl, rfl, rfl⟩)

set_option maxRecDepth 20000 in
set_option maxHeartbeats 4000000 in
theorem sp_X1_knownOf (d m p : Int) (M : fw_F) (L : fw_G) (h0 : 0 ≤ d ∧ d < 30) (h1 : 0 ≤ m ∧ m < 4) (h2 : 0 ≤ p ∧ p < 4) : fw_SC mX1_knownOf [fw_r 1, fw_i d, fw_i m, fw_i p] M L (fw_pure (some (fw_i (M 5 ((d * 4 + m) * 4 + p)))) M L) := by
  refine fw_SP_of pl_X1_knownOf (ls := [_, _, _, _]) rfl (Nat.le_of_ble_eq_true rfl) fun hA hM => ?_
  refine fw_aload_n dX1_knownOf_0 rfl rfl ?_
  refine fw_getr 3 5 rfl dX1_knownOf_1 ff_1_24 ly0_1 ⟨by decide, by decide⟩ rfl rfl (by decide) ?_
  refine fw_iload_n dX1_knownOf_4 rfl rfl ?_
  refine fw_iload_n dX1_knownOf_5 rfl rfl ?_
  refine fw_iload_n dX1_knownOf_6 rfl rfl ?_
  refine fw_pS mX1_placeOf [_, _, _] dX1_knownOf_7 mv_X1_placeOf lk_1_41 ⟨⟨by decide, by decide⟩, rfl, rfl, rfl, by decide, by decide⟩ rfl rfl (Nat.le_of_ble_eq_true rfl) (sp_X1_placeOf _ _ _ _ _ (by omega) (by omega) (by omega)) ?_
  refine fw_iaload dX1_knownOf_10 ly0_5 ⟨by decide, by decide⟩ ⟨by omega, by omega⟩ ?_
  exact fw_iret dX1_knownOf_11 ⟨rfl, rfl, rfl⟩ (⟨rfl, rfl, rfl⟩)

set_option maxRecDepth 20000 in
set_option maxHeartbeats 4000000 in
theorem sp_X1_knows (d m c : Int) (M : fw_F) (L : fw_G) (h0 : 0 ≤ d ∧ d < 30) (h2 : 0 ≤ m ∧ m < 4) (h1 : 8 ≤ c ∧ c < 168 ∧ c % 2 = 0) (h3 : 0 ≤ M c 1 ∧ M c 1 < 4) : fw_SC mX1_knows [fw_r 1, fw_i d, fw_i m, fw_r c] M L (fw_pure (some (fw_i (fw_b (M c 2 < M 5 ((d * 4 + m) * 4 + M c 1))))) M L) := by
  refine fw_SP_of pl_X1_knows (ls := [_, _, _, _]) rfl (Nat.le_of_ble_eq_true rfl) fun hA hM => ?_
  refine fw_aload_n dX1_knows_0 rfl rfl ?_
  refine fw_geti 2 rfl dX1_knows_1 ff_1_45 (ly_ch (by omega) (by omega) (by omega)) ⟨by omega, by omega⟩ rfl ?_
  refine fw_aload_n dX1_knows_4 rfl rfl ?_
  refine fw_iload_n dX1_knows_5 rfl rfl ?_
  refine fw_iload_n dX1_knows_6 rfl rfl ?_
  refine fw_aload_n dX1_knows_7 rfl rfl ?_
  refine fw_geti 1 rfl dX1_knows_8 ff_1_48 (ly_ch (by omega) (by omega) (by omega)) ⟨by omega, by omega⟩ rfl ?_
  refine fw_pV mX1_knownOf [_, _, _] dX1_knows_11 mv_X1_knownOf lk_1_51 ⟨⟨by decide, by decide⟩, rfl, rfl, rfl, by decide, by decide⟩ ly0_1 ⟨by decide, by decide⟩ rfl rfl (Nat.le_of_ble_eq_true rfl) (sp_X1_knownOf _ _ _ _ _ (by omega) (by omega) (by omega)) ?_
  refine fw_icmp_ge 21 dX1_knows_14 (by decide) (fun h14 => ?_) (fun h14 => ?_)
  · skip
    refine fw_iconst dX1_knows_21 ⟨by decide, by decide⟩ ?_
    exact fw_zret dX1_knows_22 ⟨rfl, rfl, rfl⟩ (by first | decide | exact fw_b_01 _ | omega) (⟨by first | exact fw_zT (by omega) | exact fw_zF (by omega), rfl, rfl⟩)
  · skip
    refine fw_iconst dX1_knows_17 ⟨by decide, by decide⟩ ?_
    refine fw_goto 22 dX1_knows_18 (by decide) ?_
    exact fw_zret dX1_knows_22 ⟨rfl, rfl, rfl⟩ (by first | decide | exact fw_b_01 _ | omega) (⟨by first | exact fw_zT (by omega) | exact fw_zF (by omega), rfl, rfl⟩)

set_option maxRecDepth 20000 in
set_option maxHeartbeats 4000000 in
theorem sp_X1_changeOf (m i : Int) (M : fw_F) (L : fw_G) (h0 : 0 ≤ m ∧ m < 4) (h1 : 0 ≤ i ∧ i < 20) : fw_SC mX1_changeOf [fw_r 1, fw_i m, fw_i i] M L (fw_pure (some (fw_r (8 + 2 * (m * 20 + i)))) M L) := by
  refine fw_SP_of pl_X1_changeOf (ls := [_, _, _]) rfl (Nat.le_of_ble_eq_true rfl) fun hA hM => ?_
  refine fw_aload_n dX1_changeOf_0 rfl rfl ?_
  refine fw_getr 0 2 rfl dX1_changeOf_1 ff_1_11 ly0_1 ⟨by decide, by decide⟩ rfl rfl (by decide) ?_
  refine fw_iload_n dX1_changeOf_4 rfl rfl ?_
  refine fw_bipush dX1_changeOf_5 ⟨by decide, by decide⟩ (by decide) ?_
  refine fw_imul dX1_changeOf_7 ⟨by omega, by omega⟩ ?_
  refine fw_iload_n dX1_changeOf_8 rfl rfl ?_
  refine fw_iadd dX1_changeOf_9 ⟨by omega, by omega⟩ ?_
  refine fw_aaload (8 + 2 * _) dX1_changeOf_10 ly0_2 (Or.inl rfl) ⟨by decide, by decide⟩ ⟨by omega, by omega⟩ (rc_2 _) (by omega) ?_
  exact fw_aret dX1_changeOf_11 ⟨rfl, rfl, rfl⟩ (⟨rfl, rfl, rfl⟩)

set_option maxRecDepth 20000 in
set_option maxHeartbeats 4000000 in
theorem sp_X1_inOrder (i : Int) (M : fw_F) (L : fw_G) (h0 : 0 ≤ i ∧ i < 80) (h1 : 0 ≤ M 3 i ∧ M 3 i < 80) : fw_SC mX1_inOrder [fw_r 1, fw_i i] M L (fw_pure (some (fw_r (8 + 2 * M 3 i))) M L) := by
  refine fw_SP_of pl_X1_inOrder (ls := [_, _]) rfl (Nat.le_of_ble_eq_true rfl) fun hA hM => ?_
  refine fw_aload_n dX1_inOrder_0 rfl rfl ?_
  refine fw_getr 0 2 rfl dX1_inOrder_1 ff_1_11 ly0_1 ⟨by decide, by decide⟩ rfl rfl (by decide) ?_
  refine fw_aload_n dX1_inOrder_4 rfl rfl ?_
  refine fw_getr 1 3 rfl dX1_inOrder_5 ff_1_17 ly0_1 ⟨by decide, by decide⟩ rfl rfl (by decide) ?_
  refine fw_iload_n dX1_inOrder_8 rfl rfl ?_
  refine fw_iaload dX1_inOrder_9 ly0_3 ⟨by decide, by decide⟩ ⟨by omega, by omega⟩ ?_
  refine fw_aaload (8 + 2 * _) dX1_inOrder_10 ly0_2 (Or.inl rfl) ⟨by decide, by decide⟩ ⟨by omega, by omega⟩ (rc_2 _) (by omega) ?_
  exact fw_aret dX1_inOrder_11 ⟨rfl, rfl, rfl⟩ (⟨rfl, rfl, rfl⟩)

set_option maxRecDepth 20000 in
set_option maxHeartbeats 4000000 in
theorem sp_X1_isFull (m : Int) (M : fw_F) (L : fw_G) (h0 : 0 ≤ m ∧ m < 4) : fw_SC mX1_isFull [fw_r 1, fw_i m] M L (fw_pure (some (fw_i (fw_b (20 ≤ M 4 m)))) M L) := by
  refine fw_SP_of pl_X1_isFull (ls := [_, _]) rfl (Nat.le_of_ble_eq_true rfl) fun hA hM => ?_
  refine fw_aload_n dX1_isFull_0 rfl rfl ?_
  refine fw_getr 2 4 rfl dX1_isFull_1 ff_1_21 ly0_1 ⟨by decide, by decide⟩ rfl rfl (by decide) ?_
  refine fw_iload_n dX1_isFull_4 rfl rfl ?_
  refine fw_iaload dX1_isFull_5 ly0_4 ⟨by decide, by decide⟩ ⟨by omega, by omega⟩ ?_
  refine fw_bipush dX1_isFull_6 ⟨by decide, by decide⟩ (by decide) ?_
  refine fw_icmp_lt 15 dX1_isFull_8 (by decide) (fun h8 => ?_) (fun h8 => ?_)
  · skip
    refine fw_iconst dX1_isFull_15 ⟨by decide, by decide⟩ ?_
    exact fw_zret dX1_isFull_16 ⟨rfl, rfl, rfl⟩ (by first | decide | exact fw_b_01 _ | omega) (⟨by first | exact fw_zT (by omega) | exact fw_zF (by omega), rfl, rfl⟩)
  · skip
    refine fw_iconst dX1_isFull_11 ⟨by decide, by decide⟩ ?_
    refine fw_goto 16 dX1_isFull_12 (by decide) ?_
    exact fw_zret dX1_isFull_16 ⟨rfl, rfl, rfl⟩ (by first | decide | exact fw_b_01 _ | omega) (⟨by first | exact fw_zT (by omega) | exact fw_zF (by omega), rfl, rfl⟩)

set_option maxRecDepth 20000 in
set_option maxHeartbeats 4000000 in
theorem sp_X1_isLeftOut (c : Int) (M : fw_F) (L : fw_G) (h1 : 8 ≤ c ∧ c < 168 ∧ c % 2 = 0) (h3 : 0 ≤ M c 1 ∧ M c 1 < 4) : fw_SC mX1_isLeftOut [fw_r 1, fw_r c] M L (fw_pure (some (fw_i (fw_b (M 7 (M c 1) ≤ M c 2)))) M L) := by
  refine fw_SP_of pl_X1_isLeftOut (ls := [_, _]) rfl (Nat.le_of_ble_eq_true rfl) fun hA hM => ?_
  refine fw_aload_n dX1_isLeftOut_0 rfl rfl ?_
  refine fw_geti 2 rfl dX1_isLeftOut_1 ff_1_45 (ly_ch (by omega) (by omega) (by omega)) ⟨by omega, by omega⟩ rfl ?_
  refine fw_aload_n dX1_isLeftOut_4 rfl rfl ?_
  refine fw_getr 5 7 rfl dX1_isLeftOut_5 ff_1_30 ly0_1 ⟨by decide, by decide⟩ rfl rfl (by decide) ?_
  refine fw_aload_n dX1_isLeftOut_8 rfl rfl ?_
  refine fw_geti 1 rfl dX1_isLeftOut_9 ff_1_48 (ly_ch (by omega) (by omega) (by omega)) ⟨by omega, by omega⟩ rfl ?_
  refine fw_iaload dX1_isLeftOut_12 ly0_7 ⟨by decide, by decide⟩ ⟨by omega, by omega⟩ ?_
  refine fw_icmp_lt 20 dX1_isLeftOut_13 (by decide) (fun h13 => ?_) (fun h13 => ?_)
  · skip
    refine fw_iconst dX1_isLeftOut_20 ⟨by decide, by decide⟩ ?_
    exact fw_zret dX1_isLeftOut_21 ⟨rfl, rfl, rfl⟩ (by first | decide | exact fw_b_01 _ | omega) (⟨by first | exact fw_zT (by omega) | exact fw_zF (by omega), rfl, rfl⟩)
  · skip
    refine fw_iconst dX1_isLeftOut_16 ⟨by decide, by decide⟩ ?_
    refine fw_goto 21 dX1_isLeftOut_17 (by decide) ?_
    exact fw_zret dX1_isLeftOut_21 ⟨rfl, rfl, rfl⟩ (by first | decide | exact fw_b_01 _ | omega) (⟨by first | exact fw_zT (by omega) | exact fw_zF (by omega), rfl, rfl⟩)

set_option maxRecDepth 20000 in
set_option maxHeartbeats 4000000 in
theorem sp_X1_standsOnLeftOut (c : Int) (M : fw_F) (L : fw_G) (h1 : 8 ≤ c ∧ c < 168 ∧ c % 2 = 0) : fw_SC mX1_standsOnLeftOut [fw_r 1, fw_r c] M L (fw_pure (some (fw_i (fw_b (M 7 0 < M (c + 1) 0 ∨ M 7 1 < M (c + 1) 1 ∨ M 7 2 < M (c + 1) 2 ∨ M 7 3 < M (c + 1) 3)))) M L) := by
  refine fw_SP_of pl_X1_standsOnLeftOut (ls := [_, _]) rfl (Nat.le_of_ble_eq_true rfl) fun hA hM => ?_
  refine fw_iconst dX1_standsOnLeftOut_0 ⟨by decide, by decide⟩ ?_
  refine fw_istore_n (ls2 := [_, _, _]) dX1_standsOnLeftOut_1 rfl (by decide) rfl ?_
  refine fw_iload_n dX1_standsOnLeftOut_2 rfl rfl ?_
  refine fw_iconst dX1_standsOnLeftOut_3 ⟨by decide, by decide⟩ ?_
  refine fw_icmp_ge 30 dX1_standsOnLeftOut_4 (by decide) (fun h4 => ?_) (fun h4 => ?_)
  · skip
    exfalso; omega
  · skip
    refine fw_aload_n dX1_standsOnLeftOut_7 rfl rfl ?_
    refine fw_getr 0 (_ + 1) rfl dX1_standsOnLeftOut_8 ff_1_70 (ly_ch (by omega) (by omega) (by omega)) ⟨by omega, by omega⟩ rfl (rc_ch (by omega) (by omega)) (by omega) ?_
    refine fw_iload_n dX1_standsOnLeftOut_11 rfl rfl ?_
    refine fw_iaload dX1_standsOnLeftOut_12 (ly_gr (by omega) (by omega) (by omega)) ⟨by omega, by omega⟩ ⟨by omega, by omega⟩ ?_
    refine fw_aload_n dX1_standsOnLeftOut_13 rfl rfl ?_
    refine fw_getr 5 7 rfl dX1_standsOnLeftOut_14 ff_1_30 ly0_1 ⟨by decide, by decide⟩ rfl rfl (by decide) ?_
    refine fw_iload_n dX1_standsOnLeftOut_17 rfl rfl ?_
    refine fw_iaload dX1_standsOnLeftOut_18 ly0_7 ⟨by decide, by decide⟩ ⟨by omega, by omega⟩ ?_
    refine fw_icmp_le 24 dX1_standsOnLeftOut_19 (by decide) (fun h19 => ?_) (fun h19 => ?_)
    · skip
      refine fw_iincv (ls2 := [_, _, _]) (1) dX1_standsOnLeftOut_24 rfl (by decide) ⟨by decide, by decide⟩ (by decide) rfl ?_
      refine fw_goto 2 dX1_standsOnLeftOut_27 (by decide) ?_
      refine fw_iload_n dX1_standsOnLeftOut_2 rfl rfl ?_
      refine fw_iconst dX1_standsOnLeftOut_3 ⟨by decide, by decide⟩ ?_
      refine fw_icmp_ge 30 dX1_standsOnLeftOut_4 (by decide) (fun h4 => ?_) (fun h4 => ?_)
      · skip
        exfalso; omega
      · skip
        refine fw_aload_n dX1_standsOnLeftOut_7 rfl rfl ?_
        refine fw_getr 0 (_ + 1) rfl dX1_standsOnLeftOut_8 ff_1_70 (ly_ch (by omega) (by omega) (by omega)) ⟨by omega, by omega⟩ rfl (rc_ch (by omega) (by omega)) (by omega) ?_
        refine fw_iload_n dX1_standsOnLeftOut_11 rfl rfl ?_
        refine fw_iaload dX1_standsOnLeftOut_12 (ly_gr (by omega) (by omega) (by omega)) ⟨by omega, by omega⟩ ⟨by omega, by omega⟩ ?_
        refine fw_aload_n dX1_standsOnLeftOut_13 rfl rfl ?_
        refine fw_getr 5 7 rfl dX1_standsOnLeftOut_14 ff_1_30 ly0_1 ⟨by decide, by decide⟩ rfl rfl (by decide) ?_
        refine fw_iload_n dX1_standsOnLeftOut_17 rfl rfl ?_
        refine fw_iaload dX1_standsOnLeftOut_18 ly0_7 ⟨by decide, by decide⟩ ⟨by omega, by omega⟩ ?_
        refine fw_icmp_le 24 dX1_standsOnLeftOut_19 (by decide) (fun h19 => ?_) (fun h19 => ?_)
        · skip
          refine fw_iincv (ls2 := [_, _, _]) (2) dX1_standsOnLeftOut_24 rfl (by decide) ⟨by decide, by decide⟩ (by decide) rfl ?_
          refine fw_goto 2 dX1_standsOnLeftOut_27 (by decide) ?_
          refine fw_iload_n dX1_standsOnLeftOut_2 rfl rfl ?_
          refine fw_iconst dX1_standsOnLeftOut_3 ⟨by decide, by decide⟩ ?_
          refine fw_icmp_ge 30 dX1_standsOnLeftOut_4 (by decide) (fun h4 => ?_) (fun h4 => ?_)
          · skip
            exfalso; omega
          · skip
            refine fw_aload_n dX1_standsOnLeftOut_7 rfl rfl ?_
            refine fw_getr 0 (_ + 1) rfl dX1_standsOnLeftOut_8 ff_1_70 (ly_ch (by omega) (by omega) (by omega)) ⟨by omega, by omega⟩ rfl (rc_ch (by omega) (by omega)) (by omega) ?_
            refine fw_iload_n dX1_standsOnLeftOut_11 rfl rfl ?_
            refine fw_iaload dX1_standsOnLeftOut_12 (ly_gr (by omega) (by omega) (by omega)) ⟨by omega, by omega⟩ ⟨by omega, by omega⟩ ?_
            refine fw_aload_n dX1_standsOnLeftOut_13 rfl rfl ?_
            refine fw_getr 5 7 rfl dX1_standsOnLeftOut_14 ff_1_30 ly0_1 ⟨by decide, by decide⟩ rfl rfl (by decide) ?_
            refine fw_iload_n dX1_standsOnLeftOut_17 rfl rfl ?_
            refine fw_iaload dX1_standsOnLeftOut_18 ly0_7 ⟨by decide, by decide⟩ ⟨by omega, by omega⟩ ?_
            refine fw_icmp_le 24 dX1_standsOnLeftOut_19 (by decide) (fun h19 => ?_) (fun h19 => ?_)
            · skip
              refine fw_iincv (ls2 := [_, _, _]) (3) dX1_standsOnLeftOut_24 rfl (by decide) ⟨by decide, by decide⟩ (by decide) rfl ?_
              refine fw_goto 2 dX1_standsOnLeftOut_27 (by decide) ?_
              refine fw_iload_n dX1_standsOnLeftOut_2 rfl rfl ?_
              refine fw_iconst dX1_standsOnLeftOut_3 ⟨by decide, by decide⟩ ?_
              refine fw_icmp_ge 30 dX1_standsOnLeftOut_4 (by decide) (fun h4 => ?_) (fun h4 => ?_)
              · skip
                exfalso; omega
              · skip
                refine fw_aload_n dX1_standsOnLeftOut_7 rfl rfl ?_
                refine fw_getr 0 (_ + 1) rfl dX1_standsOnLeftOut_8 ff_1_70 (ly_ch (by omega) (by omega) (by omega)) ⟨by omega, by omega⟩ rfl (rc_ch (by omega) (by omega)) (by omega) ?_
                refine fw_iload_n dX1_standsOnLeftOut_11 rfl rfl ?_
                refine fw_iaload dX1_standsOnLeftOut_12 (ly_gr (by omega) (by omega) (by omega)) ⟨by omega, by omega⟩ ⟨by omega, by omega⟩ ?_
                refine fw_aload_n dX1_standsOnLeftOut_13 rfl rfl ?_
                refine fw_getr 5 7 rfl dX1_standsOnLeftOut_14 ff_1_30 ly0_1 ⟨by decide, by decide⟩ rfl rfl (by decide) ?_
                refine fw_iload_n dX1_standsOnLeftOut_17 rfl rfl ?_
                refine fw_iaload dX1_standsOnLeftOut_18 ly0_7 ⟨by decide, by decide⟩ ⟨by omega, by omega⟩ ?_
                refine fw_icmp_le 24 dX1_standsOnLeftOut_19 (by decide) (fun h19 => ?_) (fun h19 => ?_)
                · skip
                  refine fw_iincv (ls2 := [_, _, _]) (4) dX1_standsOnLeftOut_24 rfl (by decide) ⟨by decide, by decide⟩ (by decide) rfl ?_
                  refine fw_goto 2 dX1_standsOnLeftOut_27 (by decide) ?_
                  refine fw_iload_n dX1_standsOnLeftOut_2 rfl rfl ?_
                  refine fw_iconst dX1_standsOnLeftOut_3 ⟨by decide, by decide⟩ ?_
                  refine fw_icmp_ge 30 dX1_standsOnLeftOut_4 (by decide) (fun h4 => ?_) (fun h4 => ?_)
                  · skip
                    refine fw_iconst dX1_standsOnLeftOut_30 ⟨by decide, by decide⟩ ?_
                    exact fw_zret dX1_standsOnLeftOut_31 ⟨rfl, rfl, rfl⟩ (by first | decide | exact fw_b_01 _ | omega) (⟨by first | exact fw_zT (by omega) | exact fw_zF (by omega), rfl, rfl⟩)
                  · skip
                    exfalso; omega
                · skip
                  refine fw_iconst dX1_standsOnLeftOut_22 ⟨by decide, by decide⟩ ?_
                  exact fw_zret dX1_standsOnLeftOut_23 ⟨rfl, rfl, rfl⟩ (by first | decide | exact fw_b_01 _ | omega) (⟨by first | exact fw_zT (by omega) | exact fw_zF (by omega), rfl, rfl⟩)
            · skip
              refine fw_iconst dX1_standsOnLeftOut_22 ⟨by decide, by decide⟩ ?_
              exact fw_zret dX1_standsOnLeftOut_23 ⟨rfl, rfl, rfl⟩ (by first | decide | exact fw_b_01 _ | omega) (⟨by first | exact fw_zT (by omega) | exact fw_zF (by omega), rfl, rfl⟩)
        · skip
          refine fw_iconst dX1_standsOnLeftOut_22 ⟨by decide, by decide⟩ ?_
          exact fw_zret dX1_standsOnLeftOut_23 ⟨rfl, rfl, rfl⟩ (by first | decide | exact fw_b_01 _ | omega) (⟨by first | exact fw_zT (by omega) | exact fw_zF (by omega), rfl, rfl⟩)
    · skip
      refine fw_iconst dX1_standsOnLeftOut_22 ⟨by decide, by decide⟩ ?_
      exact fw_zret dX1_standsOnLeftOut_23 ⟨rfl, rfl, rfl⟩ (by first | decide | exact fw_b_01 _ | omega) (⟨by first | exact fw_zT (by omega) | exact fw_zF (by omega), rfl, rfl⟩)

set_option maxRecDepth 20000 in
set_option maxHeartbeats 4000000 in
theorem sp_X4_isThere (t : Int) (M : fw_F) (L : fw_G) (h0 : 0 ≤ t ∧ t < 12) (h1 : M 170 t = 0 ∨ M 170 t = 1) : fw_SC mX4_isThere [fw_r 168, fw_i t] M L (fw_pure (some (fw_i (M 170 t))) M L) := by
  refine fw_SP_of pl_X4_isThere (ls := [_, _]) rfl (Nat.le_of_ble_eq_true rfl) fun hA hM => ?_
  refine fw_aload_n dX4_isThere_0 rfl rfl ?_
  refine fw_getr 2 170 rfl dX4_isThere_1 ff_4_15 ly0_168 ⟨by decide, by decide⟩ rfl rfl (by decide) ?_
  refine fw_iload_n dX4_isThere_4 rfl rfl ?_
  refine fw_baload dX4_isThere_5 ly0_170 ⟨by decide, by decide⟩ ⟨by omega, by omega⟩ ?_
  exact fw_zret dX4_isThere_6 ⟨rfl, rfl, rfl⟩ (by first | decide | exact fw_b_01 _ | omega) (⟨rfl, rfl, rfl⟩)

set_option maxRecDepth 20000 in
set_option maxHeartbeats 4000000 in
theorem sp_X4_isFile (t : Int) (M : fw_F) (L : fw_G) (h0 : 0 ≤ t ∧ t < 12) : fw_SC mX4_isFile [fw_r 168, fw_i t] M L (fw_pure (some (fw_i (fw_b (¬ M 170 t = 0 ∧ M 171 t = 1)))) M L) := by
  refine fw_SP_of pl_X4_isFile (ls := [_, _]) rfl (Nat.le_of_ble_eq_true rfl) fun hA hM => ?_
  refine fw_aload_n dX4_isFile_0 rfl rfl ?_
  refine fw_getr 2 170 rfl dX4_isFile_1 ff_4_15 ly0_168 ⟨by decide, by decide⟩ rfl rfl (by decide) ?_
  refine fw_iload_n dX4_isFile_4 rfl rfl ?_
  refine fw_baload dX4_isFile_5 ly0_170 ⟨by decide, by decide⟩ ⟨by omega, by omega⟩ ?_
  refine fw_if_eq 23 dX4_isFile_6 (by decide) (fun h6 => ?_) (fun h6 => ?_)
  · skip
    refine fw_iconst dX4_isFile_23 ⟨by decide, by decide⟩ ?_
    exact fw_zret dX4_isFile_24 ⟨rfl, rfl, rfl⟩ (by first | decide | exact fw_b_01 _ | omega) (⟨by first | exact fw_zT (by omega) | exact fw_zF (by omega), rfl, rfl⟩)
  · skip
    refine fw_aload_n dX4_isFile_9 rfl rfl ?_
    refine fw_getr 3 171 rfl dX4_isFile_10 ff_4_18 ly0_168 ⟨by decide, by decide⟩ rfl rfl (by decide) ?_
    refine fw_iload_n dX4_isFile_13 rfl rfl ?_
    refine fw_iaload dX4_isFile_14 ly0_171 ⟨by decide, by decide⟩ ⟨by omega, by omega⟩ ?_
    refine fw_iconst dX4_isFile_15 ⟨by decide, by decide⟩ ?_
    refine fw_icmp_ne 23 dX4_isFile_16 (by decide) (fun h16 => ?_) (fun h16 => ?_)
    · skip
      refine fw_iconst dX4_isFile_23 ⟨by decide, by decide⟩ ?_
      exact fw_zret dX4_isFile_24 ⟨rfl, rfl, rfl⟩ (by first | decide | exact fw_b_01 _ | omega) (⟨by first | exact fw_zT (by omega) | exact fw_zF (by omega), rfl, rfl⟩)
    · skip
      refine fw_iconst dX4_isFile_19 ⟨by decide, by decide⟩ ?_
      refine fw_goto 24 dX4_isFile_20 (by decide) ?_
      exact fw_zret dX4_isFile_24 ⟨rfl, rfl, rfl⟩ (by first | decide | exact fw_b_01 _ | omega) (⟨by first | exact fw_zT (by omega) | exact fw_zF (by omega), rfl, rfl⟩)

set_option maxRecDepth 20000 in
set_option maxHeartbeats 4000000 in
theorem sp_X4_isFolder (t : Int) (M : fw_F) (L : fw_G) (h0 : 0 ≤ t ∧ t < 12) : fw_SC mX4_isFolder [fw_r 168, fw_i t] M L (fw_pure (some (fw_i (fw_b (¬ M 170 t = 0 ∧ M 171 t = 2)))) M L) := by
  refine fw_SP_of pl_X4_isFolder (ls := [_, _]) rfl (Nat.le_of_ble_eq_true rfl) fun hA hM => ?_
  refine fw_aload_n dX4_isFolder_0 rfl rfl ?_
  refine fw_getr 2 170 rfl dX4_isFolder_1 ff_4_15 ly0_168 ⟨by decide, by decide⟩ rfl rfl (by decide) ?_
  refine fw_iload_n dX4_isFolder_4 rfl rfl ?_
  refine fw_baload dX4_isFolder_5 ly0_170 ⟨by decide, by decide⟩ ⟨by omega, by omega⟩ ?_
  refine fw_if_eq 23 dX4_isFolder_6 (by decide) (fun h6 => ?_) (fun h6 => ?_)
  · skip
    refine fw_iconst dX4_isFolder_23 ⟨by decide, by decide⟩ ?_
    exact fw_zret dX4_isFolder_24 ⟨rfl, rfl, rfl⟩ (by first | decide | exact fw_b_01 _ | omega) (⟨by first | exact fw_zT (by omega) | exact fw_zF (by omega), rfl, rfl⟩)
  · skip
    refine fw_aload_n dX4_isFolder_9 rfl rfl ?_
    refine fw_getr 3 171 rfl dX4_isFolder_10 ff_4_18 ly0_168 ⟨by decide, by decide⟩ rfl rfl (by decide) ?_
    refine fw_iload_n dX4_isFolder_13 rfl rfl ?_
    refine fw_iaload dX4_isFolder_14 ly0_171 ⟨by decide, by decide⟩ ⟨by omega, by omega⟩ ?_
    refine fw_iconst dX4_isFolder_15 ⟨by decide, by decide⟩ ?_
    refine fw_icmp_ne 23 dX4_isFolder_16 (by decide) (fun h16 => ?_) (fun h16 => ?_)
    · skip
      refine fw_iconst dX4_isFolder_23 ⟨by decide, by decide⟩ ?_
      exact fw_zret dX4_isFolder_24 ⟨rfl, rfl, rfl⟩ (by first | decide | exact fw_b_01 _ | omega) (⟨by first | exact fw_zT (by omega) | exact fw_zF (by omega), rfl, rfl⟩)
    · skip
      refine fw_iconst dX4_isFolder_19 ⟨by decide, by decide⟩ ?_
      refine fw_goto 24 dX4_isFolder_20 (by decide) ?_
      exact fw_zret dX4_isFolder_24 ⟨rfl, rfl, rfl⟩ (by first | decide | exact fw_b_01 _ | omega) (⟨by first | exact fw_zT (by omega) | exact fw_zF (by omega), rfl, rfl⟩)

set_option maxRecDepth 20000 in
set_option maxHeartbeats 4000000 in
theorem lp_X4_isWithin_0 (t o : Int) (M : fw_F) (L : fw_G) (a s : Int)  (h0 : 12 - s = (0 : Nat)) (h1 : 0 ≤ s) (h2 : 0 ≤ a) (h3 : a < 12) : fw_C mX4_isWithin 5 [some (fw_r 168), some (fw_i t), some (fw_i o), some (fw_i a), some (fw_i s)] [] M L (fw_pure (some (fw_i (fw_b (fw_up (M 172) o 0 a = o)))) M L) := by
  refine fw_iload dX4_isWithin_5 rfl ?_
  refine fw_bipush dX4_isWithin_7 ⟨by decide, by decide⟩ (by decide) ?_
  refine fw_icmp_ge 34 dX4_isWithin_9 (by decide) (fun h9 => ?_) (fun h9 => ?_)
  · skip
    refine fw_iload_n dX4_isWithin_34 rfl rfl ?_
    refine fw_iload_n dX4_isWithin_35 rfl rfl ?_
    refine fw_icmp_ne 43 dX4_isWithin_36 (by decide) (fun h36 => ?_) (fun h36 => ?_)
    · skip
      refine fw_iconst dX4_isWithin_43 ⟨by decide, by decide⟩ ?_
      refine fw_zret dX4_isWithin_44 ⟨rfl, rfl, rfl⟩ (by first | decide | exact fw_b_01 _ | omega) ?_
      refine ⟨?_, rfl, rfl⟩
      show _ = some (fw_i (fw_b (a = o)))
      first | exact fw_zT (by omega) | exact fw_zF (by omega)
    · skip
      refine fw_iconst dX4_isWithin_39 ⟨by decide, by decide⟩ ?_
      refine fw_goto 44 dX4_isWithin_40 (by decide) ?_
      refine fw_zret dX4_isWithin_44 ⟨rfl, rfl, rfl⟩ (by first | decide | exact fw_b_01 _ | omega) ?_
      refine ⟨?_, rfl, rfl⟩
      show _ = some (fw_i (fw_b (a = o)))
      first | exact fw_zT (by omega) | exact fw_zF (by omega)
  · skip
    exfalso; omega

set_option maxRecDepth 20000 in
set_option maxHeartbeats 4000000 in
theorem lp_X4_isWithin (t o : Int) (M : fw_F) (L : fw_G) (hf : ∀ t, 0 ≤ t → t < 12 → 0 ≤ M 172 t ∧ M 172 t < 12) : ∀ (n : Nat) (a s : Int), 12 - s = n → 0 ≤ s → 0 ≤ a → a < 12 → fw_C mX4_isWithin 5 [some (fw_r 168), some (fw_i t), some (fw_i o), some (fw_i a), some (fw_i s)] [] M L (fw_pure (some (fw_i (fw_b (fw_up (M 172) o n a = o)))) M L) := by
  intro n
  induction n with
  | zero => intro a s h0 h1 h2 h3; exact lp_X4_isWithin_0 t o M L a s h0 h1 h2 h3
  | succ n ih =>
    intro a s h0 h1 h2 h3
    refine fw_iload dX4_isWithin_5 rfl ?_
    refine fw_bipush dX4_isWithin_7 ⟨by decide, by decide⟩ (by decide) ?_
    refine fw_icmp_ge 34 dX4_isWithin_9 (by decide) (fun h9 => ?_) (fun h9 => ?_)
    · skip
      refine fw_iload_n dX4_isWithin_34 rfl rfl ?_
      refine fw_iload_n dX4_isWithin_35 rfl rfl ?_
      refine fw_icmp_ne 43 dX4_isWithin_36 (by decide) (fun h36 => ?_) (fun h36 => ?_)
      · skip
        refine fw_iconst dX4_isWithin_43 ⟨by decide, by decide⟩ ?_
        refine fw_zret dX4_isWithin_44 ⟨rfl, rfl, rfl⟩ (by first | decide | exact fw_b_01 _ | omega) ?_
        refine ⟨?_, rfl, rfl⟩
        first | (exfalso; omega) | (rw [show fw_up (M 172) o (n + 1) a = a by unfold fw_up; rw [if_pos (by omega)]]; first | exact fw_zT (by omega) | exact fw_zF (by omega))
      · skip
        refine fw_iconst dX4_isWithin_39 ⟨by decide, by decide⟩ ?_
        refine fw_goto 44 dX4_isWithin_40 (by decide) ?_
        refine fw_zret dX4_isWithin_44 ⟨rfl, rfl, rfl⟩ (by first | decide | exact fw_b_01 _ | omega) ?_
        refine ⟨?_, rfl, rfl⟩
        first | (exfalso; omega) | (rw [show fw_up (M 172) o (n + 1) a = a by unfold fw_up; rw [if_pos (by omega)]]; first | exact fw_zT (by omega) | exact fw_zF (by omega))
    · skip
      refine fw_iload_n dX4_isWithin_12 rfl rfl ?_
      refine fw_iload_n dX4_isWithin_13 rfl rfl ?_
      refine fw_icmp_eq 34 dX4_isWithin_14 (by decide) (fun h14 => ?_) (fun h14 => ?_)
      · skip
        refine fw_iload_n dX4_isWithin_34 rfl rfl ?_
        refine fw_iload_n dX4_isWithin_35 rfl rfl ?_
        refine fw_icmp_ne 43 dX4_isWithin_36 (by decide) (fun h36 => ?_) (fun h36 => ?_)
        · skip
          refine fw_iconst dX4_isWithin_43 ⟨by decide, by decide⟩ ?_
          refine fw_zret dX4_isWithin_44 ⟨rfl, rfl, rfl⟩ (by first | decide | exact fw_b_01 _ | omega) ?_
          refine ⟨?_, rfl, rfl⟩
          first | (exfalso; omega) | (rw [show fw_up (M 172) o (n + 1) a = a by unfold fw_up; rw [if_pos (by omega)]]; first | exact fw_zT (by omega) | exact fw_zF (by omega))
        · skip
          refine fw_iconst dX4_isWithin_39 ⟨by decide, by decide⟩ ?_
          refine fw_goto 44 dX4_isWithin_40 (by decide) ?_
          refine fw_zret dX4_isWithin_44 ⟨rfl, rfl, rfl⟩ (by first | decide | exact fw_b_01 _ | omega) ?_
          refine ⟨?_, rfl, rfl⟩
          first | (exfalso; omega) | (rw [show fw_up (M 172) o (n + 1) a = a by unfold fw_up; rw [if_pos (by omega)]]; first | exact fw_zT (by omega) | exact fw_zF (by omega))
      · skip
        refine fw_iload_n dX4_isWithin_17 rfl rfl ?_
        refine fw_if_eq 34 dX4_isWithin_18 (by decide) (fun h18 => ?_) (fun h18 => ?_)
        · skip
          refine fw_iload_n dX4_isWithin_34 rfl rfl ?_
          refine fw_iload_n dX4_isWithin_35 rfl rfl ?_
          refine fw_icmp_ne 43 dX4_isWithin_36 (by decide) (fun h36 => ?_) (fun h36 => ?_)
          · skip
            refine fw_iconst dX4_isWithin_43 ⟨by decide, by decide⟩ ?_
            refine fw_zret dX4_isWithin_44 ⟨rfl, rfl, rfl⟩ (by first | decide | exact fw_b_01 _ | omega) ?_
            refine ⟨?_, rfl, rfl⟩
            first | (exfalso; omega) | (rw [show fw_up (M 172) o (n + 1) a = a by unfold fw_up; rw [if_pos (by omega)]]; first | exact fw_zT (by omega) | exact fw_zF (by omega))
          · skip
            refine fw_iconst dX4_isWithin_39 ⟨by decide, by decide⟩ ?_
            refine fw_goto 44 dX4_isWithin_40 (by decide) ?_
            refine fw_zret dX4_isWithin_44 ⟨rfl, rfl, rfl⟩ (by first | decide | exact fw_b_01 _ | omega) ?_
            refine ⟨?_, rfl, rfl⟩
            first | (exfalso; omega) | (rw [show fw_up (M 172) o (n + 1) a = a by unfold fw_up; rw [if_pos (by omega)]]; first | exact fw_zT (by omega) | exact fw_zF (by omega))
        · skip
          refine fw_aload_n dX4_isWithin_21 rfl rfl ?_
          refine fw_getr 4 172 rfl dX4_isWithin_22 ff_4_22 ly0_168 ⟨by decide, by decide⟩ rfl rfl (by decide) ?_
          refine fw_iload_n dX4_isWithin_25 rfl rfl ?_
          refine fw_iaload dX4_isWithin_26 ly0_172 ⟨by decide, by decide⟩ ⟨by omega, by omega⟩ ?_
          refine fw_istore_n (ls2 := [_, _, _, _, _]) dX4_isWithin_27 rfl (by decide) rfl ?_
          refine fw_iinc (ls2 := [_, _, _, _, _]) dX4_isWithin_28 rfl ⟨by omega, by omega⟩ (by decide) rfl ?_
          refine fw_goto 5 dX4_isWithin_31 (by decide) ?_
          rw [show fw_up (M 172) o (n + 1) a = fw_up (M 172) o n (M 172 a) by rw [fw_up, if_neg (by omega)]]
          exact ih _ (s + 1) (by omega) (by omega) (hf a h2 h3).1 (hf a h2 h3).2
