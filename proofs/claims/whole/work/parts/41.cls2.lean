set_option maxRecDepth 20000 in
set_option maxHeartbeats 4000000 in
theorem sp_X4_put (c into place : Int) (M : fw_F) (L : fw_G) (h1 : 8 ≤ c ∧ c < 168 ∧ c % 2 = 0) (h2 : 0 ≤ M c 4 ∧ M c 4 < 12) : fw_SC mX4_put [fw_r 168, fw_r c, fw_i into, fw_i place] M L (fun r M2 L2 => r = none ∧ M2 = cl_put M (M c 4) into (M c 9) place ∧ L2 = L) := by
  refine fw_SP_of pl_X4_put (ls := [_, _, _, _]) rfl (Nat.le_of_ble_eq_true rfl) fun hA hM => ?_
  refine fw_aload_n dX4_put_0 rfl rfl ?_
  refine fw_getr 4 172 rfl dX4_put_1 ff_4_22 ly0_168 ⟨by decide, by decide⟩ rfl rfl (by decide) ?_
  refine fw_aload_n dX4_put_4 rfl rfl ?_
  refine fw_geti 4 rfl dX4_put_5 ff_4_82 (ly_ch (by omega) (by omega) (by omega)) ⟨by omega, by omega⟩ rfl ?_
  refine fw_iload_n dX4_put_8 rfl rfl ?_
  refine fw_iastore dX4_put_9 ly0_172 (by decide) ⟨by decide, by decide⟩ ⟨by omega, by omega⟩ ?_
  refine fw_aload_n dX4_put_10 rfl rfl ?_
  refine fw_getr 5 173 rfl dX4_put_11 ff_4_25 ly0_168 ⟨by decide, by decide⟩ rfl rfl (by decide) ?_
  refine fw_aload_n dX4_put_14 rfl rfl ?_
  refine fw_geti 4 rfl dX4_put_15 ff_4_82 (ly_ch (by omega) (by omega) (by omega)) ⟨by omega, by omega⟩ rfl ?_
  simp (disch := omega) only [fw_updne]
  refine fw_aload_n dX4_put_18 rfl rfl ?_
  refine fw_geti 9 rfl dX4_put_19 ff_4_106 (ly_ch (by omega) (by omega) (by omega)) ⟨by omega, by omega⟩ rfl ?_
  simp (disch := omega) only [fw_updne]
  refine fw_iastore dX4_put_22 ly0_173 (by decide) ⟨by decide, by decide⟩ ⟨by omega, by omega⟩ ?_
  refine fw_aload_n dX4_put_23 rfl rfl ?_
  refine fw_getr 7 175 rfl dX4_put_24 ff_4_31 ly0_168 ⟨by decide, by decide⟩ rfl rfl (by decide) ?_
  refine fw_aload_n dX4_put_27 rfl rfl ?_
  refine fw_geti 4 rfl dX4_put_28 ff_4_82 (ly_ch (by omega) (by omega) (by omega)) ⟨by omega, by omega⟩ rfl ?_
  simp (disch := omega) only [fw_updne]
  refine fw_iload_n dX4_put_31 rfl rfl ?_
  refine fw_iastore dX4_put_32 ly0_175 (by decide) ⟨by decide, by decide⟩ ⟨by omega, by omega⟩ ?_
  exact fw_vret dX4_put_33 ⟨rfl, rfl, rfl⟩ (⟨rfl, rfl, rfl⟩)

set_option maxRecDepth 20000 in
set_option maxHeartbeats 4000000 in
theorem sp_X4_applyNew (c place : Int) (M : fw_F) (L : fw_G) (h1 : 8 ≤ c ∧ c < 168 ∧ c % 2 = 0) (h2 : 0 ≤ M c 4 ∧ M c 4 < 12) (h3 : 0 ≤ M c 8 ∧ M c 8 < 12) : fw_SC mX4_applyNew [fw_r 168, fw_r c, fw_i place] M L (fun r M2 L2 => r = none ∧ M2 = (if M 169 (M c 4) = 0 then cl_new M (M c 4) (M c 8) (M c 9) (M c 7) place else M) ∧ L2 = L) := by
  refine fw_SP_of pl_X4_applyNew (ls := [_, _, _]) rfl (Nat.le_of_ble_eq_true rfl) fun hA hM => ?_
  refine fw_aload_n dX4_applyNew_0 rfl rfl ?_
  refine fw_geti 4 rfl dX4_applyNew_1 ff_4_82 (ly_ch (by omega) (by omega) (by omega)) ⟨by omega, by omega⟩ rfl ?_
  refine fw_istore_n (ls2 := [_, _, _, _]) dX4_applyNew_4 rfl (by decide) rfl ?_
  refine fw_aload_n dX4_applyNew_5 rfl rfl ?_
  refine fw_getr 1 169 rfl dX4_applyNew_6 ff_4_9 ly0_168 ⟨by decide, by decide⟩ rfl rfl (by decide) ?_
  refine fw_iload_n dX4_applyNew_9 rfl rfl ?_
  refine fw_baload dX4_applyNew_10 ly0_169 ⟨by decide, by decide⟩ ⟨by omega, by omega⟩ ?_
  refine fw_if_eq 15 dX4_applyNew_11 (by decide) (fun h11 => ?_) (fun h11 => ?_)
  · skip
    refine fw_aload_n dX4_applyNew_15 rfl rfl ?_
    refine fw_aload_n dX4_applyNew_16 rfl rfl ?_
    refine fw_aload_n dX4_applyNew_17 rfl rfl ?_
    refine fw_aload_n dX4_applyNew_18 rfl rfl ?_
    refine fw_geti 8 rfl dX4_applyNew_19 ff_4_85 (ly_ch (by omega) (by omega) (by omega)) ⟨by omega, by omega⟩ rfl ?_
    refine fw_pV mX4_isFolder [_] dX4_applyNew_22 mv_X4_isFolder lk_4_100 ⟨⟨by decide, by decide⟩, rfl, rfl, rfl, by decide, by decide⟩ ly0_168 ⟨by decide, by decide⟩ rfl rfl (Nat.le_of_ble_eq_true rfl) (sp_X4_isFolder _ _ _ (by omega)) ?_
    refine fw_bifeq 35 dX4_applyNew_25 (by decide) (fun h25 => ?_) (fun h25 => ?_)
    · skip
      refine fw_iconst dX4_applyNew_35 ⟨by decide, by decide⟩ ?_
      refine fw_iload_n dX4_applyNew_36 rfl rfl ?_
      refine fw_cV mX4_put [_, _, _] dX4_applyNew_37 mv_X4_put lk_4_91 ⟨⟨by decide, by decide⟩, rfl, rfl, rfl, by decide, by decide⟩ ly0_168 ⟨by decide, by decide⟩ rfl rfl (Nat.le_of_ble_eq_true rfl) (sp_X4_put _ _ _ _ _ (by omega) (by omega)) (fun r M1 L1 hp hM1 => ?_)
      obtain ⟨rfl, rfl, rfl⟩ := hp
      refine fw_aload_n dX4_applyNew_40 rfl rfl ?_
      refine fw_getr 1 169 rfl dX4_applyNew_41 ff_4_9 ly0_168 ⟨by decide, by decide⟩ rfl rfl (by decide) ?_
      refine fw_iload_n dX4_applyNew_44 rfl rfl ?_
      refine fw_iconst dX4_applyNew_45 ⟨by decide, by decide⟩ ?_
      refine fw_bastore dX4_applyNew_46 ly0_169 (by decide) ⟨by decide, by decide⟩ ⟨by omega, by omega⟩ (by omega) ?_
      refine fw_aload_n dX4_applyNew_47 rfl rfl ?_
      refine fw_getr 2 170 rfl dX4_applyNew_48 ff_4_15 ly0_168 ⟨by decide, by decide⟩ rfl rfl (by decide) ?_
      refine fw_iload_n dX4_applyNew_51 rfl rfl ?_
      refine fw_iconst dX4_applyNew_52 ⟨by decide, by decide⟩ ?_
      refine fw_bastore dX4_applyNew_53 ly0_170 (by decide) ⟨by decide, by decide⟩ ⟨by omega, by omega⟩ (by omega) ?_
      refine fw_aload_n dX4_applyNew_54 rfl rfl ?_
      refine fw_getr 3 171 rfl dX4_applyNew_55 ff_4_18 ly0_168 ⟨by decide, by decide⟩ rfl rfl (by decide) ?_
      refine fw_iload_n dX4_applyNew_58 rfl rfl ?_
      refine fw_aload_n dX4_applyNew_59 rfl rfl ?_
      refine fw_geti 7 rfl dX4_applyNew_60 ff_4_104 (ly_ch (by omega) (by omega) (by omega)) ⟨by omega, by omega⟩ rfl ?_
      refine fw_iastore dX4_applyNew_63 ly0_171 (by decide) ⟨by decide, by decide⟩ ⟨by omega, by omega⟩ ?_
      refine fw_vret dX4_applyNew_64 ⟨rfl, rfl, rfl⟩ ?_
      refine ⟨rfl, ?_, rfl⟩
      rw [if_pos h11]
      unfold cl_new
      first | rw [if_pos h25] | rw [if_neg h25]
      simp (disch := omega) only [fw_updne, (cl_put_v M _ _ _ _).1]
    · skip
      refine fw_aload_n dX4_applyNew_28 rfl rfl ?_
      refine fw_geti 8 rfl dX4_applyNew_29 ff_4_85 (ly_ch (by omega) (by omega) (by omega)) ⟨by omega, by omega⟩ rfl ?_
      refine fw_goto 36 dX4_applyNew_32 (by decide) ?_
      refine fw_iload_n dX4_applyNew_36 rfl rfl ?_
      refine fw_cV mX4_put [_, _, _] dX4_applyNew_37 mv_X4_put lk_4_91 ⟨⟨by decide, by decide⟩, rfl, rfl, rfl, by decide, by decide⟩ ly0_168 ⟨by decide, by decide⟩ rfl rfl (Nat.le_of_ble_eq_true rfl) (sp_X4_put _ _ _ _ _ (by omega) (by omega)) (fun r M1 L1 hp hM1 => ?_)
      obtain ⟨rfl, rfl, rfl⟩ := hp
      refine fw_aload_n dX4_applyNew_40 rfl rfl ?_
      refine fw_getr 1 169 rfl dX4_applyNew_41 ff_4_9 ly0_168 ⟨by decide, by decide⟩ rfl rfl (by decide) ?_
      refine fw_iload_n dX4_applyNew_44 rfl rfl ?_
      refine fw_iconst dX4_applyNew_45 ⟨by decide, by decide⟩ ?_
      refine fw_bastore dX4_applyNew_46 ly0_169 (by decide) ⟨by decide, by decide⟩ ⟨by omega, by omega⟩ (by omega) ?_
      refine fw_aload_n dX4_applyNew_47 rfl rfl ?_
      refine fw_getr 2 170 rfl dX4_applyNew_48 ff_4_15 ly0_168 ⟨by decide, by decide⟩ rfl rfl (by decide) ?_
      refine fw_iload_n dX4_applyNew_51 rfl rfl ?_
      refine fw_iconst dX4_applyNew_52 ⟨by decide, by decide⟩ ?_
      refine fw_bastore dX4_applyNew_53 ly0_170 (by decide) ⟨by decide, by decide⟩ ⟨by omega, by omega⟩ (by omega) ?_
      refine fw_aload_n dX4_applyNew_54 rfl rfl ?_
      refine fw_getr 3 171 rfl dX4_applyNew_55 ff_4_18 ly0_168 ⟨by decide, by decide⟩ rfl rfl (by decide) ?_
      refine fw_iload_n dX4_applyNew_58 rfl rfl ?_
      refine fw_aload_n dX4_applyNew_59 rfl rfl ?_
      refine fw_geti 7 rfl dX4_applyNew_60 ff_4_104 (ly_ch (by omega) (by omega) (by omega)) ⟨by omega, by omega⟩ rfl ?_
      refine fw_iastore dX4_applyNew_63 ly0_171 (by decide) ⟨by decide, by decide⟩ ⟨by omega, by omega⟩ ?_
      refine fw_vret dX4_applyNew_64 ⟨rfl, rfl, rfl⟩ ?_
      refine ⟨rfl, ?_, rfl⟩
      rw [if_pos h11]
      unfold cl_new
      first | rw [if_pos h25] | rw [if_neg h25]
      simp (disch := omega) only [fw_updne, (cl_put_v M _ _ _ _).1]
  · skip
    exact fw_vret dX4_applyNew_14 ⟨rfl, rfl, rfl⟩ (⟨rfl, by rw [if_neg h11], rfl⟩)

set_option maxRecDepth 20000 in
set_option maxHeartbeats 4000000 in
theorem sp_X4_isWithin (t o : Int) (M : fw_F) (L : fw_G) (hf : ∀ t, 0 ≤ t → t < 12 → 0 ≤ M 172 t ∧ M 172 t < 12) (h0 : 0 ≤ t ∧ t < 12) : fw_SC mX4_isWithin [fw_r 168, fw_i t, fw_i o] M L (fw_pure (some (fw_i (fw_b (fw_up (M 172) o 12 t = o)))) M L) := by
  refine fw_SP_of pl_X4_isWithin (ls := [_, _, _]) rfl (Nat.le_of_ble_eq_true rfl) fun hA hM => ?_
  refine fw_iload_n dX4_isWithin_0 rfl rfl ?_
  refine fw_istore_n (ls2 := [_, _, _, _]) dX4_isWithin_1 rfl (by decide) rfl ?_
  refine fw_iconst dX4_isWithin_2 ⟨by decide, by decide⟩ ?_
  refine fw_istore (ls2 := [_, _, _, _, _]) dX4_isWithin_3 (by decide) rfl ?_
  exact lp_X4_isWithin t o M L hf 12 t 0 (by decide) (by decide) h0.1 h0.2

set_option maxRecDepth 20000 in
set_option maxHeartbeats 4000000 in
theorem sp_X4_mayMove (t i : Int) (M : fw_F) (L : fw_G) (hf : ∀ t, 0 ≤ t → t < 12 → 0 ≤ M 172 t ∧ M 172 t < 12) (h0 : 0 ≤ t ∧ t < 12) (h1 : 0 ≤ i ∧ i < 12) : fw_SC mX4_mayMove [fw_r 168, fw_i t, fw_i i] M L (fw_pure (some (fw_i (fw_b (¬ t = 0 ∧ ¬ M 170 t = 0 ∧ (¬ M 170 i = 0 ∧ M 171 i = 2) ∧ ¬ fw_up (M 172) t 12 i = t)))) M L) := by
  refine fw_SP_of pl_X4_mayMove (ls := [_, _, _]) rfl (Nat.le_of_ble_eq_true rfl) fun hA hM => ?_
  refine fw_iload_n dX4_mayMove_0 rfl rfl ?_
  refine fw_if_eq 34 dX4_mayMove_1 (by decide) (fun h1 => ?_) (fun h1 => ?_)
  · skip
    refine fw_iconst dX4_mayMove_34 ⟨by decide, by decide⟩ ?_
    exact fw_zret dX4_mayMove_35 ⟨rfl, rfl, rfl⟩ (by first | decide | exact fw_b_01 _ | omega) (⟨by first | exact fw_zT ⟨by assumption, by assumption, by assumption, by assumption⟩ | exact fw_zF (fun q => by first | exact q.1 (by assumption) | exact q.2.1 (by assumption) | exact absurd q.2.2.1 (by assumption) | exact q.2.2.2 (by assumption)), rfl, rfl⟩)
  · skip
    refine fw_aload_n dX4_mayMove_4 rfl rfl ?_
    refine fw_getr 2 170 rfl dX4_mayMove_5 ff_4_15 ly0_168 ⟨by decide, by decide⟩ rfl rfl (by decide) ?_
    refine fw_iload_n dX4_mayMove_8 rfl rfl ?_
    refine fw_baload dX4_mayMove_9 ly0_170 ⟨by decide, by decide⟩ ⟨by omega, by omega⟩ ?_
    refine fw_if_eq 34 dX4_mayMove_10 (by decide) (fun h10 => ?_) (fun h10 => ?_)
    · skip
      refine fw_iconst dX4_mayMove_34 ⟨by decide, by decide⟩ ?_
      exact fw_zret dX4_mayMove_35 ⟨rfl, rfl, rfl⟩ (by first | decide | exact fw_b_01 _ | omega) (⟨by first | exact fw_zT ⟨by assumption, by assumption, by assumption, by assumption⟩ | exact fw_zF (fun q => by first | exact q.1 (by assumption) | exact q.2.1 (by assumption) | exact absurd q.2.2.1 (by assumption) | exact q.2.2.2 (by assumption)), rfl, rfl⟩)
    · skip
      refine fw_aload_n dX4_mayMove_13 rfl rfl ?_
      refine fw_iload_n dX4_mayMove_14 rfl rfl ?_
      refine fw_pV mX4_isFolder [_] dX4_mayMove_15 mv_X4_isFolder lk_4_100 ⟨⟨by decide, by decide⟩, rfl, rfl, rfl, by decide, by decide⟩ ly0_168 ⟨by decide, by decide⟩ rfl rfl (Nat.le_of_ble_eq_true rfl) (sp_X4_isFolder _ _ _ (by omega)) ?_
      refine fw_bifeq 34 dX4_mayMove_18 (by decide) (fun h18 => ?_) (fun h18 => ?_)
      · skip
        refine fw_iconst dX4_mayMove_34 ⟨by decide, by decide⟩ ?_
        exact fw_zret dX4_mayMove_35 ⟨rfl, rfl, rfl⟩ (by first | decide | exact fw_b_01 _ | omega) (⟨by first | exact fw_zT ⟨by assumption, by assumption, by assumption, by assumption⟩ | exact fw_zF (fun q => by first | exact q.1 (by assumption) | exact q.2.1 (by assumption) | exact absurd q.2.2.1 (by assumption) | exact q.2.2.2 (by assumption)), rfl, rfl⟩)
      · skip
        refine fw_aload_n dX4_mayMove_21 rfl rfl ?_
        refine fw_iload_n dX4_mayMove_22 rfl rfl ?_
        refine fw_iload_n dX4_mayMove_23 rfl rfl ?_
        refine fw_pV mX4_isWithin [_, _] dX4_mayMove_24 mv_X4_isWithin lk_4_108 ⟨⟨by decide, by decide⟩, rfl, rfl, rfl, by decide, by decide⟩ ly0_168 ⟨by decide, by decide⟩ rfl rfl (Nat.le_of_ble_eq_true rfl) (sp_X4_isWithin _ _ _ _ (by assumption) (by omega)) ?_
        refine fw_bifne 34 dX4_mayMove_27 (by decide) (fun h27 => ?_) (fun h27 => ?_)
        · skip
          refine fw_iconst dX4_mayMove_34 ⟨by decide, by decide⟩ ?_
          exact fw_zret dX4_mayMove_35 ⟨rfl, rfl, rfl⟩ (by first | decide | exact fw_b_01 _ | omega) (⟨by first | exact fw_zT ⟨by assumption, by assumption, by assumption, by assumption⟩ | exact fw_zF (fun q => by first | exact q.1 (by assumption) | exact q.2.1 (by assumption) | exact absurd q.2.2.1 (by assumption) | exact q.2.2.2 (by assumption)), rfl, rfl⟩)
        · skip
          refine fw_iconst dX4_mayMove_30 ⟨by decide, by decide⟩ ?_
          refine fw_goto 35 dX4_mayMove_31 (by decide) ?_
          exact fw_zret dX4_mayMove_35 ⟨rfl, rfl, rfl⟩ (by first | decide | exact fw_b_01 _ | omega) (⟨by first | exact fw_zT ⟨by assumption, by assumption, by assumption, by assumption⟩ | exact fw_zF (fun q => by first | exact q.1 (by assumption) | exact q.2.1 (by assumption) | exact absurd q.2.2.1 (by assumption) | exact q.2.2.2 (by assumption)), rfl, rfl⟩)

set_option maxRecDepth 20000 in
set_option maxHeartbeats 4000000 in
theorem lp_X4_applyGone (g : Int) (N : fw_F) (L : fw_G) (hg : 1 ≤ g ∧ g < 12) (hf : ∀ t, 0 ≤ t → t < 12 → 0 ≤ N 172 t ∧ N 172 t < 12) : ∀ (n : Nat) (t : Int) (M : fw_F), 12 - t < n → 1 ≤ t → t ≤ 12 → (∀ k, ¬ k = 170 → M k = N k) → (∀ u, 0 ≤ u → u < 12 → M 170 u = if 1 ≤ u ∧ u < t ∧ fw_up (N 172) g 12 u = g then 0 else N 170 u) → fw_C mX4_applyGone 16 [some (fw_r 168), some (fw_i g), some (fw_i t)] [] M L (fun r M2 L2 => r = none ∧ L2 = L ∧ (∀ k, ¬ k = 170 → M2 k = N k) ∧ (∀ u, 0 ≤ u → u < 12 → M2 170 u = if 1 ≤ u ∧ fw_up (N 172) g 12 u = g then 0 else N 170 u)) := by
  intro n
  induction n with
  | zero => intro t M h0 h1 h2; omega
  | succ n ih =>
    intro t M h0 h1 h2 hk hu
    refine fw_iload_n dX4_applyGone_16 rfl rfl ?_
    refine fw_bipush dX4_applyGone_17 ⟨by decide, by decide⟩ (by decide) ?_
    refine fw_icmp_ge 53 dX4_applyGone_19 (by decide) (fun h19 => ?_) (fun h19 => ?_)
    · skip
      refine fw_vret dX4_applyGone_53 ⟨rfl, rfl, rfl⟩ ?_
      refine ⟨rfl, rfl, hk, fun u u0 u1 => ?_⟩
      rw [hu u u0 u1]
      by_cases q : 1 ≤ u ∧ fw_up (N 172) g 12 u = g
      · rw [if_pos q, if_pos ⟨q.1, by omega, q.2⟩]
      · rw [if_neg q, if_neg (fun q2 => q ⟨q2.1, q2.2.2⟩)]
    · skip
      refine fw_aload_n dX4_applyGone_22 rfl rfl ?_
      refine fw_getr 2 170 rfl dX4_applyGone_23 ff_4_15 ly0_168 ⟨by decide, by decide⟩ rfl rfl (by decide) ?_
      refine fw_iload_n dX4_applyGone_26 rfl rfl ?_
      refine fw_baload dX4_applyGone_27 ly0_170 ⟨by decide, by decide⟩ ⟨by omega, by omega⟩ ?_
      refine fw_if_eq 47 dX4_applyGone_28 (by decide) (fun h28 => ?_) (fun h28 => ?_)
      · skip
        refine fw_iinc (ls2 := [_, _, _]) dX4_applyGone_47 rfl ⟨by omega, by omega⟩ (by decide) rfl ?_
        refine fw_goto 16 dX4_applyGone_50 (by decide) ?_
        refine ih (t + 1) _ (by omega) (by omega) (by omega) ?_ ?_
        · first | exact hk | exact fun k h => (fw_updne h).trans (hk k h)
        · intro u u0 u1
          have hu0 := hu u u0 u1
          have hut := hu t (by omega) (by omega)
          first | rw [fw_updeq] | skip
          by_cases hut2 : u = t
          · subst hut2
            rw [if_neg (by omega)] at hut
            first
              | (rw [if_pos rfl, if_pos ⟨by omega, by omega, by rw [← e172]; exact h37⟩])
              | (rw [hut]; split <;> first | (rename_i q; rw [e172] at h37; exact absurd q.2.2 h37) | (rw [← hut]; exact h28) | rfl)
          · first | rw [if_neg hut2] | skip
            rw [hu0]
            by_cases q : 1 ≤ u ∧ u < t ∧ fw_up (N 172) g 12 u = g
            · rw [if_pos q, if_pos ⟨q.1, by omega, q.2.2⟩]
            · rw [if_neg q, if_neg (fun q2 => q ⟨q2.1, by omega, q2.2.2⟩)]
      · skip
        have e172 := hk 172 (by decide)
        refine fw_aload_n dX4_applyGone_31 rfl rfl ?_
        refine fw_iload_n dX4_applyGone_32 rfl rfl ?_
        refine fw_iload_n dX4_applyGone_33 rfl rfl ?_
        refine fw_pV mX4_isWithin [_, _] dX4_applyGone_34 mv_X4_isWithin lk_4_108 ⟨⟨by decide, by decide⟩, rfl, rfl, rfl, by decide, by decide⟩ ly0_168 ⟨by decide, by decide⟩ rfl rfl (Nat.le_of_ble_eq_true rfl) (sp_X4_isWithin _ _ _ _ (by rw [e172]; exact hf) (by omega)) ?_
        refine fw_bifeq 47 dX4_applyGone_37 (by decide) (fun h37 => ?_) (fun h37 => ?_)
        · skip
          refine fw_iinc (ls2 := [_, _, _]) dX4_applyGone_47 rfl ⟨by omega, by omega⟩ (by decide) rfl ?_
          refine fw_goto 16 dX4_applyGone_50 (by decide) ?_
          refine ih (t + 1) _ (by omega) (by omega) (by omega) ?_ ?_
          · first | exact hk | exact fun k h => (fw_updne h).trans (hk k h)
          · intro u u0 u1
            have hu0 := hu u u0 u1
            have hut := hu t (by omega) (by omega)
            first | rw [fw_updeq] | skip
            by_cases hut2 : u = t
            · subst hut2
              rw [if_neg (by omega)] at hut
              first
                | (rw [if_pos rfl, if_pos ⟨by omega, by omega, by rw [← e172]; exact h37⟩])
                | (rw [hut]; split <;> first | (rename_i q; rw [e172] at h37; exact absurd q.2.2 h37) | (rw [← hut]; exact h28) | rfl)
            · first | rw [if_neg hut2] | skip
              rw [hu0]
              by_cases q : 1 ≤ u ∧ u < t ∧ fw_up (N 172) g 12 u = g
              · rw [if_pos q, if_pos ⟨q.1, by omega, q.2.2⟩]
              · rw [if_neg q, if_neg (fun q2 => q ⟨q2.1, by omega, q2.2.2⟩)]
        · skip
          refine fw_aload_n dX4_applyGone_40 rfl rfl ?_
          refine fw_getr 2 170 rfl dX4_applyGone_41 ff_4_15 ly0_168 ⟨by decide, by decide⟩ rfl rfl (by decide) ?_
          refine fw_iload_n dX4_applyGone_44 rfl rfl ?_
          refine fw_iconst dX4_applyGone_45 ⟨by decide, by decide⟩ ?_
          refine fw_bastore dX4_applyGone_46 ly0_170 (by decide) ⟨by decide, by decide⟩ ⟨by omega, by omega⟩ (by omega) ?_
          refine fw_iinc (ls2 := [_, _, _]) dX4_applyGone_47 rfl ⟨by omega, by omega⟩ (by decide) rfl ?_
          refine fw_goto 16 dX4_applyGone_50 (by decide) ?_
          refine ih (t + 1) _ (by omega) (by omega) (by omega) ?_ ?_
          · first | exact hk | exact fun k h => (fw_updne h).trans (hk k h)
          · intro u u0 u1
            have hu0 := hu u u0 u1
            have hut := hu t (by omega) (by omega)
            first | rw [fw_updeq] | skip
            by_cases hut2 : u = t
            · subst hut2
              rw [if_neg (by omega)] at hut
              first
                | (rw [if_pos rfl, if_pos ⟨by omega, by omega, by rw [← e172]; exact h37⟩])
                | (rw [hut]; split <;> first | (rename_i q; rw [e172] at h37; exact absurd q.2.2 h37) | (rw [← hut]; exact h28) | rfl)
            · first | rw [if_neg hut2] | skip
              rw [hu0]
              by_cases q : 1 ≤ u ∧ u < t ∧ fw_up (N 172) g 12 u = g
              · rw [if_pos q, if_pos ⟨q.1, by omega, q.2.2⟩]
              · rw [if_neg q, if_neg (fun q2 => q ⟨q2.1, by omega, q2.2.2⟩)]

set_option maxRecDepth 20000 in
set_option maxHeartbeats 4000000 in
theorem sp_X4_applyGone (g : Int) (N : fw_F) (L : fw_G) (hg : 0 ≤ g ∧ g < 12) (hf : ∀ t, 0 ≤ t → t < 12 → 0 ≤ N 172 t ∧ N 172 t < 12) : fw_SC mX4_applyGone [fw_r 168, fw_i g] N L (fun r M2 L2 => r = none ∧ L2 = L ∧ (∀ k, ¬ k = 170 → M2 k = N k) ∧ (∀ u, 0 ≤ u → u < 12 → M2 170 u = if (¬ g = 0 ∧ ¬ N 170 g = 0) ∧ 1 ≤ u ∧ fw_up (N 172) g 12 u = g then 0 else N 170 u)) := by
  refine fw_SP_of pl_X4_applyGone (ls := [_, _]) rfl (Nat.le_of_ble_eq_true rfl) fun hA hM => ?_
  refine fw_iload_n dX4_applyGone_0 rfl rfl ?_
  refine fw_if_eq 13 dX4_applyGone_1 (by decide) (fun h1 => ?_) (fun h1 => ?_)
  · skip
    exact fw_vret dX4_applyGone_13 ⟨rfl, rfl, rfl⟩ (⟨rfl, rfl, fun _ _ => rfl, fun u _ _ => by rw [if_neg (by omega)]⟩)
  · skip
    refine fw_aload_n dX4_applyGone_4 rfl rfl ?_
    refine fw_getr 2 170 rfl dX4_applyGone_5 ff_4_15 ly0_168 ⟨by decide, by decide⟩ rfl rfl (by decide) ?_
    refine fw_iload_n dX4_applyGone_8 rfl rfl ?_
    refine fw_baload dX4_applyGone_9 ly0_170 ⟨by decide, by decide⟩ ⟨by omega, by omega⟩ ?_
    refine fw_if_ne 14 dX4_applyGone_10 (by decide) (fun h10 => ?_) (fun h10 => ?_)
    · skip
      refine fw_iconst dX4_applyGone_14 ⟨by decide, by decide⟩ ?_
      refine fw_istore_n (ls2 := [_, _, _]) dX4_applyGone_15 rfl (by decide) rfl ?_
      simp only [show ∀ (P : Prop), ((¬ g = 0 ∧ ¬ N 170 g = 0) ∧ P) = P from fun P => propext ⟨fun q => q.2, fun q => ⟨⟨h1, h10⟩, q⟩⟩]
      exact lp_X4_applyGone g N L (by omega) hf 12 1 N (by decide) (by decide) (by decide) (fun _ _ => rfl) (fun u _ _ => by rw [if_neg (by omega)])
    · skip
      exact fw_vret dX4_applyGone_13 ⟨rfl, rfl, rfl⟩ (⟨rfl, rfl, fun _ _ => rfl, fun u _ _ => by rw [if_neg (by omega)]⟩)
