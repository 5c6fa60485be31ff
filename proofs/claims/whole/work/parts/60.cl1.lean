set_option maxRecDepth 20000 in
set_option maxHeartbeats 4000000 in
theorem lp_X1_findLeftOut_43 (T : Int) (N G : fw_F) (L : fw_G) (hT : N 1 6 = T) (hT0 : 0 ≤ T ∧ T ≤ 80) (hO : ∀ j, 0 ≤ j → j < T → (0 ≤ N 3 j ∧ N 3 j < 80) ∧ N (8 + 2 * N 3 j) 1 = N 3 j / 20 ∧ N (8 + 2 * N 3 j) 2 = N 3 j % 20 ∧ ∀ p, 0 ≤ p → p < 4 → N (8 + 2 * N 3 j + 1) p = G (N 3 j) (6 + p)) (hap : ab_apok (N 6)) : ∀ (q : Nat) (i : Int) (M : fw_F), T - i < q → 0 ≤ i → i ≤ T → (∀ k, ¬ k = 7 → M k = N k) → (∀ p, 0 ≤ p → p < 4 → M 7 p = ab_LF G (N 3) (N 6) i.toNat p) → fw_C mX1_findLeftOut 43 [some (fw_r 1), some (fw_i i)] [] M L (fun r M2 L2 => r = none ∧ L2 = L ∧ (∀ k, ¬ k = 7 → M2 k = N k) ∧ ∀ p, 0 ≤ p → p < 4 → M2 7 p = ab_LF G (N 3) (N 6) T.toNat p) := by
  intro q
  induction q with
  | zero => intro i M h0 h1 h2; omega
  | succ q ih =>
    intro i M h0 h1 h2 hk h7
    have e1 := hk 1 (by decide)
    have e3 := hk 3 (by decide)
    refine fw_iload_n dX1_findLeftOut_43 rfl rfl ?_
    refine fw_aload_n dX1_findLeftOut_44 rfl rfl ?_
    refine fw_geti 6 rfl dX1_findLeftOut_45 ff_1_34 ly0_1 ⟨by decide, by decide⟩ rfl ?_
    rw [e1, hT]
    refine fw_icmp_ge 96 dX1_findLeftOut_48 (by decide) (fun h48 => ?_) (fun h48 => ?_)
    · skip
      refine fw_vret dX1_findLeftOut_96 ⟨rfl, rfl, rfl⟩ ?_
      rw [show i.toNat = T.toNat by omega] at h7
      exact ⟨rfl, rfl, hk, h7⟩
    · skip
      obtain ⟨ho1, ho2, ho3, ho4⟩ := hO i h1 (by omega)
      have ec := hk (8 + 2 * N 3 i) (by omega)
      have ed := hk (8 + 2 * N 3 i + 1) (by omega)
      have g0 : N (8 + 2 * N 3 i + 1) 0 = G (N 3 i) 6 := ho4 0 (by decide) (by decide)
      have g1 : N (8 + 2 * N 3 i + 1) 1 = G (N 3 i) 7 := ho4 1 (by decide) (by decide)
      have g2 : N (8 + 2 * N 3 i + 1) 2 = G (N 3 i) 8 := ho4 2 (by decide) (by decide)
      have g3 : N (8 + 2 * N 3 i + 1) 3 = G (N 3 i) 9 := ho4 3 (by decide) (by decide)
      have hs : ∀ p, ab_LF G (N 3) (N 6) (i + 1).toNat p = if ab_sd G (ab_LF G (N 3) (N 6) i.toNat) (N 3 i) ∧ p = N 3 i / 20 then min (ab_LF G (N 3) (N 6) i.toNat p) (N 3 i % 20) else ab_LF G (N 3) (N 6) i.toNat p := by
        intro p
        rw [show (i + 1).toNat = i.toNat + 1 by omega, ab_LF_s, show ((i.toNat : Nat) : Int) = i by omega]
      refine fw_aload_n dX1_findLeftOut_51 rfl rfl ?_
      refine fw_iload_n dX1_findLeftOut_52 rfl rfl ?_
      refine fw_pV mX1_inOrder [_] dX1_findLeftOut_53 mv_X1_inOrder lk_1_86 ⟨⟨by decide, by decide⟩, rfl, rfl, rfl, by decide, by decide⟩ ly0_1 ⟨by decide, by decide⟩ rfl rfl (Nat.le_of_ble_eq_true rfl) (sp_X1_inOrder _ _ _ (by omega) (by rw [e3]; omega)) ?_
      rw [e3]
      refine fw_astore_n (ls2 := [_, _, _]) dX1_findLeftOut_56 rfl (by decide) rfl ?_
      refine fw_aload_n dX1_findLeftOut_57 rfl rfl ?_
      refine fw_aload_n dX1_findLeftOut_58 rfl rfl ?_
      refine fw_pV mX1_standsOnLeftOut [_] dX1_findLeftOut_59 mv_X1_standsOnLeftOut lk_1_108 ⟨⟨by decide, by decide⟩, rfl, rfl, rfl, by decide, by decide⟩ ly0_1 ⟨by decide, by decide⟩ rfl rfl (Nat.le_of_ble_eq_true rfl) (sp_X1_standsOnLeftOut _ _ _ (by omega)) ?_
      refine fw_bifeq 90 dX1_findLeftOut_62 (by decide) (fun h62 => ?_) (fun h62 => ?_)
      · skip
        refine fw_iinc (ls2 := [_, _, _]) dX1_findLeftOut_90 rfl ⟨by omega, by omega⟩ (by decide) rfl ?_
        refine fw_goto 43 dX1_findLeftOut_93 (by decide) ?_
        refine fw_take 2 ?_
        rw [ed, g0, g1, g2, g3, h7 0 (by decide) (by decide), h7 1 (by decide) (by decide), h7 2 (by decide) (by decide), h7 3 (by decide) (by decide)] at h62
        refine ih (i + 1) _ (by omega) (by omega) (by omega) hk (fun p a b => ?_)
        rw [hs, if_neg (fun z => h62 z.1)]; exact h7 p a b
      · skip
        refine fw_aload_n dX1_findLeftOut_65 rfl rfl ?_
        refine fw_getr 5 7 rfl dX1_findLeftOut_66 ff_1_30 ly0_1 ⟨by decide, by decide⟩ rfl rfl (by decide) ?_
        refine fw_aload_n dX1_findLeftOut_69 rfl rfl ?_
        refine fw_geti 1 rfl dX1_findLeftOut_70 ff_1_48 (ly_ch (by omega) (by omega) (by omega)) ⟨by omega, by omega⟩ rfl ?_
        rw [ec, ho2]
        refine fw_aload_n dX1_findLeftOut_73 rfl rfl ?_
        refine fw_getr 5 7 rfl dX1_findLeftOut_74 ff_1_30 ly0_1 ⟨by decide, by decide⟩ rfl rfl (by decide) ?_
        refine fw_aload_n dX1_findLeftOut_77 rfl rfl ?_
        refine fw_geti 1 rfl dX1_findLeftOut_78 ff_1_48 (ly_ch (by omega) (by omega) (by omega)) ⟨by omega, by omega⟩ rfl ?_
        rw [ec, ho2]
        refine fw_iaload dX1_findLeftOut_81 ly0_7 ⟨by decide, by decide⟩ ⟨by omega, by omega⟩ ?_
        refine fw_aload_n dX1_findLeftOut_82 rfl rfl ?_
        refine fw_geti 2 rfl dX1_findLeftOut_83 ff_1_45 (ly_ch (by omega) (by omega) (by omega)) ⟨by omega, by omega⟩ rfl ?_
        rw [ec, ho3]
        refine fw_min dX1_findLeftOut_86 lk_1_111 lw_min ⟨by decide, Nat.le_of_ble_eq_true rfl, by decide, by decide⟩ ?_
        refine fw_iastore dX1_findLeftOut_89 ly0_7 (by decide) ⟨by decide, by decide⟩ ⟨by omega, by omega⟩ ?_
        refine fw_iinc (ls2 := [_, _, _]) dX1_findLeftOut_90 rfl ⟨by omega, by omega⟩ (by decide) rfl ?_
        refine fw_goto 43 dX1_findLeftOut_93 (by decide) ?_
        refine fw_take 2 ?_
        rw [ed, g0, g1, g2, g3, h7 0 (by decide) (by decide), h7 1 (by decide) (by decide), h7 2 (by decide) (by decide), h7 3 (by decide) (by decide)] at h62
        refine ih (i + 1) _ (by omega) (by omega) (by omega) (fun k a => (fw_updne a).trans (hk k a)) (fun p a b => ?_)
        rw [fw_updeq, hs]
        by_cases hp : p = N 3 i / 20
        · rw [if_pos hp, if_pos ⟨h62, hp⟩, hp, h7 _ (by omega) (by omega)]
        · rw [if_neg hp, if_neg (fun z => hp z.2)]; exact h7 p a b

set_option maxRecDepth 20000 in
set_option maxHeartbeats 4000000 in
theorem lp_X1_findLeftOut_2 (T : Int) (N G : fw_F) (L : fw_G) (hT : N 1 6 = T) (hT0 : 0 ≤ T ∧ T ≤ 80) (hO : ∀ j, 0 ≤ j → j < T → (0 ≤ N 3 j ∧ N 3 j < 80) ∧ N (8 + 2 * N 3 j) 1 = N 3 j / 20 ∧ N (8 + 2 * N 3 j) 2 = N 3 j % 20 ∧ ∀ p, 0 ≤ p → p < 4 → N (8 + 2 * N 3 j + 1) p = G (N 3 j) (6 + p)) (hap : ab_apok (N 6)) : ∀ (q : Nat) (m : Int) (M : fw_F), 4 - m < q → 0 ≤ m → m ≤ 4 → (∀ k, ¬ k = 7 → M k = N k) → (∀ p, 0 ≤ p → p < m → M 7 p = ab_LF G (N 3) (N 6) 0 p) → fw_C mX1_findLeftOut 2 [some (fw_r 1), some (fw_i m)] [] M L (fun r M2 L2 => r = none ∧ L2 = L ∧ (∀ k, ¬ k = 7 → M2 k = N k) ∧ ∀ p, 0 ≤ p → p < 4 → M2 7 p = ab_LF G (N 3) (N 6) T.toNat p) := by
  intro q
  induction q with
  | zero => intro m M h0 h1 h2; omega
  | succ q ih =>
    intro m M h0 h1 h2 hk h7
    refine fw_iload_n dX1_findLeftOut_2 rfl rfl ?_
    refine fw_iconst dX1_findLeftOut_3 ⟨by decide, by decide⟩ ?_
    refine fw_icmp_ge 41 dX1_findLeftOut_4 (by decide) (fun h4 => ?_) (fun h4 => ?_)
    · skip
      refine fw_iconst dX1_findLeftOut_41 ⟨by decide, by decide⟩ ?_
      refine fw_istore_n (ls2 := [_, _]) dX1_findLeftOut_42 rfl (by decide) rfl ?_
      exact lp_X1_findLeftOut_43 T N G L hT hT0 hO hap 81 0 _ (by omega) (by decide) (by omega) hk (fun p a b => h7 p a (by omega))
    · skip
      have e6 := hk 6 (by decide)
      refine fw_aload_n dX1_findLeftOut_7 rfl rfl ?_
      refine fw_getr 5 7 rfl dX1_findLeftOut_8 ff_1_30 ly0_1 ⟨by decide, by decide⟩ rfl rfl (by decide) ?_
      refine fw_iload_n dX1_findLeftOut_11 rfl rfl ?_
      refine fw_aload_n dX1_findLeftOut_12 rfl rfl ?_
      refine fw_getr 4 6 rfl dX1_findLeftOut_13 ff_1_27 ly0_1 ⟨by decide, by decide⟩ rfl rfl (by decide) ?_
      refine fw_iload_n dX1_findLeftOut_16 rfl rfl ?_
      refine fw_iaload dX1_findLeftOut_17 ly0_6 ⟨by decide, by decide⟩ ⟨by omega, by omega⟩ ?_
      refine fw_bipush dX1_findLeftOut_18 ⟨by decide, by decide⟩ (by decide) ?_
      refine fw_icmp_ne 28 dX1_findLeftOut_20 (by decide) (fun h20 => ?_) (fun h20 => ?_)
      · skip
        refine fw_aload_n dX1_findLeftOut_28 rfl rfl ?_
        refine fw_getr 4 6 rfl dX1_findLeftOut_29 ff_1_27 ly0_1 ⟨by decide, by decide⟩ rfl rfl (by decide) ?_
        refine fw_iload_n dX1_findLeftOut_32 rfl rfl ?_
        refine fw_iaload dX1_findLeftOut_33 ly0_6 ⟨by decide, by decide⟩ ⟨by omega, by omega⟩ ?_
        refine fw_iastore dX1_findLeftOut_34 ly0_7 (by decide) ⟨by decide, by decide⟩ ⟨by omega, by omega⟩ ?_
        refine fw_iinc (ls2 := [_, _]) dX1_findLeftOut_35 rfl ⟨by omega, by omega⟩ (by decide) rfl ?_
        refine fw_goto 2 dX1_findLeftOut_38 (by decide) ?_
        refine ih (m + 1) _ (by omega) (by omega) (by omega) (fun k a => (fw_updne a).trans (hk k a)) (fun p a b => ?_)
        rw [fw_updeq]
        rw [e6] at h20
        by_cases hp : p = m
        · rw [if_pos hp, hp]; show _ = if N 6 m = -9 then 20 else N 6 m; rw [if_neg h20, e6]
        · rw [if_neg hp]; exact h7 p a (by omega)
      · skip
        refine fw_bipush dX1_findLeftOut_23 ⟨by decide, by decide⟩ (by decide) ?_
        refine fw_goto 34 dX1_findLeftOut_25 (by decide) ?_
        refine fw_iastore dX1_findLeftOut_34 ly0_7 (by decide) ⟨by decide, by decide⟩ ⟨by omega, by omega⟩ ?_
        refine fw_iinc (ls2 := [_, _]) dX1_findLeftOut_35 rfl ⟨by omega, by omega⟩ (by decide) rfl ?_
        refine fw_goto 2 dX1_findLeftOut_38 (by decide) ?_
        refine ih (m + 1) _ (by omega) (by omega) (by omega) (fun k a => (fw_updne a).trans (hk k a)) (fun p a b => ?_)
        rw [fw_updeq]
        rw [e6] at h20
        by_cases hp : p = m
        · rw [if_pos hp, hp]; show _ = if N 6 m = -9 then 20 else N 6 m; rw [if_pos h20]
        · rw [if_neg hp]; exact h7 p a (by omega)

set_option maxRecDepth 20000 in
set_option maxHeartbeats 4000000 in
theorem sp_X1_findLeftOut (T : Int) (N G : fw_F) (L : fw_G) (hT : N 1 6 = T) (hT0 : 0 ≤ T ∧ T ≤ 80) (hO : ∀ j, 0 ≤ j → j < T → (0 ≤ N 3 j ∧ N 3 j < 80) ∧ N (8 + 2 * N 3 j) 1 = N 3 j / 20 ∧ N (8 + 2 * N 3 j) 2 = N 3 j % 20 ∧ ∀ p, 0 ≤ p → p < 4 → N (8 + 2 * N 3 j + 1) p = G (N 3 j) (6 + p)) (hap : ab_apok (N 6)) : fw_SC mX1_findLeftOut [fw_r 1] N L (fun r M2 L2 => r = none ∧ L2 = L ∧ (∀ k, ¬ k = 7 → M2 k = N k) ∧ ∀ p, 0 ≤ p → p < 4 → M2 7 p = ab_LF G (N 3) (N 6) T.toNat p) := by
  refine fw_SP_of pl_X1_findLeftOut (ls := [_]) rfl (Nat.le_of_ble_eq_true rfl) fun hA hM => ?_
  refine fw_iconst dX1_findLeftOut_0 ⟨by decide, by decide⟩ ?_
  refine fw_istore_n (ls2 := [_, _]) dX1_findLeftOut_1 rfl (by decide) rfl ?_
  exact lp_X1_findLeftOut_2 T N G L hT hT0 hO hap 5 0 N (by decide) (by decide) (by decide) (fun _ _ => rfl) (fun p a b => by omega)

set_option maxRecDepth 20000 in
set_option maxHeartbeats 4000000 in
theorem sp_X1_setApart (m v T : Int) (N G : fw_F) (L : fw_G) (hm : 0 ≤ m ∧ m < 4) (hT : N 1 6 = T) (hT0 : 0 ≤ T ∧ T ≤ 80) (hO : ∀ j, 0 ≤ j → j < T → (0 ≤ N 3 j ∧ N 3 j < 80) ∧ N (8 + 2 * N 3 j) 1 = N 3 j / 20 ∧ N (8 + 2 * N 3 j) 2 = N 3 j % 20 ∧ ∀ p, 0 ≤ p → p < 4 → N (8 + 2 * N 3 j + 1) p = G (N 3 j) (6 + p)) (hap : ab_apok (fun p => if p = m then v else N 6 p)) : fw_SC mX1_setApart [fw_r 1, fw_i m, fw_i v] N L (fun r M2 L2 => r = some (fw_i (N 6 m)) ∧ L2 = L ∧ (∀ k, ¬ k = 6 → ¬ k = 7 → M2 k = N k) ∧ M2 6 = (fun p => if p = m then v else N 6 p) ∧ ∀ p, 0 ≤ p → p < 4 → M2 7 p = ab_LF G (N 3) (fun p => if p = m then v else N 6 p) T.toNat p) := by
  refine fw_SP_of pl_X1_setApart (ls := [_, _, _]) rfl (Nat.le_of_ble_eq_true rfl) fun hA hM => ?_
  refine fw_aload_n dX1_setApart_0 rfl rfl ?_
  refine fw_getr 4 6 rfl dX1_setApart_1 ff_1_27 ly0_1 ⟨by decide, by decide⟩ rfl rfl (by decide) ?_
  refine fw_iload_n dX1_setApart_4 rfl rfl ?_
  refine fw_iaload dX1_setApart_5 ly0_6 ⟨by decide, by decide⟩ ⟨by omega, by omega⟩ ?_
  refine fw_istore_n (ls2 := [_, _, _, _]) dX1_setApart_6 rfl (by decide) rfl ?_
  refine fw_aload_n dX1_setApart_7 rfl rfl ?_
  refine fw_getr 4 6 rfl dX1_setApart_8 ff_1_27 ly0_1 ⟨by decide, by decide⟩ rfl rfl (by decide) ?_
  refine fw_iload_n dX1_setApart_11 rfl rfl ?_
  refine fw_iload_n dX1_setApart_12 rfl rfl ?_
  refine fw_iastore dX1_setApart_13 ly0_6 (by decide) ⟨by decide, by decide⟩ ⟨by omega, by omega⟩ ?_
  have e6 : fw_upd N 6 m v 6 = (fun p => if p = m then v else N 6 p) := funext fun p => fw_updeq p
  refine fw_aload_n dX1_setApart_14 rfl rfl ?_
  refine fw_cV mX1_findLeftOut [] dX1_setApart_15 mv_X1_findLeftOut lk_1_83 ⟨⟨by decide, by decide⟩, rfl, rfl, rfl, by decide, by decide⟩ ly0_1 ⟨by decide, by decide⟩ rfl rfl (Nat.le_of_ble_eq_true rfl) (sp_X1_findLeftOut T (fw_upd N 6 m v) G L (by rw [fw_updne (by decide)]; exact hT) hT0 (fun j a b => by rw [fw_updne (show ¬ (3 : Int) = 6 by decide)]; have h9 := hO j a b; have h8 := h9.1; rw [fw_updne (by omega), fw_updne (by omega)]; exact h9) (by rw [e6]; exact hap)) (fun r M1 L1 hp hM1 => ?_)
  obtain ⟨rfl, rfl, g1, g2⟩ := hp
  rw [e6, fw_updne (show ¬ (3 : Int) = 6 by decide)] at g2
  refine fw_iload_n dX1_setApart_18 rfl rfl ?_
  refine fw_iret dX1_setApart_19 ⟨rfl, rfl, rfl⟩ ?_
  exact ⟨rfl, rfl, fun k a b => (g1 k b).trans (fw_updne a), (g1 6 (by decide)).trans e6, g2⟩

set_option maxRecDepth 20000 in
set_option maxHeartbeats 4000000 in
theorem sp_X1_leftOutInAll (M : fw_F) (L : fw_G) (h : ∀ p, 0 ≤ p → p < 4 → (0 ≤ M 4 p ∧ M 4 p ≤ 20) ∧ 0 ≤ M 7 p ∧ M 7 p ≤ 20) : fw_SC mX1_leftOutInAll [fw_r 1] M L (fw_pure (some (fw_i (max 0 (M 4 0 - M 7 0) + max 0 (M 4 1 - M 7 1) + max 0 (M 4 2 - M 7 2) + max 0 (M 4 3 - M 7 3)))) M L) := by
  refine fw_SP_of pl_X1_leftOutInAll (ls := [_]) rfl (Nat.le_of_ble_eq_true rfl) fun hA hM => ?_
  have a0 := h 0 (by decide) (by decide)
  have a1 := h 1 (by decide) (by decide)
  have a2 := h 2 (by decide) (by decide)
  have a3 := h 3 (by decide) (by decide)
  refine fw_iconst dX1_leftOutInAll_0 ⟨by decide, by decide⟩ ?_
  refine fw_istore_n (ls2 := [_, _]) dX1_leftOutInAll_1 rfl (by decide) rfl ?_
  refine fw_iconst dX1_leftOutInAll_2 ⟨by decide, by decide⟩ ?_
  refine fw_istore_n (ls2 := [_, _, _]) dX1_leftOutInAll_3 rfl (by decide) rfl ?_
  refine fw_iload_n dX1_leftOutInAll_4 rfl rfl ?_
  refine fw_iconst dX1_leftOutInAll_5 ⟨by decide, by decide⟩ ?_
  refine fw_icmp_ge 35 dX1_leftOutInAll_6 (by decide) (fun h6 => ?_) (fun h6 => ?_)
  · skip
    exfalso; omega
  · skip
    refine fw_iload_n dX1_leftOutInAll_9 rfl rfl ?_
    refine fw_iconst dX1_leftOutInAll_10 ⟨by decide, by decide⟩ ?_
    refine fw_aload_n dX1_leftOutInAll_11 rfl rfl ?_
    refine fw_getr 2 4 rfl dX1_leftOutInAll_12 ff_1_21 ly0_1 ⟨by decide, by decide⟩ rfl rfl (by decide) ?_
    refine fw_iload_n dX1_leftOutInAll_15 rfl rfl ?_
    refine fw_iaload dX1_leftOutInAll_16 ly0_4 ⟨by decide, by decide⟩ ⟨by omega, by omega⟩ ?_
    refine fw_aload_n dX1_leftOutInAll_17 rfl rfl ?_
    refine fw_getr 5 7 rfl dX1_leftOutInAll_18 ff_1_30 ly0_1 ⟨by decide, by decide⟩ rfl rfl (by decide) ?_
    refine fw_iload_n dX1_leftOutInAll_21 rfl rfl ?_
    refine fw_iaload dX1_leftOutInAll_22 ly0_7 ⟨by decide, by decide⟩ ⟨by omega, by omega⟩ ?_
    refine fw_isub dX1_leftOutInAll_23 ⟨by omega, by omega⟩ ?_
    refine fw_max dX1_leftOutInAll_24 lk_1_73 lw_max ⟨by decide, Nat.le_of_ble_eq_true rfl, by decide, by decide⟩ ?_
    refine fw_iadd dX1_leftOutInAll_27 ⟨by omega, by omega⟩ ?_
    refine fw_istore_n (ls2 := [_, _, _]) dX1_leftOutInAll_28 rfl (by decide) rfl ?_
    refine fw_iincv (ls2 := [_, _, _]) (1) dX1_leftOutInAll_29 rfl (by decide) ⟨by decide, by decide⟩ (by decide) rfl ?_
    refine fw_goto 4 dX1_leftOutInAll_32 (by decide) ?_
    refine fw_iload_n dX1_leftOutInAll_4 rfl rfl ?_
    refine fw_iconst dX1_leftOutInAll_5 ⟨by decide, by decide⟩ ?_
    refine fw_icmp_ge 35 dX1_leftOutInAll_6 (by decide) (fun h6 => ?_) (fun h6 => ?_)
    · skip
      exfalso; omega
    · skip
      refine fw_iload_n dX1_leftOutInAll_9 rfl rfl ?_
      refine fw_iconst dX1_leftOutInAll_10 ⟨by decide, by decide⟩ ?_
      refine fw_aload_n dX1_leftOutInAll_11 rfl rfl ?_
      refine fw_getr 2 4 rfl dX1_leftOutInAll_12 ff_1_21 ly0_1 ⟨by decide, by decide⟩ rfl rfl (by decide) ?_
      refine fw_iload_n dX1_leftOutInAll_15 rfl rfl ?_
      refine fw_iaload dX1_leftOutInAll_16 ly0_4 ⟨by decide, by decide⟩ ⟨by omega, by omega⟩ ?_
      refine fw_aload_n dX1_leftOutInAll_17 rfl rfl ?_
      refine fw_getr 5 7 rfl dX1_leftOutInAll_18 ff_1_30 ly0_1 ⟨by decide, by decide⟩ rfl rfl (by decide) ?_
      refine fw_iload_n dX1_leftOutInAll_21 rfl rfl ?_
      refine fw_iaload dX1_leftOutInAll_22 ly0_7 ⟨by decide, by decide⟩ ⟨by omega, by omega⟩ ?_
      refine fw_isub dX1_leftOutInAll_23 ⟨by omega, by omega⟩ ?_
      refine fw_max dX1_leftOutInAll_24 lk_1_73 lw_max ⟨by decide, Nat.le_of_ble_eq_true rfl, by decide, by decide⟩ ?_
      refine fw_iadd dX1_leftOutInAll_27 ⟨by omega, by omega⟩ ?_
      refine fw_istore_n (ls2 := [_, _, _]) dX1_leftOutInAll_28 rfl (by decide) rfl ?_
      refine fw_iincv (ls2 := [_, _, _]) (2) dX1_leftOutInAll_29 rfl (by decide) ⟨by decide, by decide⟩ (by decide) rfl ?_
      refine fw_goto 4 dX1_leftOutInAll_32 (by decide) ?_
      refine fw_iload_n dX1_leftOutInAll_4 rfl rfl ?_
      refine fw_iconst dX1_leftOutInAll_5 ⟨by decide, by decide⟩ ?_
      refine fw_icmp_ge 35 dX1_leftOutInAll_6 (by decide) (fun h6 => ?_) (fun h6 => ?_)
      · skip
        exfalso; omega
      · skip
        refine fw_iload_n dX1_leftOutInAll_9 rfl rfl ?_
        refine fw_iconst dX1_leftOutInAll_10 ⟨by decide, by decide⟩ ?_
        refine fw_aload_n dX1_leftOutInAll_11 rfl rfl ?_
        refine fw_getr 2 4 rfl dX1_leftOutInAll_12 ff_1_21 ly0_1 ⟨by decide, by decide⟩ rfl rfl (by decide) ?_
        refine fw_iload_n dX1_leftOutInAll_15 rfl rfl ?_
        refine fw_iaload dX1_leftOutInAll_16 ly0_4 ⟨by decide, by decide⟩ ⟨by omega, by omega⟩ ?_
        refine fw_aload_n dX1_leftOutInAll_17 rfl rfl ?_
        refine fw_getr 5 7 rfl dX1_leftOutInAll_18 ff_1_30 ly0_1 ⟨by decide, by decide⟩ rfl rfl (by decide) ?_
        refine fw_iload_n dX1_leftOutInAll_21 rfl rfl ?_
        refine fw_iaload dX1_leftOutInAll_22 ly0_7 ⟨by decide, by decide⟩ ⟨by omega, by omega⟩ ?_
        refine fw_isub dX1_leftOutInAll_23 ⟨by omega, by omega⟩ ?_
        refine fw_max dX1_leftOutInAll_24 lk_1_73 lw_max ⟨by decide, Nat.le_of_ble_eq_true rfl, by decide, by decide⟩ ?_
        refine fw_iadd dX1_leftOutInAll_27 ⟨by omega, by omega⟩ ?_
        refine fw_istore_n (ls2 := [_, _, _]) dX1_leftOutInAll_28 rfl (by decide) rfl ?_
        refine fw_iincv (ls2 := [_, _, _]) (3) dX1_leftOutInAll_29 rfl (by decide) ⟨by decide, by decide⟩ (by decide) rfl ?_
        refine fw_goto 4 dX1_leftOutInAll_32 (by decide) ?_
        refine fw_iload_n dX1_leftOutInAll_4 rfl rfl ?_
        refine fw_iconst dX1_leftOutInAll_5 ⟨by decide, by decide⟩ ?_
        refine fw_icmp_ge 35 dX1_leftOutInAll_6 (by decide) (fun h6 => ?_) (fun h6 => ?_)
        · skip
          exfalso; omega
        · skip
          refine fw_iload_n dX1_leftOutInAll_9 rfl rfl ?_
          refine fw_iconst dX1_leftOutInAll_10 ⟨by decide, by decide⟩ ?_
          refine fw_aload_n dX1_leftOutInAll_11 rfl rfl ?_
          refine fw_getr 2 4 rfl dX1_leftOutInAll_12 ff_1_21 ly0_1 ⟨by decide, by decide⟩ rfl rfl (by decide) ?_
          refine fw_iload_n dX1_leftOutInAll_15 rfl rfl ?_
          refine fw_iaload dX1_leftOutInAll_16 ly0_4 ⟨by decide, by decide⟩ ⟨by omega, by omega⟩ ?_
          refine fw_aload_n dX1_leftOutInAll_17 rfl rfl ?_
          refine fw_getr 5 7 rfl dX1_leftOutInAll_18 ff_1_30 ly0_1 ⟨by decide, by decide⟩ rfl rfl (by decide) ?_
          refine fw_iload_n dX1_leftOutInAll_21 rfl rfl ?_
          refine fw_iaload dX1_leftOutInAll_22 ly0_7 ⟨by decide, by decide⟩ ⟨by omega, by omega⟩ ?_
          refine fw_isub dX1_leftOutInAll_23 ⟨by omega, by omega⟩ ?_
          refine fw_max dX1_leftOutInAll_24 lk_1_73 lw_max ⟨by decide, Nat.le_of_ble_eq_true rfl, by decide, by decide⟩ ?_
          refine fw_iadd dX1_leftOutInAll_27 ⟨by omega, by omega⟩ ?_
          refine fw_istore_n (ls2 := [_, _, _]) dX1_leftOutInAll_28 rfl (by decide) rfl ?_
          refine fw_iincv (ls2 := [_, _, _]) (4) dX1_leftOutInAll_29 rfl (by decide) ⟨by decide, by decide⟩ (by decide) rfl ?_
          refine fw_goto 4 dX1_leftOutInAll_32 (by decide) ?_
          refine fw_iload_n dX1_leftOutInAll_4 rfl rfl ?_
          refine fw_iconst dX1_leftOutInAll_5 ⟨by decide, by decide⟩ ?_
          refine fw_icmp_ge 35 dX1_leftOutInAll_6 (by decide) (fun h6 => ?_) (fun h6 => ?_)
          · skip
            refine fw_iload_n dX1_leftOutInAll_35 rfl rfl ?_
            exact fw_iret dX1_leftOutInAll_36 ⟨rfl, rfl, rfl⟩ (⟨by rw [Int.zero_add], rfl, rfl⟩)
          · skip
            exfalso; omega

def ab_day (f : Int → Int) (d : Int) : Nat → Int
  | 0 => 0
  | i + 1 => ab_day f d i + (if f i = d then 1 else 0)
theorem ab_day_rng (f : Int → Int) (d : Int) : ∀ i : Nat, 0 ≤ ab_day f d i ∧ ab_day f d i ≤ i := by
  intro i
  induction i with
  | zero => exact ⟨Int.le_refl _, Int.le_refl _⟩
  | succ i ih => simp only [ab_day]; split <;> omega

set_option maxRecDepth 20000 in
set_option maxHeartbeats 4000000 in
theorem lp_X1_madeOnDay (m d : Int) (M : fw_F) (L : fw_G) (hm : 0 ≤ m ∧ m < 4) (hn : 0 ≤ M 4 m ∧ M 4 m ≤ 20) : ∀ (q : Nat) (c i : Int), M 4 m - i < q → 0 ≤ i → i ≤ M 4 m → c = ab_day (fun i => M (8 + 2 * (m * 20 + i)) 6) d i.toNat → fw_C mX1_madeOnDay 5 [some (fw_r 1), some (fw_i m), some (fw_i d), some (fw_i c), some (fw_i i)] [] M L (fw_pure (some (fw_i (ab_day (fun i => M (8 + 2 * (m * 20 + i)) 6) d (M 4 m).toNat))) M L) := by
  intro q
  induction q with
  | zero => intro c i h0 h1 h2; omega
  | succ q ih =>
    intro c i h0 h1 h2 h3
    have hr := ab_day_rng (fun i => M (8 + 2 * (m * 20 + i)) 6) d i.toNat
    refine fw_iload dX1_madeOnDay_5 rfl ?_
    refine fw_aload_n dX1_madeOnDay_7 rfl rfl ?_
    refine fw_getr 2 4 rfl dX1_madeOnDay_8 ff_1_21 ly0_1 ⟨by decide, by decide⟩ rfl rfl (by decide) ?_
    refine fw_iload_n dX1_madeOnDay_11 rfl rfl ?_
    refine fw_iaload dX1_madeOnDay_12 ly0_4 ⟨by decide, by decide⟩ ⟨by omega, by omega⟩ ?_
    refine fw_icmp_ge 39 dX1_madeOnDay_13 (by decide) (fun h13 => ?_) (fun h13 => ?_)
    · skip
      refine fw_iload_n dX1_madeOnDay_39 rfl rfl ?_
      exact fw_iret dX1_madeOnDay_40 ⟨rfl, rfl, rfl⟩ (⟨by rw [h3, show i.toNat = (M 4 m).toNat by omega], rfl, rfl⟩)
    · skip
      have hs : ab_day (fun i => M (8 + 2 * (m * 20 + i)) 6) d (i + 1).toNat = ab_day (fun i => M (8 + 2 * (m * 20 + i)) 6) d i.toNat + (if M (8 + 2 * (m * 20 + i)) 6 = d then 1 else 0) := by
        rw [show (i + 1).toNat = i.toNat + 1 by omega]
        show _ + (if M (8 + 2 * (m * 20 + ((i.toNat : Nat) : Int))) 6 = d then 1 else 0) = _
        rw [show ((i.toNat : Nat) : Int) = i by omega]
      refine fw_aload_n dX1_madeOnDay_16 rfl rfl ?_
      refine fw_iload_n dX1_madeOnDay_17 rfl rfl ?_
      refine fw_iload dX1_madeOnDay_18 rfl ?_
      refine fw_pV mX1_changeOf [_, _] dX1_madeOnDay_20 mv_X1_changeOf lk_1_54 ⟨⟨by decide, by decide⟩, rfl, rfl, rfl, by decide, by decide⟩ ly0_1 ⟨by decide, by decide⟩ rfl rfl (Nat.le_of_ble_eq_true rfl) (sp_X1_changeOf _ _ _ _ (by omega) (by omega)) ?_
      refine fw_geti 6 rfl dX1_madeOnDay_23 ff_1_64 (ly_ch (by omega) (by omega) (by omega)) ⟨by omega, by omega⟩ rfl ?_
      refine fw_iload_n dX1_madeOnDay_26 rfl rfl ?_
      refine fw_icmp_ne 33 dX1_madeOnDay_27 (by decide) (fun h27 => ?_) (fun h27 => ?_)
      · skip
        refine fw_iinc (ls2 := [_, _, _, _, _]) dX1_madeOnDay_33 rfl ⟨by omega, by omega⟩ (by decide) rfl ?_
        refine fw_goto 5 dX1_madeOnDay_36 (by decide) ?_
        exact ih _ (i + 1) (by omega) (by omega) (by omega) (by rw [hs, if_neg h27, Int.add_zero, h3])
      · skip
        refine fw_iinc (ls2 := [_, _, _, _, _]) dX1_madeOnDay_30 rfl ⟨by omega, by omega⟩ (by decide) rfl ?_
        refine fw_iinc (ls2 := [_, _, _, _, _]) dX1_madeOnDay_33 rfl ⟨by omega, by omega⟩ (by decide) rfl ?_
        refine fw_goto 5 dX1_madeOnDay_36 (by decide) ?_
        exact ih _ (i + 1) (by omega) (by omega) (by omega) (by rw [hs, if_pos h27, h3])

set_option maxRecDepth 20000 in
set_option maxHeartbeats 4000000 in
theorem sp_X1_madeOnDay (m d : Int) (M : fw_F) (L : fw_G) (hm : 0 ≤ m ∧ m < 4) (hn : 0 ≤ M 4 m ∧ M 4 m ≤ 20) : fw_SC mX1_madeOnDay [fw_r 1, fw_i m, fw_i d] M L (fw_pure (some (fw_i (ab_day (fun i => M (8 + 2 * (m * 20 + i)) 6) d (M 4 m).toNat))) M L) := by
  refine fw_SP_of pl_X1_madeOnDay (ls := [_, _, _]) rfl (Nat.le_of_ble_eq_true rfl) fun hA hM => ?_
  refine fw_iconst dX1_madeOnDay_0 ⟨by decide, by decide⟩ ?_
  refine fw_istore_n (ls2 := [_, _, _, _]) dX1_madeOnDay_1 rfl (by decide) rfl ?_
  refine fw_iconst dX1_madeOnDay_2 ⟨by decide, by decide⟩ ?_
  refine fw_istore (ls2 := [_, _, _, _, _]) dX1_madeOnDay_3 (by decide) rfl ?_
  exact lp_X1_madeOnDay m d M L hm hn 21 0 0 (by omega) (by decide) (by omega) rfl
