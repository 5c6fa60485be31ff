set_option maxRecDepth 20000 in
set_option maxHeartbeats 4000000 in
theorem l2_X1_empty (N : fw_F) (L : fw_G) : ∀ (q : Nat) (i : Int) (M : fw_F), 16 - i < q → 0 ≤ i → i ≤ 16 → (∀ k, ¬ k = 1 → ¬ k = 4 → ¬ k = 5 → ¬ k = 6 → ¬ k = 7 → M k = N k) → (M 1 6 = 0 ∧ M 1 7 = 0) → (∀ p, 0 ≤ p → p < 4 → M 4 p = 0 ∧ M 6 p = -9 ∧ M 7 p = 20) → (∀ z, 0 ≤ z → z < i → M 5 z = 0) → fw_C mX1_empty 48 [some (fw_r 1), some (fw_i i)] [] M L (fun r M2 L2 => r = none ∧ L2 = L ∧ (∀ k, ¬ k = 1 → ¬ k = 4 → ¬ k = 5 → ¬ k = 6 → ¬ k = 7 → M2 k = N k) ∧ (M2 1 6 = 0 ∧ M2 1 7 = 0) ∧ (∀ p, 0 ≤ p → p < 4 → M2 4 p = 0 ∧ M2 6 p = -9 ∧ M2 7 p = 20) ∧ (∀ z, 0 ≤ z → z < 16 → M2 5 z = 0)) := by
  intro q
  induction q with
  | zero => intro i M h0 h1 h2; omega
  | succ q ih =>
    intro i M h0 h1 h2 h3 h4 h5 h6
    refine fw_iload_n dX1_empty_48 rfl rfl ?_
    refine fw_bipush dX1_empty_49 ⟨by decide, by decide⟩ (by decide) ?_
    refine fw_icmp_ge 67 dX1_empty_51 (by decide) (fun h51 => ?_) (fun h51 => ?_)
    · skip
      refine fw_vret dX1_empty_67 ⟨rfl, rfl, rfl⟩ ?_
      exact ⟨rfl, rfl, h3, h4, h5, fun z a b => h6 z a (by omega)⟩
    · skip
      refine fw_aload_n dX1_empty_54 rfl rfl ?_
      refine fw_getr 3 5 rfl dX1_empty_55 ff_1_24 ly0_1 ⟨by decide, by decide⟩ rfl rfl (by decide) ?_
      refine fw_iload_n dX1_empty_58 rfl rfl ?_
      refine fw_iconst dX1_empty_59 ⟨by decide, by decide⟩ ?_
      refine fw_iastore dX1_empty_60 ly0_5 (by decide) ⟨by decide, by decide⟩ ⟨by omega, by omega⟩ ?_
      refine fw_iinc (ls2 := [_, _]) dX1_empty_61 rfl ⟨by omega, by omega⟩ (by decide) rfl ?_
      refine fw_goto 48 dX1_empty_64 (by decide) ?_
      refine ih (i + 1) _ (by omega) (by omega) (by omega) (fun k a b c d e => (fw_updne c).trans (h3 k a b c d e)) ?_ (fun p a b => ?_) (fun z a b => ?_)
      · rw [fw_updne (by decide)]; exact h4
      · rw [fw_updne (by decide), fw_updne (by decide), fw_updne (by decide)]; exact h5 p a b
      · rw [fw_updeq]; split
        · rfl
        · exact h6 z a (by omega)

set_option maxRecDepth 20000 in
set_option maxHeartbeats 4000000 in
theorem lp_X1_empty (N : fw_F) (L : fw_G) : ∀ (q : Nat) (i : Int) (M : fw_F), 4 - i < q → 0 ≤ i → i ≤ 4 → (∀ k, ¬ k = 1 → ¬ k = 4 → ¬ k = 5 → ¬ k = 6 → ¬ k = 7 → M k = N k) → (M 1 6 = 0 ∧ M 1 7 = 0) → (∀ p, 0 ≤ p → p < i → M 4 p = 0 ∧ M 6 p = -9 ∧ M 7 p = 20) → fw_C mX1_empty 12 [some (fw_r 1), some (fw_i i)] [] M L (fun r M2 L2 => r = none ∧ L2 = L ∧ (∀ k, ¬ k = 1 → ¬ k = 4 → ¬ k = 5 → ¬ k = 6 → ¬ k = 7 → M2 k = N k) ∧ (M2 1 6 = 0 ∧ M2 1 7 = 0) ∧ (∀ p, 0 ≤ p → p < 4 → M2 4 p = 0 ∧ M2 6 p = -9 ∧ M2 7 p = 20) ∧ (∀ z, 0 ≤ z → z < 16 → M2 5 z = 0)) := by
  intro q
  induction q with
  | zero => intro i M h0 h1 h2; omega
  | succ q ih =>
    intro i M h0 h1 h2 h3 h4 h5
    refine fw_iload_n dX1_empty_12 rfl rfl ?_
    refine fw_iconst dX1_empty_13 ⟨by decide, by decide⟩ ?_
    refine fw_icmp_ge 46 dX1_empty_14 (by decide) (fun h14 => ?_) (fun h14 => ?_)
    · skip
      refine fw_iconst dX1_empty_46 ⟨by decide, by decide⟩ ?_
      refine fw_istore_n (ls2 := [_, _]) dX1_empty_47 rfl (by decide) rfl ?_
      exact l2_X1_empty N L 17 0 M (by decide) (by decide) (by decide) h3 h4 (fun p a b => h5 p a (by omega)) (fun z a b => by omega)
    · skip
      refine fw_aload_n dX1_empty_17 rfl rfl ?_
      refine fw_getr 2 4 rfl dX1_empty_18 ff_1_21 ly0_1 ⟨by decide, by decide⟩ rfl rfl (by decide) ?_
      refine fw_iload_n dX1_empty_21 rfl rfl ?_
      refine fw_iconst dX1_empty_22 ⟨by decide, by decide⟩ ?_
      refine fw_iastore dX1_empty_23 ly0_4 (by decide) ⟨by decide, by decide⟩ ⟨by omega, by omega⟩ ?_
      refine fw_aload_n dX1_empty_24 rfl rfl ?_
      refine fw_getr 4 6 rfl dX1_empty_25 ff_1_27 ly0_1 ⟨by decide, by decide⟩ rfl rfl (by decide) ?_
      refine fw_iload_n dX1_empty_28 rfl rfl ?_
      refine fw_bipush dX1_empty_29 ⟨by decide, by decide⟩ (by decide) ?_
      refine fw_iastore dX1_empty_31 ly0_6 (by decide) ⟨by decide, by decide⟩ ⟨by omega, by omega⟩ ?_
      refine fw_aload_n dX1_empty_32 rfl rfl ?_
      refine fw_getr 5 7 rfl dX1_empty_33 ff_1_30 ly0_1 ⟨by decide, by decide⟩ rfl rfl (by decide) ?_
      refine fw_iload_n dX1_empty_36 rfl rfl ?_
      refine fw_bipush dX1_empty_37 ⟨by decide, by decide⟩ (by decide) ?_
      refine fw_iastore dX1_empty_39 ly0_7 (by decide) ⟨by decide, by decide⟩ ⟨by omega, by omega⟩ ?_
      refine fw_iinc (ls2 := [_, _]) dX1_empty_40 rfl ⟨by omega, by omega⟩ (by decide) rfl ?_
      refine fw_goto 12 dX1_empty_43 (by decide) ?_
      refine ih (i + 1) _ (by omega) (by omega) (by omega) (fun k a b c d e => ?_) ?_ (fun p a b => ?_)
      · rw [fw_updne e, fw_updne d, fw_updne b]; exact h3 k a b c d e
      · rw [fw_updne (by decide), fw_updne (by decide), fw_updne (by decide)]; exact h4
      · simp (disch := decide) only [fw_updne, fw_updeq]
        by_cases hp : p = i
        · simp [hp]
        · simp only [if_neg hp]; exact h5 p a (by omega)

set_option maxRecDepth 20000 in
set_option maxHeartbeats 4000000 in
theorem sp_X1_empty (N : fw_F) (L : fw_G) : fw_SC mX1_empty [fw_r 1] N L (fun r M2 L2 => r = none ∧ L2 = L ∧ (∀ k, ¬ k = 1 → ¬ k = 4 → ¬ k = 5 → ¬ k = 6 → ¬ k = 7 → M2 k = N k) ∧ (M2 1 6 = 0 ∧ M2 1 7 = 0) ∧ (∀ p, 0 ≤ p → p < 4 → M2 4 p = 0 ∧ M2 6 p = -9 ∧ M2 7 p = 20) ∧ (∀ z, 0 ≤ z → z < 16 → M2 5 z = 0)) := by
  refine fw_SP_of pl_X1_empty (ls := [_]) rfl (Nat.le_of_ble_eq_true rfl) fun hA hM => ?_
  refine fw_aload_n dX1_empty_0 rfl rfl ?_
  refine fw_iconst dX1_empty_1 ⟨by decide, by decide⟩ ?_
  refine fw_puti 6 rfl dX1_empty_2 fp_1_34 ly0_1 (by decide) ⟨by decide, by decide⟩ rfl ?_
  refine fw_aload_n dX1_empty_5 rfl rfl ?_
  refine fw_iconst dX1_empty_6 ⟨by decide, by decide⟩ ?_
  refine fw_puti 7 rfl dX1_empty_7 fp_1_38 ly0_1 (by decide) ⟨by decide, by decide⟩ rfl ?_
  refine fw_iconst dX1_empty_10 ⟨by decide, by decide⟩ ?_
  refine fw_istore_n (ls2 := [_, _]) dX1_empty_11 rfl (by decide) rfl ?_
  refine lp_X1_empty N L 5 0 _ (by decide) (by decide) (by decide) (fun k a b c d e => ?_) ?_ (fun p a b => by omega)
  · rw [fw_updne a, fw_updne a]
  · exact ⟨by rw [fw_updjn (by decide), fw_updj], by rw [fw_updj]⟩

set_option maxRecDepth 20000 in
set_option maxHeartbeats 4000000 in
theorem lp_X5_beginAnew (n : Int) (N : fw_F) (L : fw_G) : ∀ (q : Nat) (i : Int) (M : fw_F), 4 - i < q → 0 ≤ i → i ≤ 4 → ((∀ k, 8 ≤ k → k < 179 → M k = N k) ∧ (∀ k, 191 ≤ k → ¬ k = 197 → ¬ k = 198 → M k = N k) ∧ (M 0 7 = n ∧ (∀ j, ¬ j = 7 → M 0 j = N 0 j)) ∧ (M 198 4 = 0) ∧ (M 1 6 = 0 ∧ M 1 7 = 0) ∧ (∀ p, 0 ≤ p → p < 4 → M 4 p = 0 ∧ M 6 p = -9 ∧ M 7 p = 20) ∧ (∀ z, 0 ≤ z → z < 16 → M 5 z = 0)) → (∀ p, 0 ≤ p → p < i → M 197 p = 20 ∧ ps_at M L (179 + 3 * p) []) → fw_C mX5_beginAnew 22 [some (fw_r 0), some (fw_i n), some (fw_i i)] [] M L (fun r M2 L2 => r = none ∧ L2 = L ∧ (∀ k, 8 ≤ k → k < 179 → M2 k = N k) ∧ (∀ k, 191 ≤ k → ¬ k = 197 → ¬ k = 198 → M2 k = N k) ∧ (M2 0 7 = n ∧ (∀ j, ¬ j = 7 → M2 0 j = N 0 j)) ∧ (M2 198 4 = 0) ∧ (M2 1 6 = 0 ∧ M2 1 7 = 0) ∧ (∀ p, 0 ≤ p → p < 4 → M2 4 p = 0 ∧ M2 6 p = -9 ∧ M2 7 p = 20) ∧ (∀ z, 0 ≤ z → z < 16 → M2 5 z = 0) ∧ (∀ p, 0 ≤ p → p < 4 → M2 197 p = 20 ∧ ps_at M2 L2 (179 + 3 * p) [])) := by
  intro q
  induction q with
  | zero => intro i M h0 h1 h2; omega
  | succ q ih =>
    intro i M h0 h1 h2 h3 h4
    refine fw_iload_n dX5_beginAnew_22 rfl rfl ?_
    refine fw_iconst dX5_beginAnew_23 ⟨by decide, by decide⟩ ?_
    refine fw_icmp_ge 50 dX5_beginAnew_24 (by decide) (fun h24 => ?_) (fun h24 => ?_)
    · skip
      refine fw_vret dX5_beginAnew_50 ⟨rfl, rfl, rfl⟩ ?_
      exact ⟨rfl, rfl, h3.1, h3.2.1, h3.2.2.1, h3.2.2.2.1, h3.2.2.2.2.1, h3.2.2.2.2.2.1, h3.2.2.2.2.2.2, fun p a b => h4 p a (by omega)⟩
    · skip
      have hkm := ps_kept h1 (show i < 4 by omega)
      refine fw_aload_n dX5_beginAnew_27 rfl rfl ?_
      refine fw_getr 2 178 rfl dX5_beginAnew_28 ff_5_27 ly0_0 ⟨by decide, by decide⟩ rfl rfl (by decide) ?_
      refine fw_iload_n dX5_beginAnew_31 rfl rfl ?_
      refine fw_aaload (179 + 3 * _) dX5_beginAnew_32 ly0_178 (Or.inr rfl) ⟨by decide, by decide⟩ ⟨by omega, by omega⟩ (rc_178 _) (by omega) ?_
      refine fw_cV mX2_empty [] dX5_beginAnew_33 mv_X2_empty lk_5_113 ⟨⟨by decide, by decide⟩, rfl, rfl, rfl, by decide, by decide⟩ hkm.1 ⟨by have := hkm.2.2.2.2.2; omega, by have := hkm.2.2.2.2.2; omega⟩ rfl rfl (Nat.le_of_ble_eq_true rfl) (sp_X2_empty (179 + 3 * i) 200 hkm M L) (fun r M1 L1 hp hM1 => ?_)
      obtain ⟨rfl, rfl, g1, g2⟩ := hp
      refine fw_aload_n dX5_beginAnew_36 rfl rfl ?_
      refine fw_getr 5 197 rfl dX5_beginAnew_37 ff_5_41 ly0_0 ⟨by decide, by decide⟩ rfl rfl (by decide) ?_
      refine fw_iload_n dX5_beginAnew_40 rfl rfl ?_
      refine fw_bipush dX5_beginAnew_41 ⟨by decide, by decide⟩ (by decide) ?_
      refine fw_iastore dX5_beginAnew_43 ly0_197 (by decide) ⟨by decide, by decide⟩ ⟨by omega, by omega⟩ ?_
      refine fw_iinc (ls2 := [_, _, _]) dX5_beginAnew_44 rfl ⟨by omega, by omega⟩ (by decide) rfl ?_
      refine fw_goto 22 dX5_beginAnew_47 (by decide) ?_
      obtain ⟨b1, b2, b3, b4, b5, b6, b7⟩ := h3
      have gg : ∀ k, ¬ k = 179 + 3 * i → ¬ k = 197 → fw_upd M1 197 i 20 k = M k := fun k a b => (fw_updne b).trans (g1 k a)
      refine ih (i + 1) _ (by omega) (by omega) (by omega) ⟨fun k a b => (gg k (by omega) (by omega)).trans (b1 k a b), fun k a b c => (gg k (by omega) b).trans (b2 k a b c), ?_, ?_, ?_, ?_, ?_⟩ (fun p a b => ?_)
      · rw [gg 0 (by omega) (by decide)]; exact b3
      · rw [gg 198 (by omega) (by decide)]; exact b4
      · rw [gg 1 (by omega) (by decide)]; exact b5
      · rw [gg 4 (by omega) (by decide), gg 6 (by omega) (by decide), gg 7 (by omega) (by decide)]; exact b6
      · rw [gg 5 (by omega) (by decide)]; exact b7
      · by_cases hp : p = i
        · subst hp
          exact ⟨fw_updj, ps_at_fr g2 (fw_updne (by omega)) (fw_updne (by omega)) rfl⟩
        · obtain ⟨c1, c2⟩ := h4 p a (by omega)
          exact ⟨by rw [fw_updjn hp, g1 197 (by omega)]; exact c1, ps_at_fr c2 (gg _ (by omega) (by omega)) (gg _ (by omega) (by omega)) rfl⟩

set_option maxRecDepth 20000 in
set_option maxHeartbeats 4000000 in
theorem sp_X5_beginAnew (n : Int) (N : fw_F) (L : fw_G) : fw_SC mX5_beginAnew [fw_r 0, fw_i n] N L (fun r M2 L2 => r = none ∧ L2 = L ∧ (∀ k, 8 ≤ k → k < 179 → M2 k = N k) ∧ (∀ k, 191 ≤ k → ¬ k = 197 → ¬ k = 198 → M2 k = N k) ∧ (M2 0 7 = n ∧ (∀ j, ¬ j = 7 → M2 0 j = N 0 j)) ∧ (M2 198 4 = 0) ∧ (M2 1 6 = 0 ∧ M2 1 7 = 0) ∧ (∀ p, 0 ≤ p → p < 4 → M2 4 p = 0 ∧ M2 6 p = -9 ∧ M2 7 p = 20) ∧ (∀ z, 0 ≤ z → z < 16 → M2 5 z = 0) ∧ (∀ p, 0 ≤ p → p < 4 → M2 197 p = 20 ∧ ps_at M2 L2 (179 + 3 * p) [])) := by
  refine fw_SP_of pl_X5_beginAnew (ls := [_, _]) rfl (Nat.le_of_ble_eq_true rfl) fun hA hM => ?_
  refine fw_aload_n dX5_beginAnew_0 rfl rfl ?_
  refine fw_iload_n dX5_beginAnew_1 rfl rfl ?_
  refine fw_puti 7 rfl dX5_beginAnew_2 fp_5_55 ly0_0 (by decide) ⟨by decide, by decide⟩ rfl ?_
  refine fw_aload_n dX5_beginAnew_5 rfl rfl ?_
  refine fw_getr 0 1 rfl dX5_beginAnew_6 ff_5_12 ly0_0 ⟨by decide, by decide⟩ rfl rfl (by decide) ?_
  refine fw_cV mX1_empty [] dX5_beginAnew_9 mv_X1_empty lk_5_308 ⟨⟨by decide, by decide⟩, rfl, rfl, rfl, by decide, by decide⟩ ly0_1 ⟨by decide, by decide⟩ rfl rfl (Nat.le_of_ble_eq_true rfl) (sp_X1_empty (fw_upd N 0 7 n) L) (fun r M1 L1 hp hM1 => ?_)
  obtain ⟨rfl, rfl, g1, g2, g3, g4⟩ := hp
  refine fw_aload_n dX5_beginAnew_12 rfl rfl ?_
  refine fw_getr 6 198 rfl dX5_beginAnew_13 ff_5_48 ly0_0 ⟨by decide, by decide⟩ rfl rfl (by decide) ?_
  refine fw_iconst dX5_beginAnew_16 ⟨by decide, by decide⟩ ?_
  refine fw_puti 4 rfl dX5_beginAnew_17 fp_5_262 ly0_198 (by decide) ⟨by decide, by decide⟩ rfl ?_
  refine fw_iconst dX5_beginAnew_20 ⟨by decide, by decide⟩ ?_
  refine fw_istore_n (ls2 := [_, _, _]) dX5_beginAnew_21 rfl (by decide) rfl ?_
  have gg : ∀ k, ¬ k = 198 → ¬ k = 0 → ¬ k = 1 → ¬ k = 4 → ¬ k = 5 → ¬ k = 6 → ¬ k = 7 → fw_upd M1 198 4 0 k = N k := fun k a b c d e f g => by rw [fw_updne a, g1 k c d e f g, fw_updne b]
  refine lp_X5_beginAnew n N _ 5 0 _ (by decide) (by decide) (by decide) ⟨fun k a b => gg k (by omega) (by omega) (by omega) (by omega) (by omega) (by omega) (by omega), fun k a b c => gg k c (by omega) (by omega) (by omega) (by omega) (by omega) (by omega), ?_, ?_, ?_, ?_, ?_⟩ (fun p a b => by omega)
  · rw [fw_updne (by decide), g1 0 (by decide) (by decide) (by decide) (by decide) (by decide)]; exact ⟨fw_updj, fun j a => fw_updjn a⟩
  · exact fw_updj
  · rw [fw_updne (by decide)]; exact g2
  · rw [fw_updne (by decide), fw_updne (by decide), fw_updne (by decide)]; exact g3
  · rw [fw_updne (by decide)]; exact g4

set_option maxRecDepth 20000 in
set_option maxHeartbeats 4000000 in
theorem sp_X5_growNow (m n : Int) (N G : fw_F) (mk : Int → Int) (L : fw_G) (hwf : ab_wf n mk G (N 3) (N 1 6)) (hG : cl_G N mk G) (hm : 0 ≤ m ∧ m < 4) (hd : 0 ≤ N 1 7 ∧ N 1 7 < 30) : fw_SC mX5_growNow [fw_r 0, fw_i m] N L (fun r M2 L2 => r = none ∧ L2 = L ∧ (∀ k, k < 169 ∨ 177 < k → M2 k = N k) ∧ cl_T M2 (ab_TT G (N 3) (fun p => N 5 ((N 1 7 * 4 + m) * 4 + p)) (N 7) (N 0 8) (N 1 6).toNat) ∧ M2 174 0 = 0 ∧ ab_lab (M2 170) (M2 172) (M2 173) (M2 175) (fw_and (N 0 8) 2) (M2 174)) := by
  refine fw_SP_of pl_X5_growNow (ls := [_, _]) rfl (Nat.le_of_ble_eq_true rfl) fun hA hM => ?_
  refine fw_aload_n dX5_growNow_0 rfl rfl ?_
  refine fw_getr 1 168 rfl dX5_growNow_1 ff_5_21 ly0_0 ⟨by decide, by decide⟩ rfl rfl (by decide) ?_
  refine fw_iload_n dX5_growNow_4 rfl rfl ?_
  refine fw_aload_n dX5_growNow_5 rfl rfl ?_
  refine fw_getr 0 1 rfl dX5_growNow_6 ff_5_12 ly0_0 ⟨by decide, by decide⟩ rfl rfl (by decide) ?_
  refine fw_geti 7 rfl dX5_growNow_9 ff_5_214 ly0_1 ⟨by decide, by decide⟩ rfl ?_
  refine fw_aload_n dX5_growNow_12 rfl rfl ?_
  refine fw_geti 8 rfl dX5_growNow_13 ff_5_59 ly0_0 ⟨by decide, by decide⟩ rfl ?_
  refine fw_cV mX4_grow [_, _, _] dX5_growNow_16 mv_X4_grow lk_5_168 ⟨⟨by decide, by decide⟩, rfl, rfl, rfl, by decide, by decide⟩ ly0_168 ⟨by decide, by decide⟩ rfl rfl (Nat.le_of_ble_eq_true rfl) (sp_X4_grow m (N 1 7) (N 0 8) n N G mk L hwf hG hm hd) (fun r M1 L1 hp hM1 => ?_)
  obtain ⟨rfl, g⟩ := hp
  refine fw_vret dX5_growNow_19 ⟨rfl, rfl, rfl⟩ ?_
  exact ⟨rfl, g⟩

theorem fw_upl_2 (L : fw_G) (k j : Int) (v w : Int64) : fw_upl (fw_upl L k j v) k j w = fw_upl L k j w := by
  funext k' j'
  unfold fw_upl
  split <;> rfl

theorem cl_bc_rng {M : fw_F} {t : Int} (hw : cl_rw M t) : 0 ≤ cl_bc M t ∧ cl_bc M t ≤ 32 := by
  obtain ⟨w1, w2, w3⟩ := hw
  have hr := ab_sm_rng (f := fun r => M (8 + 2 * M 177 (t * 4 + r)) 10) (a := 0) (b := 8) (M 176 t).toNat (fun j a b => (w3 j a (by omega)).2)
  unfold cl_bc
  omega

set_option maxRecDepth 20000 in
set_option maxHeartbeats 4000000 in
theorem sp_X5_bulkAsThing (t : Int) (M : fw_F) (L : fw_G) (h0 : 0 ≤ t ∧ t < 12) (hl : 0 ≤ M 174 t ∧ M 174 t ≤ 100) : fw_SC mX5_bulkAsThing [fw_r 0, fw_i t] M L (fun r M2 L2 => r = some (fw_i (4 + M 174 t)) ∧ M2 = M ∧ L2 = fw_upl L 0 9 (L 0 9 + 1)) := by
  refine fw_SP_of pl_X5_bulkAsThing (ls := [_, _]) rfl (Nat.le_of_ble_eq_true rfl) fun hA hM => ?_
  refine fw_aload_n dX5_bulkAsThing_0 rfl rfl ?_
  refine fw_dup dX5_bulkAsThing_1 rfl ?_
  refine fw_getl 9 rfl dX5_bulkAsThing_2 ff_5_305 ly0_0 ⟨by decide, by decide⟩ rfl ?_
  refine fw_lconst (v := 1) dX5_bulkAsThing_5 (by decide) ?_
  refine fw_ladd dX5_bulkAsThing_6 ?_
  refine fw_putl 9 rfl dX5_bulkAsThing_7 fp_5_305 ly0_0 (by decide) ⟨by decide, by decide⟩ rfl ?_
  refine fw_iconst dX5_bulkAsThing_10 ⟨by decide, by decide⟩ ?_
  refine fw_aload_n dX5_bulkAsThing_11 rfl rfl ?_
  refine fw_getr 1 168 rfl dX5_bulkAsThing_12 ff_5_21 ly0_0 ⟨by decide, by decide⟩ rfl rfl (by decide) ?_
  refine fw_getr 6 174 rfl dX5_bulkAsThing_15 ff_5_179 ly0_168 ⟨by decide, by decide⟩ rfl rfl (by decide) ?_
  refine fw_iload_n dX5_bulkAsThing_18 rfl rfl ?_
  refine fw_iaload dX5_bulkAsThing_19 ly0_174 ⟨by decide, by decide⟩ ⟨by omega, by omega⟩ ?_
  refine fw_iadd dX5_bulkAsThing_20 ⟨by omega, by omega⟩ ?_
  refine fw_iret dX5_bulkAsThing_21 ⟨rfl, rfl, rfl⟩ ?_
  refine ⟨rfl, rfl, ?_⟩
  try (simp only [fw_upl_2, fw_uplj, Int64.add_assoc]; rfl)
  try rfl

set_option maxRecDepth 20000 in
set_option maxHeartbeats 4000000 in
theorem sp_X5_bulkAsFile (t : Int) (M : fw_F) (L : fw_G) (h0 : 0 ≤ t ∧ t < 12) (hl : 0 ≤ M 174 t ∧ M 174 t ≤ 100) (hw : cl_rw M t) : fw_SC mX5_bulkAsFile [fw_r 0, fw_i t] M L (fun r M2 L2 => r = some (fw_i (4 + M 174 t + cl_bc M t)) ∧ M2 = M ∧ L2 = fw_upl L 0 9 (L 0 9 + 11)) := by
  refine fw_SP_of pl_X5_bulkAsFile (ls := [_, _]) rfl (Nat.le_of_ble_eq_true rfl) fun hA hM => ?_
  have hr := cl_bc_rng hw
  refine fw_aload_n dX5_bulkAsFile_0 rfl rfl ?_
  refine fw_dup dX5_bulkAsFile_1 rfl ?_
  refine fw_getl 9 rfl dX5_bulkAsFile_2 ff_5_305 ly0_0 ⟨by decide, by decide⟩ rfl ?_
  refine fw_ldc2 dX5_bulkAsFile_5 cl_5_309 ?_
  refine fw_ladd dX5_bulkAsFile_8 ?_
  refine fw_putl 9 rfl dX5_bulkAsFile_9 fp_5_305 ly0_0 (by decide) ⟨by decide, by decide⟩ rfl ?_
  refine fw_aload_n dX5_bulkAsFile_12 rfl rfl ?_
  refine fw_iload_n dX5_bulkAsFile_13 rfl rfl ?_
  refine fw_cV mX5_bulkAsThing [_] dX5_bulkAsFile_14 mv_X5_bulkAsThing lk_5_203 ⟨⟨by decide, by decide⟩, rfl, rfl, rfl, by decide, by decide⟩ ly0_0 ⟨by decide, by decide⟩ rfl rfl (Nat.le_of_ble_eq_true rfl) (sp_X5_bulkAsThing t M _ h0 hl) (fun r M1 L1 hp hM1 => ?_)
  obtain ⟨rfl, rfl, rfl⟩ := hp
  refine fw_aload_n dX5_bulkAsFile_17 rfl rfl ?_
  refine fw_getr 1 168 rfl dX5_bulkAsFile_18 ff_5_21 ly0_0 ⟨by decide, by decide⟩ rfl rfl (by decide) ?_
  refine fw_iload_n dX5_bulkAsFile_21 rfl rfl ?_
  refine fw_pV mX4_byteCount [_] dX5_bulkAsFile_22 mv_X4_byteCount lk_5_311 ⟨⟨by decide, by decide⟩, rfl, rfl, rfl, by decide, by decide⟩ ly0_168 ⟨by decide, by decide⟩ rfl rfl (Nat.le_of_ble_eq_true rfl) (sp_X4_byteCount t _ _ hw) ?_
  refine fw_iadd dX5_bulkAsFile_25 ⟨by omega, by omega⟩ ?_
  refine fw_iret dX5_bulkAsFile_26 ⟨rfl, rfl, rfl⟩ ?_
  refine ⟨rfl, rfl, ?_⟩
  try (simp only [fw_upl_2, fw_uplj, Int64.add_assoc]; rfl)
  try rfl

set_option maxRecDepth 20000 in
set_option maxHeartbeats 4000000 in
theorem sp_X5_bulkAsFolder (t : Int) (M : fw_F) (L : fw_G) (h0 : 0 ≤ t ∧ t < 12) (hl : 0 ≤ M 174 t ∧ M 174 t ≤ 100) : fw_SC mX5_bulkAsFolder [fw_r 0, fw_i t] M L (fun r M2 L2 => r = some (fw_i (4 + M 174 t + 3 * ab_sm (fun i => if ¬ M 170 (i + 1) = 0 ∧ M 172 (i + 1) = t then 1 else 0) 11)) ∧ M2 = M ∧ L2 = fw_upl L 0 9 (L 0 9 + 101)) := by
  refine fw_SP_of pl_X5_bulkAsFolder (ls := [_, _]) rfl (Nat.le_of_ble_eq_true rfl) fun hA hM => ?_
  have hr := ab_sm_rng (f := fun i => if ¬ M 170 (i + 1) = 0 ∧ M 172 (i + 1) = t then 1 else 0) (a := 0) (b := 1) 11 (fun i _ _ => by split <;> omega)
  refine fw_aload_n dX5_bulkAsFolder_0 rfl rfl ?_
  refine fw_dup dX5_bulkAsFolder_1 rfl ?_
  refine fw_getl 9 rfl dX5_bulkAsFolder_2 ff_5_305 ly0_0 ⟨by decide, by decide⟩ rfl ?_
  refine fw_ldc2 dX5_bulkAsFolder_5 cl_5_313 ?_
  refine fw_ladd dX5_bulkAsFolder_8 ?_
  refine fw_putl 9 rfl dX5_bulkAsFolder_9 fp_5_305 ly0_0 (by decide) ⟨by decide, by decide⟩ rfl ?_
  refine fw_aload_n dX5_bulkAsFolder_12 rfl rfl ?_
  refine fw_iload_n dX5_bulkAsFolder_13 rfl rfl ?_
  refine fw_cV mX5_bulkAsThing [_] dX5_bulkAsFolder_14 mv_X5_bulkAsThing lk_5_203 ⟨⟨by decide, by decide⟩, rfl, rfl, rfl, by decide, by decide⟩ ly0_0 ⟨by decide, by decide⟩ rfl rfl (Nat.le_of_ble_eq_true rfl) (sp_X5_bulkAsThing t M _ h0 hl) (fun r M1 L1 hp hM1 => ?_)
  obtain ⟨rfl, rfl, rfl⟩ := hp
  refine fw_iconst dX5_bulkAsFolder_17 ⟨by decide, by decide⟩ ?_
  refine fw_aload_n dX5_bulkAsFolder_18 rfl rfl ?_
  refine fw_getr 1 168 rfl dX5_bulkAsFolder_19 ff_5_21 ly0_0 ⟨by decide, by decide⟩ rfl rfl (by decide) ?_
  refine fw_iload_n dX5_bulkAsFolder_22 rfl rfl ?_
  refine fw_pV mX4_childCount [_] dX5_bulkAsFolder_23 mv_X4_childCount lk_5_315 ⟨⟨by decide, by decide⟩, rfl, rfl, rfl, by decide, by decide⟩ ly0_168 ⟨by decide, by decide⟩ rfl rfl (Nat.le_of_ble_eq_true rfl) (sp_X4_childCount t _ _) ?_
  refine fw_imul dX5_bulkAsFolder_26 ⟨by omega, by omega⟩ ?_
  refine fw_iadd dX5_bulkAsFolder_27 ⟨by omega, by omega⟩ ?_
  refine fw_iret dX5_bulkAsFolder_28 ⟨rfl, rfl, rfl⟩ ?_
  refine ⟨rfl, rfl, ?_⟩
  try (simp only [fw_upl_2, fw_uplj, Int64.add_assoc]; rfl)
  try rfl

set_option maxRecDepth 20000 in
set_option maxHeartbeats 4000000 in
theorem sp_X5_bulkAsLink (t : Int) (M : fw_F) (L : fw_G) (h0 : 0 ≤ t ∧ t < 12) (hl : 0 ≤ M 174 t ∧ M 174 t ≤ 100) : fw_SC mX5_bulkAsLink [fw_r 0, fw_i t] M L (fun r M2 L2 => r = some (fw_i ((4 + M 174 t) / 2)) ∧ M2 = M ∧ L2 = fw_upl L 0 9 (L 0 9 + 1001)) := by
  refine fw_SP_of pl_X5_bulkAsLink (ls := [_, _]) rfl (Nat.le_of_ble_eq_true rfl) fun hA hM => ?_
  refine fw_aload_n dX5_bulkAsLink_0 rfl rfl ?_
  refine fw_dup dX5_bulkAsLink_1 rfl ?_
  refine fw_getl 9 rfl dX5_bulkAsLink_2 ff_5_305 ly0_0 ⟨by decide, by decide⟩ rfl ?_
  refine fw_ldc2 dX5_bulkAsLink_5 cl_5_318 ?_
  refine fw_ladd dX5_bulkAsLink_8 ?_
  refine fw_putl 9 rfl dX5_bulkAsLink_9 fp_5_305 ly0_0 (by decide) ⟨by decide, by decide⟩ rfl ?_
  refine fw_aload_n dX5_bulkAsLink_12 rfl rfl ?_
  refine fw_iload_n dX5_bulkAsLink_13 rfl rfl ?_
  refine fw_cV mX5_bulkAsThing [_] dX5_bulkAsLink_14 mv_X5_bulkAsThing lk_5_203 ⟨⟨by decide, by decide⟩, rfl, rfl, rfl, by decide, by decide⟩ ly0_0 ⟨by decide, by decide⟩ rfl rfl (Nat.le_of_ble_eq_true rfl) (sp_X5_bulkAsThing t M _ h0 hl) (fun r M1 L1 hp hM1 => ?_)
  obtain ⟨rfl, rfl, rfl⟩ := hp
  refine fw_iconst dX5_bulkAsLink_17 ⟨by decide, by decide⟩ ?_
  refine fw_idiv dX5_bulkAsLink_18 (by omega) (by omega) ?_
  refine fw_iret dX5_bulkAsLink_19 ⟨rfl, rfl, rfl⟩ ?_
  refine ⟨rfl, rfl, ?_⟩
  try (simp only [fw_upl_2, fw_uplj, Int64.add_assoc]; rfl)
  try rfl

set_option maxRecDepth 20000 in
set_option maxHeartbeats 4000000 in
theorem sp_X5_bulkAsHeld (t : Int) (M : fw_F) (L : fw_G) (h0 : 0 ≤ t ∧ t < 12) (hl : 0 ≤ M 174 t ∧ M 174 t ≤ 100) (hw : cl_rw M t) : fw_SC mX5_bulkAsHeld [fw_r 0, fw_i t] M L (fun r M2 L2 => r = some (fw_i (4 + M 174 t + cl_bc M t - cl_bc M t / 2)) ∧ M2 = M ∧ L2 = fw_upl L 0 9 (L 0 9 + 10011)) := by
  refine fw_SP_of pl_X5_bulkAsHeld (ls := [_, _]) rfl (Nat.le_of_ble_eq_true rfl) fun hA hM => ?_
  have hr := cl_bc_rng hw
  refine fw_aload_n dX5_bulkAsHeld_0 rfl rfl ?_
  refine fw_dup dX5_bulkAsHeld_1 rfl ?_
  refine fw_getl 9 rfl dX5_bulkAsHeld_2 ff_5_305 ly0_0 ⟨by decide, by decide⟩ rfl ?_
  refine fw_ldc2 dX5_bulkAsHeld_5 cl_5_320 ?_
  refine fw_ladd dX5_bulkAsHeld_8 ?_
  refine fw_putl 9 rfl dX5_bulkAsHeld_9 fp_5_305 ly0_0 (by decide) ⟨by decide, by decide⟩ rfl ?_
  refine fw_aload_n dX5_bulkAsHeld_12 rfl rfl ?_
  refine fw_iload_n dX5_bulkAsHeld_13 rfl rfl ?_
  refine fw_cV mX5_bulkAsFile [_] dX5_bulkAsHeld_14 mv_X5_bulkAsFile lk_5_188 ⟨⟨by decide, by decide⟩, rfl, rfl, rfl, by decide, by decide⟩ ly0_0 ⟨by decide, by decide⟩ rfl rfl (Nat.le_of_ble_eq_true rfl) (sp_X5_bulkAsFile t M _ h0 hl hw) (fun r M1 L1 hp hM1 => ?_)
  obtain ⟨rfl, rfl, rfl⟩ := hp
  refine fw_aload_n dX5_bulkAsHeld_17 rfl rfl ?_
  refine fw_getr 1 168 rfl dX5_bulkAsHeld_18 ff_5_21 ly0_0 ⟨by decide, by decide⟩ rfl rfl (by decide) ?_
  refine fw_iload_n dX5_bulkAsHeld_21 rfl rfl ?_
  refine fw_pV mX4_byteCount [_] dX5_bulkAsHeld_22 mv_X4_byteCount lk_5_311 ⟨⟨by decide, by decide⟩, rfl, rfl, rfl, by decide, by decide⟩ ly0_168 ⟨by decide, by decide⟩ rfl rfl (Nat.le_of_ble_eq_true rfl) (sp_X4_byteCount t _ _ hw) ?_
  refine fw_iconst dX5_bulkAsHeld_25 ⟨by decide, by decide⟩ ?_
  refine fw_idiv dX5_bulkAsHeld_26 (by omega) (by omega) ?_
  refine fw_isub dX5_bulkAsHeld_27 ⟨by omega, by omega⟩ ?_
  refine fw_iret dX5_bulkAsHeld_28 ⟨rfl, rfl, rfl⟩ ?_
  refine ⟨rfl, rfl, ?_⟩
  try (simp only [fw_upl_2, fw_uplj, Int64.add_assoc]; rfl)
  try rfl

set_option maxRecDepth 20000 in
set_option maxHeartbeats 4000000 in
theorem sp_X5_bulkAsClash (t : Int) (M : fw_F) (L : fw_G) (h0 : 0 ≤ t ∧ t < 12) (hl : 0 ≤ M 174 t ∧ M 174 t ≤ 100) (hw : cl_rw M t) : fw_SC mX5_bulkAsClash [fw_r 0, fw_i t] M L (fun r M2 L2 => r = some (fw_i (4 + M 174 t + cl_bc M t + 5 * M 176 t)) ∧ M2 = M ∧ L2 = fw_upl L 0 9 (L 0 9 + 100011)) := by
  refine fw_SP_of pl_X5_bulkAsClash (ls := [_, _]) rfl (Nat.le_of_ble_eq_true rfl) fun hA hM => ?_
  have hr := cl_bc_rng hw
  have hr2 := hw.2.1
  refine fw_aload_n dX5_bulkAsClash_0 rfl rfl ?_
  refine fw_dup dX5_bulkAsClash_1 rfl ?_
  refine fw_getl 9 rfl dX5_bulkAsClash_2 ff_5_305 ly0_0 ⟨by decide, by decide⟩ rfl ?_
  refine fw_ldc2 dX5_bulkAsClash_5 cl_5_322 ?_
  refine fw_ladd dX5_bulkAsClash_8 ?_
  refine fw_putl 9 rfl dX5_bulkAsClash_9 fp_5_305 ly0_0 (by decide) ⟨by decide, by decide⟩ rfl ?_
  refine fw_aload_n dX5_bulkAsClash_12 rfl rfl ?_
  refine fw_iload_n dX5_bulkAsClash_13 rfl rfl ?_
  refine fw_cV mX5_bulkAsFile [_] dX5_bulkAsClash_14 mv_X5_bulkAsFile lk_5_188 ⟨⟨by decide, by decide⟩, rfl, rfl, rfl, by decide, by decide⟩ ly0_0 ⟨by decide, by decide⟩ rfl rfl (Nat.le_of_ble_eq_true rfl) (sp_X5_bulkAsFile t M _ h0 hl hw) (fun r M1 L1 hp hM1 => ?_)
  obtain ⟨rfl, rfl, rfl⟩ := hp
  refine fw_iconst dX5_bulkAsClash_17 ⟨by decide, by decide⟩ ?_
  refine fw_aload_n dX5_bulkAsClash_18 rfl rfl ?_
  refine fw_getr 1 168 rfl dX5_bulkAsClash_19 ff_5_21 ly0_0 ⟨by decide, by decide⟩ rfl rfl (by decide) ?_
  refine fw_getr 8 176 rfl dX5_bulkAsClash_22 ff_5_172 ly0_168 ⟨by decide, by decide⟩ rfl rfl (by decide) ?_
  refine fw_iload_n dX5_bulkAsClash_25 rfl rfl ?_
  refine fw_iaload dX5_bulkAsClash_26 ly0_176 ⟨by decide, by decide⟩ ⟨by omega, by omega⟩ ?_
  refine fw_imul dX5_bulkAsClash_27 ⟨by omega, by omega⟩ ?_
  refine fw_iadd dX5_bulkAsClash_28 ⟨by omega, by omega⟩ ?_
  refine fw_iret dX5_bulkAsClash_29 ⟨rfl, rfl, rfl⟩ ?_
  refine ⟨rfl, rfl, ?_⟩
  try (simp only [fw_upl_2, fw_uplj, Int64.add_assoc]; rfl)
  try rfl
