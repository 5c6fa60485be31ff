set_option maxRecDepth 20000 in
set_option maxHeartbeats 4000000 in
theorem sp_X6_isFile (t : Int) (M : fw_F) (L : fw_G) (h0 : 0 ≤ t ∧ t < 12) : fw_SD mX6_isFile [fw_r 0, fw_i t] M L (fw_pure (some (fw_i (fw_b (¬ M 11 t = 0 ∧ M 12 t = 1)))) M L) := by
  refine fw_SP_of pl_X6_isFile (ls := [_, _]) rfl (Nat.le_of_ble_eq_true rfl) fun hA hM => ?_
  refine fw_aload_n dX6_isFile_0 rfl rfl ?_
  refine fw_getr 15 11 rfl dX6_isFile_1 ff_6_46 ly1_0 ⟨by decide, by decide⟩ rfl rfl (by decide) ?_
  refine fw_iload_n dX6_isFile_4 rfl rfl ?_
  refine fw_baload dX6_isFile_5 ly1_11 ⟨by decide, by decide⟩ ⟨by omega, by omega⟩ ?_
  refine fw_if_eq 23 dX6_isFile_6 (by decide) (fun h6 => ?_) (fun h6 => ?_)
  · skip
    refine fw_iconst dX6_isFile_23 ⟨by decide, by decide⟩ ?_
    exact fw_zret dX6_isFile_24 ⟨rfl, rfl, rfl⟩ (by first | decide | exact fw_b_01 _ | omega) (⟨by first | exact fw_zT (by omega) | exact fw_zF (by omega), rfl, rfl⟩)
  · skip
    refine fw_aload_n dX6_isFile_9 rfl rfl ?_
    refine fw_getr 16 12 rfl dX6_isFile_10 ff_6_49 ly1_0 ⟨by decide, by decide⟩ rfl rfl (by decide) ?_
    refine fw_iload_n dX6_isFile_13 rfl rfl ?_
    refine fw_iaload dX6_isFile_14 ly1_12 ⟨by decide, by decide⟩ ⟨by omega, by omega⟩ ?_
    refine fw_iconst dX6_isFile_15 ⟨by decide, by decide⟩ ?_
    refine fw_icmp_ne 23 dX6_isFile_16 (by decide) (fun h16 => ?_) (fun h16 => ?_)
    · skip
      refine fw_iconst dX6_isFile_23 ⟨by decide, by decide⟩ ?_
      exact fw_zret dX6_isFile_24 ⟨rfl, rfl, rfl⟩ (by first | decide | exact fw_b_01 _ | omega) (⟨by first | exact fw_zT (by omega) | exact fw_zF (by omega), rfl, rfl⟩)
    · skip
      refine fw_iconst dX6_isFile_19 ⟨by decide, by decide⟩ ?_
      refine fw_goto 24 dX6_isFile_20 (by decide) ?_
      exact fw_zret dX6_isFile_24 ⟨rfl, rfl, rfl⟩ (by first | decide | exact fw_b_01 _ | omega) (⟨by first | exact fw_zT (by omega) | exact fw_zF (by omega), rfl, rfl⟩)

set_option maxRecDepth 20000 in
set_option maxHeartbeats 4000000 in
theorem sp_X6_isFolder (t : Int) (M : fw_F) (L : fw_G) (h0 : 0 ≤ t ∧ t < 12) : fw_SD mX6_isFolder [fw_r 0, fw_i t] M L (fw_pure (some (fw_i (fw_b (¬ M 11 t = 0 ∧ M 12 t = 2)))) M L) := by
  refine fw_SP_of pl_X6_isFolder (ls := [_, _]) rfl (Nat.le_of_ble_eq_true rfl) fun hA hM => ?_
  refine fw_aload_n dX6_isFolder_0 rfl rfl ?_
  refine fw_getr 15 11 rfl dX6_isFolder_1 ff_6_46 ly1_0 ⟨by decide, by decide⟩ rfl rfl (by decide) ?_
  refine fw_iload_n dX6_isFolder_4 rfl rfl ?_
  refine fw_baload dX6_isFolder_5 ly1_11 ⟨by decide, by decide⟩ ⟨by omega, by omega⟩ ?_
  refine fw_if_eq 23 dX6_isFolder_6 (by decide) (fun h6 => ?_) (fun h6 => ?_)
  · skip
    refine fw_iconst dX6_isFolder_23 ⟨by decide, by decide⟩ ?_
    exact fw_zret dX6_isFolder_24 ⟨rfl, rfl, rfl⟩ (by first | decide | exact fw_b_01 _ | omega) (⟨by first | exact fw_zT (by omega) | exact fw_zF (by omega), rfl, rfl⟩)
  · skip
    refine fw_aload_n dX6_isFolder_9 rfl rfl ?_
    refine fw_getr 16 12 rfl dX6_isFolder_10 ff_6_49 ly1_0 ⟨by decide, by decide⟩ rfl rfl (by decide) ?_
    refine fw_iload_n dX6_isFolder_13 rfl rfl ?_
    refine fw_iaload dX6_isFolder_14 ly1_12 ⟨by decide, by decide⟩ ⟨by omega, by omega⟩ ?_
    refine fw_iconst dX6_isFolder_15 ⟨by decide, by decide⟩ ?_
    refine fw_icmp_ne 23 dX6_isFolder_16 (by decide) (fun h16 => ?_) (fun h16 => ?_)
    · skip
      refine fw_iconst dX6_isFolder_23 ⟨by decide, by decide⟩ ?_
      exact fw_zret dX6_isFolder_24 ⟨rfl, rfl, rfl⟩ (by first | decide | exact fw_b_01 _ | omega) (⟨by first | exact fw_zT (by omega) | exact fw_zF (by omega), rfl, rfl⟩)
    · skip
      refine fw_iconst dX6_isFolder_19 ⟨by decide, by decide⟩ ?_
      refine fw_goto 24 dX6_isFolder_20 (by decide) ?_
      exact fw_zret dX6_isFolder_24 ⟨rfl, rfl, rfl⟩ (by first | decide | exact fw_b_01 _ | omega) (⟨by first | exact fw_zT (by omega) | exact fw_zF (by omega), rfl, rfl⟩)

theorem ab_d0 {F : Int → Int} (h : ab_ac F) : ∃ d : Int → Nat, ∀ t, 1 ≤ t → t < 12 → d (F t) < d t := h.2.2

set_option maxRecDepth 20000 in
set_option maxHeartbeats 4000000 in
theorem lp_X6_liesIn (t o : Int) (M : fw_F) (L : fw_G) (hac : ab_ac (M 13)) (d : Int → Nat) (hd : ∀ t, 1 ≤ t → t < 12 → d (M 13 t) < d t) : ∀ (n : Nat) (a : Int), d a < n → 0 ≤ a → a < 12 → fw_D mX6_liesIn 2 [some (fw_r 0), some (fw_i t), some (fw_i o), some (fw_i a)] [] M L (fw_pure (some (fw_i (fw_b (fw_up (M 13) o 12 a = o)))) M L) := by
  intro n
  induction n with
  | zero => intro a h0; omega
  | succ n ih =>
    intro a h0 h1 h2
    refine fw_iload_n dX6_liesIn_2 rfl rfl ?_
    refine fw_iload_n dX6_liesIn_3 rfl rfl ?_
    refine fw_icmp_eq 21 dX6_liesIn_4 (by decide) (fun h4 => ?_) (fun h4 => ?_)
    · skip
      refine fw_iload_n dX6_liesIn_21 rfl rfl ?_
      refine fw_iload_n dX6_liesIn_22 rfl rfl ?_
      refine fw_icmp_ne 30 dX6_liesIn_23 (by decide) (fun h23 => ?_) (fun h23 => ?_)
      · skip
        refine fw_iconst dX6_liesIn_30 ⟨by decide, by decide⟩ ?_
        refine fw_zret dX6_liesIn_31 ⟨rfl, rfl, rfl⟩ (by first | decide | exact fw_b_01 _ | omega) ?_
        refine ⟨?_, rfl, rfl⟩
        rw [ab_up_here o (by omega)]
        first | exact fw_zT (by omega) | exact fw_zF (by omega) | (exfalso; omega)
      · skip
        refine fw_iconst dX6_liesIn_26 ⟨by decide, by decide⟩ ?_
        refine fw_goto 31 dX6_liesIn_27 (by decide) ?_
        refine fw_zret dX6_liesIn_31 ⟨rfl, rfl, rfl⟩ (by first | decide | exact fw_b_01 _ | omega) ?_
        refine ⟨?_, rfl, rfl⟩
        rw [ab_up_here o (by omega)]
        first | exact fw_zT (by omega) | exact fw_zF (by omega) | (exfalso; omega)
    · skip
      refine fw_iload_n dX6_liesIn_7 rfl rfl ?_
      refine fw_if_eq 21 dX6_liesIn_8 (by decide) (fun h8 => ?_) (fun h8 => ?_)
      · skip
        refine fw_iload_n dX6_liesIn_21 rfl rfl ?_
        refine fw_iload_n dX6_liesIn_22 rfl rfl ?_
        refine fw_icmp_ne 30 dX6_liesIn_23 (by decide) (fun h23 => ?_) (fun h23 => ?_)
        · skip
          refine fw_iconst dX6_liesIn_30 ⟨by decide, by decide⟩ ?_
          refine fw_zret dX6_liesIn_31 ⟨rfl, rfl, rfl⟩ (by first | decide | exact fw_b_01 _ | omega) ?_
          refine ⟨?_, rfl, rfl⟩
          rw [ab_up_here o (by omega)]
          first | exact fw_zT (by omega) | exact fw_zF (by omega) | (exfalso; omega)
        · skip
          refine fw_iconst dX6_liesIn_26 ⟨by decide, by decide⟩ ?_
          refine fw_goto 31 dX6_liesIn_27 (by decide) ?_
          refine fw_zret dX6_liesIn_31 ⟨rfl, rfl, rfl⟩ (by first | decide | exact fw_b_01 _ | omega) ?_
          refine ⟨?_, rfl, rfl⟩
          rw [ab_up_here o (by omega)]
          first | exact fw_zT (by omega) | exact fw_zF (by omega) | (exfalso; omega)
      · skip
        refine fw_aload_n dX6_liesIn_11 rfl rfl ?_
        refine fw_getr 17 13 rfl dX6_liesIn_12 ff_6_52 ly1_0 ⟨by decide, by decide⟩ rfl rfl (by decide) ?_
        refine fw_iload_n dX6_liesIn_15 rfl rfl ?_
        refine fw_iaload dX6_liesIn_16 ly1_13 ⟨by decide, by decide⟩ ⟨by omega, by omega⟩ ?_
        refine fw_istore_n (ls2 := [_, _, _, _]) dX6_liesIn_17 rfl (by decide) rfl ?_
        refine fw_goto 2 dX6_liesIn_18 (by decide) ?_
        rw [ab_up_step hac o h1 h2 (by omega)]
        have := hd a (by omega) h2
        exact ih _ (by omega) (hac.1 a h1 h2).1 (hac.1 a h1 h2).2

set_option maxRecDepth 20000 in
set_option maxHeartbeats 4000000 in
theorem sp_X6_liesIn (t o : Int) (M : fw_F) (L : fw_G) (hac : ab_ac (M 13)) (h0 : 0 ≤ t ∧ t < 12) : fw_SD mX6_liesIn [fw_r 0, fw_i t, fw_i o] M L (fw_pure (some (fw_i (fw_b (fw_up (M 13) o 12 t = o)))) M L) := by
  refine fw_SP_of pl_X6_liesIn (ls := [_, _, _]) rfl (Nat.le_of_ble_eq_true rfl) fun hA hM => ?_
  refine fw_iload_n dX6_liesIn_0 rfl rfl ?_
  refine fw_istore_n (ls2 := [_, _, _, _]) dX6_liesIn_1 rfl (by decide) rfl ?_
  obtain ⟨d, hd⟩ := ab_d0 hac
  exact lp_X6_liesIn t o M L hac d hd (d t + 1) t (by omega) h0.1 h0.2

set_option maxRecDepth 20000 in
set_option maxHeartbeats 4000000 in
theorem sp_X6_puts (t into nm od : Int) (M : fw_F) (L : fw_G) (h0 : 0 ≤ t ∧ t < 12) : fw_SD mX6_puts [fw_r 0, fw_i t, fw_i into, fw_i nm, fw_i od] M L (fun r M2 L2 => r = none ∧ M2 = md_put M t into nm od ∧ L2 = L) := by
  refine fw_SP_of pl_X6_puts (ls := [_, _, _, _, _]) rfl (Nat.le_of_ble_eq_true rfl) fun hA hM => ?_
  refine fw_aload_n dX6_puts_0 rfl rfl ?_
  refine fw_getr 17 13 rfl dX6_puts_1 ff_6_52 ly1_0 ⟨by decide, by decide⟩ rfl rfl (by decide) ?_
  refine fw_iload_n dX6_puts_4 rfl rfl ?_
  refine fw_iload_n dX6_puts_5 rfl rfl ?_
  refine fw_iastore dX6_puts_6 ly1_13 (by decide) ⟨by decide, by decide⟩ ⟨by omega, by omega⟩ ?_
  refine fw_aload_n dX6_puts_7 rfl rfl ?_
  refine fw_getr 18 14 rfl dX6_puts_8 ff_6_55 ly1_0 ⟨by decide, by decide⟩ rfl rfl (by decide) ?_
  refine fw_iload_n dX6_puts_11 rfl rfl ?_
  refine fw_iload_n dX6_puts_12 rfl rfl ?_
  refine fw_iastore dX6_puts_13 ly1_14 (by decide) ⟨by decide, by decide⟩ ⟨by omega, by omega⟩ ?_
  refine fw_aload_n dX6_puts_14 rfl rfl ?_
  refine fw_getr 19 15 rfl dX6_puts_15 ff_6_58 ly1_0 ⟨by decide, by decide⟩ rfl rfl (by decide) ?_
  refine fw_iload_n dX6_puts_18 rfl rfl ?_
  refine fw_iload dX6_puts_19 rfl ?_
  refine fw_iastore dX6_puts_21 ly1_15 (by decide) ⟨by decide, by decide⟩ ⟨by omega, by omega⟩ ?_
  exact fw_vret dX6_puts_22 ⟨rfl, rfl, rfl⟩ (⟨rfl, rfl, rfl⟩)

theorem fw_and01 {a b : Int} (ha : a = 0 ∨ a = 1) (hb : b = 0 ∨ b = 1) : fw_and a b = if b = 0 then 0 else a := by
  rcases ha with rfl | rfl <;> rcases hb with rfl | rfl <;> rfl
theorem fw_or01 {a b : Int} (ha : a = 0 ∨ a = 1) (hb : b = 0 ∨ b = 1) : fw_or a b = if b = 0 then a else 1 := by
  rcases ha with rfl | rfl <;> rcases hb with rfl | rfl <;> rfl

set_option maxRecDepth 20000 in
set_option maxHeartbeats 4000000 in
theorem lp_X6_goes2 (g : Int) (N : fw_F) (L : fw_G) (hac : ab_ac (N 13)) (hbo : ∀ u, 0 ≤ u → u < 12 → N 11 u = 0 ∨ N 11 u = 1) : ∀ (n : Nat) (t : Int) (M : fw_F), 12 - t < n → 1 ≤ t → t ≤ 12 → (∀ k, ¬ k = 11 → ¬ k = 19 → M k = N k) → (∀ u, 1 ≤ u → u < 12 → M 19 u = if ¬ N 11 u = 0 ∧ fw_up (N 13) g 12 u = g then 1 else 0) → (∀ u, 0 ≤ u → u < 12 → M 11 u = if 1 ≤ u ∧ u < t ∧ fw_up (N 13) g 12 u = g then 0 else N 11 u) → fw_D mX6_goes 45 [some (fw_r 0), some (fw_i g), some (fw_i t)] [] M L (fun r M2 L2 => r = none ∧ L2 = L ∧ (∀ k, ¬ k = 11 → ¬ k = 19 → M2 k = N k) ∧ (∀ u, 0 ≤ u → u < 12 → M2 11 u = if 1 ≤ u ∧ fw_up (N 13) g 12 u = g then 0 else N 11 u)) := by
  intro n
  induction n with
  | zero => intro t M h0 h1 h2; omega
  | succ n ih =>
    intro t M h0 h1 h2 hk hg hu
    refine fw_iload_n dX6_goes_45 rfl rfl ?_
    refine fw_bipush dX6_goes_46 ⟨by decide, by decide⟩ (by decide) ?_
    refine fw_icmp_ge 80 dX6_goes_48 (by decide) (fun h48 => ?_) (fun h48 => ?_)
    · skip
      refine fw_vret dX6_goes_80 ⟨rfl, rfl, rfl⟩ ?_
      refine ⟨rfl, rfl, hk, fun u a b => ?_⟩
      rw [hu u a b]
      by_cases q : 1 ≤ u ∧ fw_up (N 13) g 12 u = g
      · rw [if_pos q, if_pos ⟨q.1, by omega, q.2⟩]
      · rw [if_neg q, if_neg (fun q2 => q ⟨q2.1, q2.2.2⟩)]
    · skip
      have h19 := hg t (by omega) (by omega)
      have h11 := hu t (by omega) (by omega)
      rw [if_neg (by omega)] at h11
      have hb01 := hbo t (by omega) (by omega)
      refine fw_aload_n dX6_goes_51 rfl rfl ?_
      refine fw_getr 15 11 rfl dX6_goes_52 ff_6_46 ly1_0 ⟨by decide, by decide⟩ rfl rfl (by decide) ?_
      refine fw_iload_n dX6_goes_55 rfl rfl ?_
      refine fw_dup2 dX6_goes_56 rfl rfl ?_
      refine fw_baload dX6_goes_57 ly1_11 ⟨by decide, by decide⟩ ⟨by omega, by omega⟩ ?_
      refine fw_aload_n dX6_goes_58 rfl rfl ?_
      refine fw_getr 23 19 rfl dX6_goes_59 ff_6_70 ly1_0 ⟨by decide, by decide⟩ rfl rfl (by decide) ?_
      refine fw_iload_n dX6_goes_62 rfl rfl ?_
      refine fw_baload dX6_goes_63 ly1_19 ⟨by decide, by decide⟩ ⟨by omega, by omega⟩ ?_
      refine fw_if_ne 71 dX6_goes_64 (by decide) (fun h64 => ?_) (fun h64 => ?_)
      · skip
        refine fw_iconst dX6_goes_71 ⟨by decide, by decide⟩ ?_
        refine fw_iand dX6_goes_72 ?_
        rw [h11, fw_and01 hb01 (by first | exact Or.inl rfl | exact Or.inr rfl)]
        first | rw [if_pos (show (0 : Int) = 0 from rfl)] | rw [if_neg (show ¬ (1 : Int) = 0 by decide)]
        refine fw_bastore dX6_goes_73 ly1_11 (by decide) ⟨by decide, by decide⟩ ⟨by omega, by omega⟩ (by first | exact Or.inl rfl | exact hb01) ?_
        refine fw_iinc (ls2 := [_, _, _]) dX6_goes_74 rfl ⟨by omega, by omega⟩ (by decide) rfl ?_
        refine fw_goto 45 dX6_goes_77 (by decide) ?_
        refine ih (t + 1) _ (by omega) (by omega) (by omega) (fun k a b => (fw_updne a).trans (hk k a b)) (fun u a b => (congrFun (fw_updne (by decide)) u).trans (hg u a b)) (fun u a b => ?_)
        rw [fw_updeq]
        by_cases hut : u = t
        · subst hut
          rw [if_pos rfl]
          by_cases q : fw_up (N 13) g 12 u = g
          · refine Eq.trans ?_ (if_pos (show 1 ≤ u ∧ u < u + 1 ∧ fw_up (N 13) g 12 u = g from ⟨by omega, by omega, q⟩)).symm
            by_cases q2 : N 11 u = 0
            · first | rfl | exact q2
            · rw [if_pos ⟨q2, q⟩] at h19; all_goals first | rfl | (exfalso; omega)
          · refine Eq.trans ?_ (if_neg (show ¬ (1 ≤ u ∧ u < u + 1 ∧ fw_up (N 13) g 12 u = g) from fun z => q z.2.2)).symm
            rw [if_neg (show ¬ (¬ N 11 u = 0 ∧ fw_up (N 13) g 12 u = g) from fun z => q z.2)] at h19
            all_goals first | rfl | (exfalso; omega)
        · rw [if_neg hut, hu u a b]
          by_cases q : 1 ≤ u ∧ u < t ∧ fw_up (N 13) g 12 u = g
          · rw [if_pos q, if_pos ⟨q.1, by omega, q.2.2⟩]
          · rw [if_neg q, if_neg (fun q2 => q ⟨q2.1, by omega, q2.2.2⟩)]
      · skip
        refine fw_iconst dX6_goes_67 ⟨by decide, by decide⟩ ?_
        refine fw_goto 72 dX6_goes_68 (by decide) ?_
        refine fw_iand dX6_goes_72 ?_
        rw [h11, fw_and01 hb01 (by first | exact Or.inl rfl | exact Or.inr rfl)]
        first | rw [if_pos (show (0 : Int) = 0 from rfl)] | rw [if_neg (show ¬ (1 : Int) = 0 by decide)]
        refine fw_bastore dX6_goes_73 ly1_11 (by decide) ⟨by decide, by decide⟩ ⟨by omega, by omega⟩ (by first | exact Or.inl rfl | exact hb01) ?_
        refine fw_iinc (ls2 := [_, _, _]) dX6_goes_74 rfl ⟨by omega, by omega⟩ (by decide) rfl ?_
        refine fw_goto 45 dX6_goes_77 (by decide) ?_
        refine ih (t + 1) _ (by omega) (by omega) (by omega) (fun k a b => (fw_updne a).trans (hk k a b)) (fun u a b => (congrFun (fw_updne (by decide)) u).trans (hg u a b)) (fun u a b => ?_)
        rw [fw_updeq]
        by_cases hut : u = t
        · subst hut
          rw [if_pos rfl]
          by_cases q : fw_up (N 13) g 12 u = g
          · refine Eq.trans ?_ (if_pos (show 1 ≤ u ∧ u < u + 1 ∧ fw_up (N 13) g 12 u = g from ⟨by omega, by omega, q⟩)).symm
            by_cases q2 : N 11 u = 0
            · first | rfl | exact q2
            · rw [if_pos ⟨q2, q⟩] at h19; all_goals first | rfl | (exfalso; omega)
          · refine Eq.trans ?_ (if_neg (show ¬ (1 ≤ u ∧ u < u + 1 ∧ fw_up (N 13) g 12 u = g) from fun z => q z.2.2)).symm
            rw [if_neg (show ¬ (¬ N 11 u = 0 ∧ fw_up (N 13) g 12 u = g) from fun z => q z.2)] at h19
            all_goals first | rfl | (exfalso; omega)
        · rw [if_neg hut, hu u a b]
          by_cases q : 1 ≤ u ∧ u < t ∧ fw_up (N 13) g 12 u = g
          · rw [if_pos q, if_pos ⟨q.1, by omega, q.2.2⟩]
          · rw [if_neg q, if_neg (fun q2 => q ⟨q2.1, by omega, q2.2.2⟩)]

set_option maxRecDepth 20000 in
set_option maxHeartbeats 4000000 in
theorem lp_X6_goes (g : Int) (N : fw_F) (L : fw_G) (hac : ab_ac (N 13)) (hbo : ∀ u, 0 ≤ u → u < 12 → N 11 u = 0 ∨ N 11 u = 1) : ∀ (n : Nat) (t : Int) (M : fw_F), 12 - t < n → 1 ≤ t → t ≤ 12 → (∀ k, ¬ k = 19 → M k = N k) → (∀ u, 1 ≤ u → u < t → M 19 u = if ¬ N 11 u = 0 ∧ fw_up (N 13) g 12 u = g then 1 else 0) → fw_D mX6_goes 2 [some (fw_r 0), some (fw_i g), some (fw_i t)] [] M L (fun r M2 L2 => r = none ∧ L2 = L ∧ (∀ k, ¬ k = 11 → ¬ k = 19 → M2 k = N k) ∧ (∀ u, 0 ≤ u → u < 12 → M2 11 u = if 1 ≤ u ∧ fw_up (N 13) g 12 u = g then 0 else N 11 u)) := by
  intro n
  induction n with
  | zero => intro t M h0 h1 h2; omega
  | succ n ih =>
    intro t M h0 h1 h2 hk hg
    refine fw_iload_n dX6_goes_2 rfl rfl ?_
    refine fw_bipush dX6_goes_3 ⟨by decide, by decide⟩ (by decide) ?_
    refine fw_icmp_ge 43 dX6_goes_5 (by decide) (fun h5 => ?_) (fun h5 => ?_)
    · skip
      refine fw_iconst dX6_goes_43 ⟨by decide, by decide⟩ ?_
      refine fw_istore_n (ls2 := [_, _, _]) dX6_goes_44 rfl (by decide) rfl ?_
      exact lp_X6_goes2 g N L hac hbo 12 1 _ (by decide) (by decide) (by decide) (fun k a b => hk k b) (fun u a b => hg u a (by omega)) (fun u a b => by rw [hk 11 (by decide), if_neg (by omega)])
    · skip
      have e11 := hk 11 (by decide)
      have e13 := hk 13 (by decide)
      refine fw_aload_n dX6_goes_8 rfl rfl ?_
      refine fw_getr 23 19 rfl dX6_goes_9 ff_6_70 ly1_0 ⟨by decide, by decide⟩ rfl rfl (by decide) ?_
      refine fw_iload_n dX6_goes_12 rfl rfl ?_
      refine fw_aload_n dX6_goes_13 rfl rfl ?_
      refine fw_getr 15 11 rfl dX6_goes_14 ff_6_46 ly1_0 ⟨by decide, by decide⟩ rfl rfl (by decide) ?_
      refine fw_iload_n dX6_goes_17 rfl rfl ?_
      refine fw_baload dX6_goes_18 ly1_11 ⟨by decide, by decide⟩ ⟨by omega, by omega⟩ ?_
      refine fw_if_eq 35 dX6_goes_19 (by decide) (fun h19 => ?_) (fun h19 => ?_)
      · skip
        refine fw_iconst dX6_goes_35 ⟨by decide, by decide⟩ ?_
        refine fw_bastore dX6_goes_36 ly1_19 (by decide) ⟨by decide, by decide⟩ ⟨by omega, by omega⟩ (by omega) ?_
        refine fw_iinc (ls2 := [_, _, _]) dX6_goes_37 rfl ⟨by omega, by omega⟩ (by decide) rfl ?_
        refine fw_goto 2 dX6_goes_40 (by decide) ?_
        refine ih (t + 1) _ (by omega) (by omega) (by omega) (fun k a => (fw_updne a).trans (hk k a)) (fun u a b => ?_)
        rw [fw_updeq]
        by_cases hut : u = t
        · subst hut
          rw [if_pos rfl]
          rw [e11] at h19
          first
          | exact (if_pos ⟨h19, by rw [← e13]; exact h28⟩).symm
          | exact (if_neg (fun z => h28 (by rw [e13]; exact z.2))).symm
          | exact (if_neg (fun z => z.1 h19)).symm
        · rw [if_neg hut]; exact hg u a (by omega)
      · skip
        refine fw_aload_n dX6_goes_22 rfl rfl ?_
        refine fw_iload_n dX6_goes_23 rfl rfl ?_
        refine fw_iload_n dX6_goes_24 rfl rfl ?_
        refine fw_pV mX6_liesIn [_, _] dX6_goes_25 mv_X6_liesIn lk_6_130 ⟨⟨by decide, by decide⟩, rfl, rfl, rfl, by decide, by decide⟩ ly1_0 ⟨by decide, by decide⟩ rfl rfl (Nat.le_of_ble_eq_true rfl) (sp_X6_liesIn _ _ _ _ (by rw [e13]; exact hac) (by omega)) ?_
        refine fw_bifeq 35 dX6_goes_28 (by decide) (fun h28 => ?_) (fun h28 => ?_)
        · skip
          refine fw_iconst dX6_goes_35 ⟨by decide, by decide⟩ ?_
          refine fw_bastore dX6_goes_36 ly1_19 (by decide) ⟨by decide, by decide⟩ ⟨by omega, by omega⟩ (by omega) ?_
          refine fw_iinc (ls2 := [_, _, _]) dX6_goes_37 rfl ⟨by omega, by omega⟩ (by decide) rfl ?_
          refine fw_goto 2 dX6_goes_40 (by decide) ?_
          refine ih (t + 1) _ (by omega) (by omega) (by omega) (fun k a => (fw_updne a).trans (hk k a)) (fun u a b => ?_)
          rw [fw_updeq]
          by_cases hut : u = t
          · subst hut
            rw [if_pos rfl]
            rw [e11] at h19
            first
            | exact (if_pos ⟨h19, by rw [← e13]; exact h28⟩).symm
            | exact (if_neg (fun z => h28 (by rw [e13]; exact z.2))).symm
            | exact (if_neg (fun z => z.1 h19)).symm
          · rw [if_neg hut]; exact hg u a (by omega)
        · skip
          refine fw_iconst dX6_goes_31 ⟨by decide, by decide⟩ ?_
          refine fw_goto 36 dX6_goes_32 (by decide) ?_
          refine fw_bastore dX6_goes_36 ly1_19 (by decide) ⟨by decide, by decide⟩ ⟨by omega, by omega⟩ (by omega) ?_
          refine fw_iinc (ls2 := [_, _, _]) dX6_goes_37 rfl ⟨by omega, by omega⟩ (by decide) rfl ?_
          refine fw_goto 2 dX6_goes_40 (by decide) ?_
          refine ih (t + 1) _ (by omega) (by omega) (by omega) (fun k a => (fw_updne a).trans (hk k a)) (fun u a b => ?_)
          rw [fw_updeq]
          by_cases hut : u = t
          · subst hut
            rw [if_pos rfl]
            rw [e11] at h19
            first
            | exact (if_pos ⟨h19, by rw [← e13]; exact h28⟩).symm
            | exact (if_neg (fun z => h28 (by rw [e13]; exact z.2))).symm
            | exact (if_neg (fun z => z.1 h19)).symm
          · rw [if_neg hut]; exact hg u a (by omega)

set_option maxRecDepth 20000 in
set_option maxHeartbeats 4000000 in
theorem sp_X6_goes (g : Int) (N : fw_F) (L : fw_G) (hac : ab_ac (N 13)) (hbo : ∀ u, 0 ≤ u → u < 12 → N 11 u = 0 ∨ N 11 u = 1) : fw_SD mX6_goes [fw_r 0, fw_i g] N L (fun r M2 L2 => r = none ∧ L2 = L ∧ (∀ k, ¬ k = 11 → ¬ k = 19 → M2 k = N k) ∧ (∀ u, 0 ≤ u → u < 12 → M2 11 u = if 1 ≤ u ∧ fw_up (N 13) g 12 u = g then 0 else N 11 u)) := by
  refine fw_SP_of pl_X6_goes (ls := [_, _]) rfl (Nat.le_of_ble_eq_true rfl) fun hA hM => ?_
  refine fw_iconst dX6_goes_0 ⟨by decide, by decide⟩ ?_
  refine fw_istore_n (ls2 := [_, _, _]) dX6_goes_1 rfl (by decide) rfl ?_
  exact lp_X6_goes g N L hac hbo 12 1 N (by decide) (by decide) (by decide) (fun _ _ => rfl) (fun u a b => by omega)
