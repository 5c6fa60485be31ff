theorem ab_FO_rng {n : Int} {mk : Int → Int} {G : fw_F} {O : Int → Int} {T : Int} {ap : Int → Int} (h : ab_wf n mk G O T) (ha : ab_apok ap) {p : Int} (h0 : 0 ≤ p) (h1 : p < 4) : 0 ≤ ab_FO G O ap T.toNat p ∧ ab_FO G O ap T.toNat p ≤ 20 := by
  have hT := ab_T80 h
  have := ab_LF_ok h ha T.toNat (by omega) p h0 h1
  unfold ab_FO
  split <;> omega

set_option maxRecDepth 20000 in
set_option maxHeartbeats 4000000 in
theorem l2_X6_begins (N : fw_F) (L : fw_G) : ∀ (q : Nat) (i : Int) (M : fw_F), 16 - i < q → 0 ≤ i → i ≤ 16 → ((∀ k, ¬ k = 0 → ¬ k = 1 → ¬ k = 4 → ¬ k = 6 → ¬ k = 20 → ¬ k = 21 → M k = N k) ∧ (M 0 4 = 0 ∧ M 0 31 = 0 ∧ ∀ j, ¬ j = 4 → ¬ j = 31 → M 0 j = N 0 j)) → (∀ p, 0 ≤ p → p < 4 → M 1 p = 0 ∧ M 6 p = -9 ∧ M 20 p = 20 ∧ M 21 p = 0) → (∀ z, 0 ≤ z → z < i → M 4 z = 0) → fw_D mX6_begins 55 [some (fw_r 0), some (fw_i i)] [] M L (fun r M2 L2 => r = none ∧ L2 = L ∧ (∀ k, ¬ k = 0 → ¬ k = 1 → ¬ k = 4 → ¬ k = 6 → ¬ k = 20 → ¬ k = 21 → M2 k = N k) ∧ (M2 0 4 = 0 ∧ M2 0 31 = 0 ∧ ∀ j, ¬ j = 4 → ¬ j = 31 → M2 0 j = N 0 j) ∧ (∀ p, 0 ≤ p → p < 4 → M2 1 p = 0 ∧ M2 6 p = -9 ∧ M2 20 p = 20 ∧ M2 21 p = 0) ∧ (∀ z, 0 ≤ z → z < 16 → M2 4 z = 0)) := by
  intro q
  induction q with
  | zero => intro i M h0 h1 h2; omega
  | succ q ih =>
    intro i M h0 h1 h2 h3 h5 h6
    refine fw_iload_n dX6_begins_55 rfl rfl ?_
    refine fw_bipush dX6_begins_56 ⟨by decide, by decide⟩ (by decide) ?_
    refine fw_icmp_ge 74 dX6_begins_58 (by decide) (fun h58 => ?_) (fun h58 => ?_)
    · skip
      refine fw_vret dX6_begins_74 ⟨rfl, rfl, rfl⟩ ?_
      exact ⟨rfl, rfl, h3.1, h3.2, h5, fun z a b => h6 z a (by omega)⟩
    · skip
      refine fw_aload_n dX6_begins_61 rfl rfl ?_
      refine fw_getr 8 4 rfl dX6_begins_62 ff_6_24 ly1_0 ⟨by decide, by decide⟩ rfl rfl (by decide) ?_
      refine fw_iload_n dX6_begins_65 rfl rfl ?_
      refine fw_iconst dX6_begins_66 ⟨by decide, by decide⟩ ?_
      refine fw_iastore dX6_begins_67 ly1_4 (by decide) ⟨by decide, by decide⟩ ⟨by omega, by omega⟩ ?_
      refine fw_iinc (ls2 := [_, _]) dX6_begins_68 rfl ⟨by omega, by omega⟩ (by decide) rfl ?_
      refine fw_goto 55 dX6_begins_71 (by decide) ?_
      refine ih (i + 1) _ (by omega) (by omega) (by omega) ⟨fun k a b c d e f => (fw_updne c).trans (h3.1 k a b c d e f), ?_⟩ (fun p a b => ?_) (fun z a b => ?_)
      · rw [fw_updne (by decide)]; exact h3.2
      · simp (disch := decide) only [fw_updne]; exact h5 p a b
      · rw [fw_updeq]; split
        · rfl
        · exact h6 z a (by omega)

set_option maxRecDepth 20000 in
set_option maxHeartbeats 4000000 in
theorem lp_X6_begins (N : fw_F) (L : fw_G) : ∀ (q : Nat) (i : Int) (M : fw_F), 4 - i < q → 0 ≤ i → i ≤ 4 → ((∀ k, ¬ k = 0 → ¬ k = 1 → ¬ k = 4 → ¬ k = 6 → ¬ k = 20 → ¬ k = 21 → M k = N k) ∧ (M 0 4 = 0 ∧ M 0 31 = 0 ∧ ∀ j, ¬ j = 4 → ¬ j = 31 → M 0 j = N 0 j)) → (∀ p, 0 ≤ p → p < i → M 1 p = 0 ∧ M 6 p = -9 ∧ M 20 p = 20 ∧ M 21 p = 0) → fw_D mX6_begins 12 [some (fw_r 0), some (fw_i i)] [] M L (fun r M2 L2 => r = none ∧ L2 = L ∧ (∀ k, ¬ k = 0 → ¬ k = 1 → ¬ k = 4 → ¬ k = 6 → ¬ k = 20 → ¬ k = 21 → M2 k = N k) ∧ (M2 0 4 = 0 ∧ M2 0 31 = 0 ∧ ∀ j, ¬ j = 4 → ¬ j = 31 → M2 0 j = N 0 j) ∧ (∀ p, 0 ≤ p → p < 4 → M2 1 p = 0 ∧ M2 6 p = -9 ∧ M2 20 p = 20 ∧ M2 21 p = 0) ∧ (∀ z, 0 ≤ z → z < 16 → M2 4 z = 0)) := by
  intro q
  induction q with
  | zero => intro i M h0 h1 h2; omega
  | succ q ih =>
    intro i M h0 h1 h2 h3 h5
    refine fw_iload_n dX6_begins_12 rfl rfl ?_
    refine fw_iconst dX6_begins_13 ⟨by decide, by decide⟩ ?_
    refine fw_icmp_ge 53 dX6_begins_14 (by decide) (fun h14 => ?_) (fun h14 => ?_)
    · skip
      refine fw_iconst dX6_begins_53 ⟨by decide, by decide⟩ ?_
      refine fw_istore_n (ls2 := [_, _]) dX6_begins_54 rfl (by decide) rfl ?_
      exact l2_X6_begins N L 17 0 M (by decide) (by decide) (by decide) h3 (fun p a b => h5 p a (by omega)) (fun z a b => by omega)
    · skip
      refine fw_aload_n dX6_begins_17 rfl rfl ?_
      refine fw_getr 5 1 rfl dX6_begins_18 ff_6_13 ly1_0 ⟨by decide, by decide⟩ rfl rfl (by decide) ?_
      refine fw_iload_n dX6_begins_21 rfl rfl ?_
      refine fw_iconst dX6_begins_22 ⟨by decide, by decide⟩ ?_
      refine fw_iastore dX6_begins_23 ly1_1 (by decide) ⟨by decide, by decide⟩ ⟨by omega, by omega⟩ ?_
      refine fw_aload_n dX6_begins_24 rfl rfl ?_
      refine fw_getr 10 6 rfl dX6_begins_25 ff_6_30 ly1_0 ⟨by decide, by decide⟩ rfl rfl (by decide) ?_
      refine fw_iload_n dX6_begins_28 rfl rfl ?_
      refine fw_bipush dX6_begins_29 ⟨by decide, by decide⟩ (by decide) ?_
      refine fw_iastore dX6_begins_31 ly1_6 (by decide) ⟨by decide, by decide⟩ ⟨by omega, by omega⟩ ?_
      refine fw_aload_n dX6_begins_32 rfl rfl ?_
      refine fw_getr 24 20 rfl dX6_begins_33 ff_6_73 ly1_0 ⟨by decide, by decide⟩ rfl rfl (by decide) ?_
      refine fw_iload_n dX6_begins_36 rfl rfl ?_
      refine fw_bipush dX6_begins_37 ⟨by decide, by decide⟩ (by decide) ?_
      refine fw_iastore dX6_begins_39 ly1_20 (by decide) ⟨by decide, by decide⟩ ⟨by omega, by omega⟩ ?_
      refine fw_aload_n dX6_begins_40 rfl rfl ?_
      refine fw_getr 25 21 rfl dX6_begins_41 ff_6_76 ly1_0 ⟨by decide, by decide⟩ rfl rfl (by decide) ?_
      refine fw_iload_n dX6_begins_44 rfl rfl ?_
      refine fw_iconst dX6_begins_45 ⟨by decide, by decide⟩ ?_
      refine fw_iastore dX6_begins_46 ly1_21 (by decide) ⟨by decide, by decide⟩ ⟨by omega, by omega⟩ ?_
      refine fw_iinc (ls2 := [_, _]) dX6_begins_47 rfl ⟨by omega, by omega⟩ (by decide) rfl ?_
      refine fw_goto 12 dX6_begins_50 (by decide) ?_
      refine ih (i + 1) _ (by omega) (by omega) (by omega) ⟨fun k a b c d e f => ?_, ?_⟩ (fun p a b => ?_)
      · rw [fw_updne f, fw_updne e, fw_updne d, fw_updne b]; exact h3.1 k a b c d e f
      · rw [fw_updne (by decide), fw_updne (by decide), fw_updne (by decide), fw_updne (by decide)]; exact h3.2
      · simp (disch := decide) only [fw_updne, fw_updeq]
        by_cases hp : p = i
        · simp [hp]
        · simp only [if_neg hp]; exact h5 p a (by omega)

set_option maxRecDepth 20000 in
set_option maxHeartbeats 4000000 in
theorem sp_X6_begins (N : fw_F) (L : fw_G) : fw_SD mX6_begins [fw_r 0] N L (fun r M2 L2 => r = none ∧ L2 = L ∧ (∀ k, ¬ k = 0 → ¬ k = 1 → ¬ k = 4 → ¬ k = 6 → ¬ k = 20 → ¬ k = 21 → M2 k = N k) ∧ (M2 0 4 = 0 ∧ M2 0 31 = 0 ∧ ∀ j, ¬ j = 4 → ¬ j = 31 → M2 0 j = N 0 j) ∧ (∀ p, 0 ≤ p → p < 4 → M2 1 p = 0 ∧ M2 6 p = -9 ∧ M2 20 p = 20 ∧ M2 21 p = 0) ∧ (∀ z, 0 ≤ z → z < 16 → M2 4 z = 0)) := by
  refine fw_SP_of pl_X6_begins (ls := [_]) rfl (Nat.le_of_ble_eq_true rfl) fun hA hM => ?_
  refine fw_aload_n dX6_begins_0 rfl rfl ?_
  refine fw_iconst dX6_begins_1 ⟨by decide, by decide⟩ ?_
  refine fw_puti 4 rfl dX6_begins_2 fp_6_109 ly1_0 (by decide) ⟨by decide, by decide⟩ rfl ?_
  refine fw_aload_n dX6_begins_5 rfl rfl ?_
  refine fw_iconst dX6_begins_6 ⟨by decide, by decide⟩ ?_
  refine fw_puti 31 rfl dX6_begins_7 fp_6_112 ly1_0 (by decide) ⟨by decide, by decide⟩ rfl ?_
  refine fw_iconst dX6_begins_10 ⟨by decide, by decide⟩ ?_
  refine fw_istore_n (ls2 := [_, _]) dX6_begins_11 rfl (by decide) rfl ?_
  refine lp_X6_begins N L 5 0 _ (by decide) (by decide) (by decide) ⟨fun k a b c d e f => ?_, ?_⟩ (fun p a b => by omega)
  · rw [fw_updne a, fw_updne a]
  · exact ⟨by rw [fw_updjn (by decide), fw_updj], by rw [fw_updj], fun j a b => by rw [fw_updjn b, fw_updjn a]⟩

set_option maxRecDepth 20000 in
set_option maxHeartbeats 4000000 in
theorem li_X6_isNew (m t : Int) (M : fw_F) (L : fw_G) (hm : 0 ≤ m ∧ m < 4) (hn : 1 ≤ M 0 2 ∧ M 0 2 ≤ 4) (hk : ∀ p, 0 ≤ p → p < 4 → 0 ≤ M 4 (4 * m + p) ∧ M 4 (4 * m + p) ≤ 20) (Q : fw_P) (p : Int) (hp : 0 ≤ p ∧ p < M 0 2) (hgo : ∀ f, (f = 0 ∨ f = 1) → (f = 1 ↔ ((∃ u i, 0 ≤ u ∧ u < p ∧ 0 ≤ i ∧ i < M 4 (4 * m + u) ∧ md_G M (20 * u + i) 0 = 0 ∧ md_G M (20 * u + i) 1 = t) ∨ ∃ w, 0 ≤ w ∧ w < M 4 (4 * m + p) ∧ md_G M (20 * p + w) 0 = 0 ∧ md_G M (20 * p + w) 1 = t)) → fw_D mX6_isNew 79 [some (fw_r 0), some (fw_i m), some (fw_i t), some (fw_i f), some (fw_i p)] [] M L Q) : ∀ (q : Nat) (i f : Int), M 4 (4 * m + p) - i < q → 0 ≤ i → i ≤ M 4 (4 * m + p) → (f = 0 ∨ f = 1) → (f = 1 ↔ ((∃ u i, 0 ≤ u ∧ u < p ∧ 0 ≤ i ∧ i < M 4 (4 * m + u) ∧ md_G M (20 * u + i) 0 = 0 ∧ md_G M (20 * u + i) 1 = t) ∨ ∃ w, 0 ≤ w ∧ w < i ∧ md_G M (20 * p + w) 0 = 0 ∧ md_G M (20 * p + w) 1 = t)) → fw_D mX6_isNew 17 [some (fw_r 0), some (fw_i m), some (fw_i t), some (fw_i f), some (fw_i p), some (fw_i i)] [] M L Q := by
  intro q
  induction q with
  | zero => intro i f h0 h1 h2; omega
  | succ q ih =>
    intro i f h0 h1 h2 h3 h4
    have hkp := hk p hp.1 (by omega)
    refine fw_iload dX6_isNew_17 rfl ?_
    refine fw_aload_n dX6_isNew_19 rfl rfl ?_
    refine fw_getr 8 4 rfl dX6_isNew_20 ff_6_24 ly1_0 ⟨by decide, by decide⟩ rfl rfl (by decide) ?_
    refine fw_iconst dX6_isNew_23 ⟨by decide, by decide⟩ ?_
    refine fw_iload_n dX6_isNew_24 rfl rfl ?_
    refine fw_imul dX6_isNew_25 ⟨by omega, by omega⟩ ?_
    refine fw_iload dX6_isNew_26 rfl ?_
    refine fw_iadd dX6_isNew_28 ⟨by omega, by omega⟩ ?_
    refine fw_iaload dX6_isNew_29 ly1_4 ⟨by decide, by decide⟩ ⟨by omega, by omega⟩ ?_
    refine fw_icmp_ge 79 dX6_isNew_30 (by decide) (fun h30 => ?_) (fun h30 => ?_)
    · skip
      refine fw_take 5 ?_
      rw [show i = M 4 (4 * m + p) by omega] at h4
      exact hgo f h3 h4
    · skip
      refine fw_iload dX6_isNew_33 rfl ?_
      refine fw_iload dX6_isNew_35 rfl ?_
      refine fw_pS mX6_changeAt [_, _] dX6_isNew_37 mv_X6_changeAt lk_6_119 ⟨⟨by decide, by decide⟩, rfl, rfl, rfl, by decide, by decide⟩ rfl rfl (Nat.le_of_ble_eq_true rfl) (sp_X6_changeAt _ _ _ _ (by omega) (by omega)) ?_
      refine fw_istore (ls2 := [_, _, _, _, _, _, _]) dX6_isNew_40 (by decide) rfl ?_
      refine fw_iload_n dX6_isNew_42 rfl rfl ?_
      refine fw_aload_n dX6_isNew_43 rfl rfl ?_
      refine fw_getr 6 2 rfl dX6_isNew_44 ff_6_17 ly1_0 ⟨by decide, by decide⟩ rfl rfl (by decide) ?_
      refine fw_iload dX6_isNew_47 rfl ?_
      refine fw_iaload dX6_isNew_49 ly1_2 ⟨by decide, by decide⟩ ⟨by omega, by omega⟩ ?_
      rw [md_G0 M]
      refine fw_if_ne 70 dX6_isNew_50 (by decide) (fun h50 => ?_) (fun h50 => ?_)
      · skip
        refine fw_iconst dX6_isNew_70 ⟨by decide, by decide⟩ ?_
        refine fw_ior dX6_isNew_71 ?_
        refine fw_istore_n (ls2 := [_, _, _, _, _, _, _]) dX6_isNew_72 rfl (by decide) rfl ?_
        refine fw_iinc (ls2 := [_, _, _, _, _, _, _]) dX6_isNew_73 rfl ⟨by omega, by omega⟩ (by decide) rfl ?_
        refine fw_goto 17 dX6_isNew_76 (by decide) ?_
        refine fw_take 6 ?_
        rw [fw_or01 h3 (by first | exact Or.inl rfl | exact Or.inr rfl)]
        rw [if_pos (show (0 : Int) = 0 from rfl)]
        refine ih (i + 1) f (by omega) (by omega) (by omega) h3 (h4.trans (or_congr Iff.rfl ⟨fun ⟨u, u1, u2, u3⟩ => ⟨u, u1, by omega, u3⟩, fun ⟨u, u1, u2, u3, u4⟩ => ?_⟩))
        rcases (show u < i ∨ u = i by omega) with u5 | u5
        · exact ⟨u, u1, u5, u3, u4⟩
        · rw [u5] at u3 u4; exact absurd u3 h50
      · skip
        refine fw_aload_n dX6_isNew_53 rfl rfl ?_
        refine fw_getr 6 2 rfl dX6_isNew_54 ff_6_17 ly1_0 ⟨by decide, by decide⟩ rfl rfl (by decide) ?_
        refine fw_iload dX6_isNew_57 rfl ?_
        refine fw_iconst dX6_isNew_59 ⟨by decide, by decide⟩ ?_
        refine fw_iadd dX6_isNew_60 ⟨by omega, by omega⟩ ?_
        refine fw_iaload dX6_isNew_61 ly1_2 ⟨by decide, by decide⟩ ⟨by omega, by omega⟩ ?_
        rw [md_Gv M]
        refine fw_iload_n dX6_isNew_62 rfl rfl ?_
        refine fw_icmp_ne 70 dX6_isNew_63 (by decide) (fun h63 => ?_) (fun h63 => ?_)
        · skip
          refine fw_iconst dX6_isNew_70 ⟨by decide, by decide⟩ ?_
          refine fw_ior dX6_isNew_71 ?_
          refine fw_istore_n (ls2 := [_, _, _, _, _, _, _]) dX6_isNew_72 rfl (by decide) rfl ?_
          refine fw_iinc (ls2 := [_, _, _, _, _, _, _]) dX6_isNew_73 rfl ⟨by omega, by omega⟩ (by decide) rfl ?_
          refine fw_goto 17 dX6_isNew_76 (by decide) ?_
          refine fw_take 6 ?_
          rw [fw_or01 h3 (by first | exact Or.inl rfl | exact Or.inr rfl)]
          rw [if_pos (show (0 : Int) = 0 from rfl)]
          refine ih (i + 1) f (by omega) (by omega) (by omega) h3 (h4.trans (or_congr Iff.rfl ⟨fun ⟨u, u1, u2, u3⟩ => ⟨u, u1, by omega, u3⟩, fun ⟨u, u1, u2, u3, u4⟩ => ?_⟩))
          rcases (show u < i ∨ u = i by omega) with u5 | u5
          · exact ⟨u, u1, u5, u3, u4⟩
          · rw [u5] at u3 u4; exact absurd u4 h63
        · skip
          refine fw_iconst dX6_isNew_66 ⟨by decide, by decide⟩ ?_
          refine fw_goto 71 dX6_isNew_67 (by decide) ?_
          refine fw_ior dX6_isNew_71 ?_
          refine fw_istore_n (ls2 := [_, _, _, _, _, _, _]) dX6_isNew_72 rfl (by decide) rfl ?_
          refine fw_iinc (ls2 := [_, _, _, _, _, _, _]) dX6_isNew_73 rfl ⟨by omega, by omega⟩ (by decide) rfl ?_
          refine fw_goto 17 dX6_isNew_76 (by decide) ?_
          refine fw_take 6 ?_
          rw [fw_or01 h3 (by first | exact Or.inl rfl | exact Or.inr rfl)]
          rw [if_neg (show ¬ (1 : Int) = 0 by decide)]
          exact ih (i + 1) 1 (by omega) (by omega) (by omega) (Or.inr rfl) ⟨fun _ => Or.inr ⟨i, h1, by omega, h50, h63⟩, fun _ => rfl⟩

set_option maxRecDepth 20000 in
set_option maxHeartbeats 4000000 in
theorem lp_X6_isNew (m t : Int) (M : fw_F) (L : fw_G) (hm : 0 ≤ m ∧ m < 4) (hn : 1 ≤ M 0 2 ∧ M 0 2 ≤ 4) (hk : ∀ p, 0 ≤ p → p < 4 → 0 ≤ M 4 (4 * m + p) ∧ M 4 (4 * m + p) ≤ 20) : ∀ (q : Nat) (p f : Int), M 0 2 - p < q → 0 ≤ p → p ≤ M 0 2 → (f = 0 ∨ f = 1) → (f = 1 ↔ (∃ u i, 0 ≤ u ∧ u < p ∧ 0 ≤ i ∧ i < M 4 (4 * m + u) ∧ md_G M (20 * u + i) 0 = 0 ∧ md_G M (20 * u + i) 1 = t)) → fw_D mX6_isNew 5 [some (fw_r 0), some (fw_i m), some (fw_i t), some (fw_i f), some (fw_i p)] [] M L (fun r M2 L2 => M2 = M ∧ L2 = L ∧ ∃ z, r = some (fw_i z) ∧ (z = 0 ∨ z = 1) ∧ (z = 1 ↔ (∃ p i, 0 ≤ p ∧ p < M 0 2 ∧ 0 ≤ i ∧ i < M 4 (4 * m + p) ∧ md_G M (20 * p + i) 0 = 0 ∧ md_G M (20 * p + i) 1 = t))) := by
  intro q
  induction q with
  | zero => intro p f h0 h1 h2; omega
  | succ q ih =>
    intro p f h0 h1 h2 h3 h4
    refine fw_iload dX6_isNew_5 rfl ?_
    refine fw_aload_n dX6_isNew_7 rfl rfl ?_
    refine fw_geti 2 rfl dX6_isNew_8 ff_6_7 ly1_0 ⟨by decide, by decide⟩ rfl ?_
    refine fw_icmp_ge 85 dX6_isNew_11 (by decide) (fun h11 => ?_) (fun h11 => ?_)
    · skip
      refine fw_iload_n dX6_isNew_85 rfl rfl ?_
      refine fw_zret dX6_isNew_86 ⟨rfl, rfl, rfl⟩ h3 ?_
      rw [show p = M 0 2 by omega] at h4
      exact ⟨rfl, rfl, f, rfl, h3, h4⟩
    · skip
      refine fw_iconst dX6_isNew_14 ⟨by decide, by decide⟩ ?_
      refine fw_istore (ls2 := [_, _, _, _, _, _]) dX6_isNew_15 (by decide) rfl ?_
      have hkp := hk p h1 (by omega)
      refine li_X6_isNew m t M L hm hn hk _ p ⟨h1, by omega⟩ (fun g g1 g2 => ?_) 21 0 f (by omega) (by decide) (by omega) h3 (h4.trans ⟨Or.inl, fun z => z.elim id (fun ⟨u, u1, u2, _⟩ => by omega)⟩)
      refine fw_iinc (ls2 := [_, _, _, _, _]) dX6_isNew_79 rfl ⟨by omega, by omega⟩ (by decide) rfl ?_
      refine fw_goto 5 dX6_isNew_82 (by decide) ?_
      refine ih (p + 1) g (by omega) (by omega) (by omega) g1 (g2.trans ⟨?_, ?_⟩)
      · rintro (⟨u, i, u1, u2, u3⟩ | ⟨i, u3⟩)
        · exact ⟨u, i, u1, by omega, u3⟩
        · exact ⟨p, i, h1, by omega, u3⟩
      · rintro ⟨u, i, u1, u2, u3⟩
        rcases (show u < p ∨ u = p by omega) with u5 | u5
        · exact Or.inl ⟨u, i, u1, u5, u3⟩
        · rw [u5] at u3; exact Or.inr ⟨i, u3⟩

set_option maxRecDepth 20000 in
set_option maxHeartbeats 4000000 in
theorem sp_X6_isNew (m t : Int) (M : fw_F) (L : fw_G) (hm : 0 ≤ m ∧ m < 4) (hn : 1 ≤ M 0 2 ∧ M 0 2 ≤ 4) (hk : ∀ p, 0 ≤ p → p < 4 → 0 ≤ M 4 (4 * m + p) ∧ M 4 (4 * m + p) ≤ 20) : fw_SD mX6_isNew [fw_r 0, fw_i m, fw_i t] M L (fun r M2 L2 => M2 = M ∧ L2 = L ∧ ∃ z, r = some (fw_i z) ∧ (z = 0 ∨ z = 1) ∧ (z = 1 ↔ (∃ p i, 0 ≤ p ∧ p < M 0 2 ∧ 0 ≤ i ∧ i < M 4 (4 * m + p) ∧ md_G M (20 * p + i) 0 = 0 ∧ md_G M (20 * p + i) 1 = t))) := by
  refine fw_SP_of pl_X6_isNew (ls := [_, _, _]) rfl (Nat.le_of_ble_eq_true rfl) fun hA hM => ?_
  refine fw_iconst dX6_isNew_0 ⟨by decide, by decide⟩ ?_
  refine fw_istore_n (ls2 := [_, _, _, _]) dX6_isNew_1 rfl (by decide) rfl ?_
  refine fw_iconst dX6_isNew_2 ⟨by decide, by decide⟩ ?_
  refine fw_istore (ls2 := [_, _, _, _, _]) dX6_isNew_3 (by decide) rfl ?_
  exact lp_X6_isNew m t M L hm hn hk 5 0 0 (by omega) (by decide) (by omega) (Or.inl rfl) ⟨fun z => by omega, fun ⟨u, i, u1, u2, _⟩ => by omega⟩

set_option maxRecDepth 20000 in
set_option maxHeartbeats 4000000 in
theorem lp_X6_left_1 (T : Int) (N : fw_F) (O : Int → Int) (L : fw_G) (hwf : ab_wf (N 0 2) (N 1) (md_G N) O T) (hap : ab_apok (N 6)) (o : Int) (ho : 0 ≤ o ∧ o + 4 ≤ 4) (hk : ∀ p, 0 ≤ p → p < 4 → 0 ≤ N 1 (o + p) ∧ N 1 (o + p) ≤ 20) (M : fw_F) (hM : ∀ k, ¬ k = 7 → ¬ k = 8 → M k = N k) (hF : ∀ p, 0 ≤ p → p < 4 → M 7 p = ab_FO (md_G N) O (N 6) T.toNat p) (hFr : ∀ p, 0 ≤ p → p < 4 → 0 ≤ M 7 p ∧ M 7 p ≤ 20) : ∀ (q : Nat) (s p : Int), N 0 2 - p < q → 0 ≤ p → p ≤ N 0 2 → s = ab_sm (fun p => max 0 (N 1 (o + p) - ab_FO (md_G N) O (N 6) T.toNat p)) p.toNat → fw_D mX6_left 9 [some (fw_r 0), some (fw_r 1), some (fw_i o), some (fw_i s), some (fw_i p)] [] M L (fun r M2 L2 => r = some (fw_i (ab_sm (fun p => max 0 (N 1 (o + p) - ab_FO (md_G N) O (N 6) T.toNat p)) (N 0 2).toNat)) ∧ L2 = L ∧ (∀ k, ¬ k = 7 → ¬ k = 8 → M2 k = N k)) := by
  intro q
  induction q with
  | zero => intro s p h0 h1 h2; omega
  | succ q ih =>
    intro s p h0 h1 h2 h3
    have hn := hwf.1
    have hn1 := hn.1
    have hn2 := hn.2.1
    have e0 := hM 0 (by decide) (by decide)
    have ec := hM 1 (by decide) (by decide)
    have hr := ab_sm_rng (f := (fun p => max 0 (N 1 (o + p) - ab_FO (md_G N) O (N 6) T.toNat p))) (a := 0) (b := 20) p.toNat (fun j a b => by have h8 := hk j a (by omega); have h7 := hFr j a (by omega); rw [hF j a (by omega)] at h7; omega)
    refine fw_iload dX6_left_9 rfl ?_
    refine fw_aload_n dX6_left_11 rfl rfl ?_
    refine fw_geti 2 rfl dX6_left_12 ff_6_7 ly1_0 ⟨by decide, by decide⟩ rfl ?_
    rw [e0]
    refine fw_icmp_ge 54 dX6_left_15 (by decide) (fun h15 => ?_) (fun h15 => ?_)
    · skip
      refine fw_iload_n dX6_left_54 rfl rfl ?_
      refine fw_iret dX6_left_55 ⟨rfl, rfl, rfl⟩ ?_
      exact ⟨by rw [h3, show p.toNat = (N 0 2).toNat by omega], rfl, hM⟩
    · skip
      have hkp := hk p h1 (by omega)
      have hfp := hFr p h1 (by omega)
      have hs := ab_sm_s (fun p => max 0 (N 1 (o + p) - ab_FO (md_G N) O (N 6) T.toNat p)) h1
      have hFp := hF p h1 (by omega)
      refine fw_aload_n dX6_left_18 rfl rfl ?_
      refine fw_iload_n dX6_left_19 rfl rfl ?_
      refine fw_iload dX6_left_20 rfl ?_
      refine fw_iadd dX6_left_22 ⟨by omega, by omega⟩ ?_
      refine fw_iaload dX6_left_23 ly1_1 ⟨by decide, by decide⟩ ⟨by omega, by omega⟩ ?_
      rw [ec]
      refine fw_aload_n dX6_left_24 rfl rfl ?_
      refine fw_getr 11 7 rfl dX6_left_25 ff_6_33 ly1_0 ⟨by decide, by decide⟩ rfl rfl (by decide) ?_
      refine fw_iload dX6_left_28 rfl ?_
      refine fw_iaload dX6_left_30 ly1_7 ⟨by decide, by decide⟩ ⟨by omega, by omega⟩ ?_
      refine fw_isub dX6_left_31 ⟨by omega, by omega⟩ ?_
      refine fw_istore (ls2 := [_, _, _, _, _, _]) dX6_left_32 (by decide) rfl ?_
      refine fw_iload_n dX6_left_34 rfl rfl ?_
      refine fw_iload dX6_left_35 rfl ?_
      refine fw_if_le 45 dX6_left_37 (by decide) (fun h37 => ?_) (fun h37 => ?_)
      · skip
        refine fw_iconst dX6_left_45 ⟨by decide, by decide⟩ ?_
        refine fw_iadd dX6_left_46 ⟨by omega, by omega⟩ ?_
        refine fw_istore_n (ls2 := [_, _, _, _, _, _]) dX6_left_47 rfl (by decide) rfl ?_
        refine fw_iinc (ls2 := [_, _, _, _, _, _]) dX6_left_48 rfl ⟨by omega, by omega⟩ (by decide) rfl ?_
        refine fw_goto 9 dX6_left_51 (by decide) ?_
        refine fw_take 5 ?_
        rw [hFp] at h37
        exact ih _ (p + 1) (by omega) (by omega) (by omega) (by rw [hs, h3]; omega)
      · skip
        refine fw_iload dX6_left_40 rfl ?_
        refine fw_goto 46 dX6_left_42 (by decide) ?_
        refine fw_iadd dX6_left_46 ⟨by omega, by omega⟩ ?_
        refine fw_istore_n (ls2 := [_, _, _, _, _, _]) dX6_left_47 rfl (by decide) rfl ?_
        refine fw_iinc (ls2 := [_, _, _, _, _, _]) dX6_left_48 rfl ⟨by omega, by omega⟩ (by decide) rfl ?_
        refine fw_goto 9 dX6_left_51 (by decide) ?_
        refine fw_take 5 ?_
        rw [hFp] at h37
        exact ih _ (p + 1) (by omega) (by omega) (by omega) (by rw [hs, h3, hFp]; omega)

set_option maxRecDepth 20000 in
set_option maxHeartbeats 4000000 in
theorem sp_X6_left_1 (T : Int) (N : fw_F) (O : Int → Int) (L : fw_G) (hwf : ab_wf (N 0 2) (N 1) (md_G N) O T) (hap : ab_apok (N 6)) (o : Int) (ho : 0 ≤ o ∧ o + 4 ≤ 4) (hk : ∀ p, 0 ≤ p → p < 4 → 0 ≤ N 1 (o + p) ∧ N 1 (o + p) ≤ 20) : fw_SD mX6_left [fw_r 0, fw_r 1, fw_i o] N L (fun r M2 L2 => r = some (fw_i (ab_sm (fun p => max 0 (N 1 (o + p) - ab_FO (md_G N) O (N 6) T.toNat p)) (N 0 2).toNat)) ∧ L2 = L ∧ (∀ k, ¬ k = 7 → ¬ k = 8 → M2 k = N k)) := by
  refine fw_SP_of pl_X6_left (ls := [_, _, _]) rfl (Nat.le_of_ble_eq_true rfl) fun hA hM => ?_
  refine fw_aload_n dX6_left_0 rfl rfl ?_
  refine fw_cV mX6_leaves [] dX6_left_1 mv_X6_leaves lk_6_153 ⟨⟨by decide, by decide⟩, rfl, rfl, rfl, by decide, by decide⟩ ly1_0 ⟨by decide, by decide⟩ rfl rfl (Nat.le_of_ble_eq_true rfl) (sp_X6_leaves T N O L hwf hap) (fun r M1 L1 hp hM1 => ?_)
  obtain ⟨rfl, rfl, g1, g2⟩ := hp
  refine fw_iconst dX6_left_4 ⟨by decide, by decide⟩ ?_
  refine fw_istore_n (ls2 := [_, _, _, _]) dX6_left_5 rfl (by decide) rfl ?_
  refine fw_iconst dX6_left_6 ⟨by decide, by decide⟩ ?_
  refine fw_istore (ls2 := [_, _, _, _, _]) dX6_left_7 (by decide) rfl ?_
  have hn := hwf.1
  have hn1 := hn.1
  have hn2 := hn.2.1
  exact lp_X6_left_1 T N O _ hwf hap o ho hk M1 g1 g2 (fun p a b => by rw [g2 p a b]; exact ab_FO_rng hwf hap a b) 5 0 0 (by omega) (by decide) (by omega) rfl

set_option maxRecDepth 20000 in
set_option maxHeartbeats 4000000 in
theorem lp_X6_left_4 (T : Int) (N : fw_F) (O : Int → Int) (L : fw_G) (hwf : ab_wf (N 0 2) (N 1) (md_G N) O T) (hap : ab_apok (N 6)) (o : Int) (ho : 0 ≤ o ∧ o + 4 ≤ 16) (hk : ∀ p, 0 ≤ p → p < 4 → 0 ≤ N 4 (o + p) ∧ N 4 (o + p) ≤ 20) (M : fw_F) (hM : ∀ k, ¬ k = 7 → ¬ k = 8 → M k = N k) (hF : ∀ p, 0 ≤ p → p < 4 → M 7 p = ab_FO (md_G N) O (N 6) T.toNat p) (hFr : ∀ p, 0 ≤ p → p < 4 → 0 ≤ M 7 p ∧ M 7 p ≤ 20) : ∀ (q : Nat) (s p : Int), N 0 2 - p < q → 0 ≤ p → p ≤ N 0 2 → s = ab_sm (fun p => max 0 (N 4 (o + p) - ab_FO (md_G N) O (N 6) T.toNat p)) p.toNat → fw_D mX6_left 9 [some (fw_r 0), some (fw_r 4), some (fw_i o), some (fw_i s), some (fw_i p)] [] M L (fun r M2 L2 => r = some (fw_i (ab_sm (fun p => max 0 (N 4 (o + p) - ab_FO (md_G N) O (N 6) T.toNat p)) (N 0 2).toNat)) ∧ L2 = L ∧ (∀ k, ¬ k = 7 → ¬ k = 8 → M2 k = N k)) := by
  intro q
  induction q with
  | zero => intro s p h0 h1 h2; omega
  | succ q ih =>
    intro s p h0 h1 h2 h3
    have hn := hwf.1
    have hn1 := hn.1
    have hn2 := hn.2.1
    have e0 := hM 0 (by decide) (by decide)
    have ec := hM 4 (by decide) (by decide)
    have hr := ab_sm_rng (f := (fun p => max 0 (N 4 (o + p) - ab_FO (md_G N) O (N 6) T.toNat p))) (a := 0) (b := 20) p.toNat (fun j a b => by have h8 := hk j a (by omega); have h7 := hFr j a (by omega); rw [hF j a (by omega)] at h7; omega)
    refine fw_iload dX6_left_9 rfl ?_
    refine fw_aload_n dX6_left_11 rfl rfl ?_
    refine fw_geti 2 rfl dX6_left_12 ff_6_7 ly1_0 ⟨by decide, by decide⟩ rfl ?_
    rw [e0]
    refine fw_icmp_ge 54 dX6_left_15 (by decide) (fun h15 => ?_) (fun h15 => ?_)
    · skip
      refine fw_iload_n dX6_left_54 rfl rfl ?_
      refine fw_iret dX6_left_55 ⟨rfl, rfl, rfl⟩ ?_
      exact ⟨by rw [h3, show p.toNat = (N 0 2).toNat by omega], rfl, hM⟩
    · skip
      have hkp := hk p h1 (by omega)
      have hfp := hFr p h1 (by omega)
      have hs := ab_sm_s (fun p => max 0 (N 4 (o + p) - ab_FO (md_G N) O (N 6) T.toNat p)) h1
      have hFp := hF p h1 (by omega)
      refine fw_aload_n dX6_left_18 rfl rfl ?_
      refine fw_iload_n dX6_left_19 rfl rfl ?_
      refine fw_iload dX6_left_20 rfl ?_
      refine fw_iadd dX6_left_22 ⟨by omega, by omega⟩ ?_
      refine fw_iaload dX6_left_23 ly1_4 ⟨by decide, by decide⟩ ⟨by omega, by omega⟩ ?_
      rw [ec]
      refine fw_aload_n dX6_left_24 rfl rfl ?_
      refine fw_getr 11 7 rfl dX6_left_25 ff_6_33 ly1_0 ⟨by decide, by decide⟩ rfl rfl (by decide) ?_
      refine fw_iload dX6_left_28 rfl ?_
      refine fw_iaload dX6_left_30 ly1_7 ⟨by decide, by decide⟩ ⟨by omega, by omega⟩ ?_
      refine fw_isub dX6_left_31 ⟨by omega, by omega⟩ ?_
      refine fw_istore (ls2 := [_, _, _, _, _, _]) dX6_left_32 (by decide) rfl ?_
      refine fw_iload_n dX6_left_34 rfl rfl ?_
      refine fw_iload dX6_left_35 rfl ?_
      refine fw_if_le 45 dX6_left_37 (by decide) (fun h37 => ?_) (fun h37 => ?_)
      · skip
        refine fw_iconst dX6_left_45 ⟨by decide, by decide⟩ ?_
        refine fw_iadd dX6_left_46 ⟨by omega, by omega⟩ ?_
        refine fw_istore_n (ls2 := [_, _, _, _, _, _]) dX6_left_47 rfl (by decide) rfl ?_
        refine fw_iinc (ls2 := [_, _, _, _, _, _]) dX6_left_48 rfl ⟨by omega, by omega⟩ (by decide) rfl ?_
        refine fw_goto 9 dX6_left_51 (by decide) ?_
        refine fw_take 5 ?_
        rw [hFp] at h37
        exact ih _ (p + 1) (by omega) (by omega) (by omega) (by rw [hs, h3]; omega)
      · skip
        refine fw_iload dX6_left_40 rfl ?_
        refine fw_goto 46 dX6_left_42 (by decide) ?_
        refine fw_iadd dX6_left_46 ⟨by omega, by omega⟩ ?_
        refine fw_istore_n (ls2 := [_, _, _, _, _, _]) dX6_left_47 rfl (by decide) rfl ?_
        refine fw_iinc (ls2 := [_, _, _, _, _, _]) dX6_left_48 rfl ⟨by omega, by omega⟩ (by decide) rfl ?_
        refine fw_goto 9 dX6_left_51 (by decide) ?_
        refine fw_take 5 ?_
        rw [hFp] at h37
        exact ih _ (p + 1) (by omega) (by omega) (by omega) (by rw [hs, h3, hFp]; omega)

set_option maxRecDepth 20000 in
set_option maxHeartbeats 4000000 in
theorem sp_X6_left_4 (T : Int) (N : fw_F) (O : Int → Int) (L : fw_G) (hwf : ab_wf (N 0 2) (N 1) (md_G N) O T) (hap : ab_apok (N 6)) (o : Int) (ho : 0 ≤ o ∧ o + 4 ≤ 16) (hk : ∀ p, 0 ≤ p → p < 4 → 0 ≤ N 4 (o + p) ∧ N 4 (o + p) ≤ 20) : fw_SD mX6_left [fw_r 0, fw_r 4, fw_i o] N L (fun r M2 L2 => r = some (fw_i (ab_sm (fun p => max 0 (N 4 (o + p) - ab_FO (md_G N) O (N 6) T.toNat p)) (N 0 2).toNat)) ∧ L2 = L ∧ (∀ k, ¬ k = 7 → ¬ k = 8 → M2 k = N k)) := by
  refine fw_SP_of pl_X6_left (ls := [_, _, _]) rfl (Nat.le_of_ble_eq_true rfl) fun hA hM => ?_
  refine fw_aload_n dX6_left_0 rfl rfl ?_
  refine fw_cV mX6_leaves [] dX6_left_1 mv_X6_leaves lk_6_153 ⟨⟨by decide, by decide⟩, rfl, rfl, rfl, by decide, by decide⟩ ly1_0 ⟨by decide, by decide⟩ rfl rfl (Nat.le_of_ble_eq_true rfl) (sp_X6_leaves T N O L hwf hap) (fun r M1 L1 hp hM1 => ?_)
  obtain ⟨rfl, rfl, g1, g2⟩ := hp
  refine fw_iconst dX6_left_4 ⟨by decide, by decide⟩ ?_
  refine fw_istore_n (ls2 := [_, _, _, _]) dX6_left_5 rfl (by decide) rfl ?_
  refine fw_iconst dX6_left_6 ⟨by decide, by decide⟩ ?_
  refine fw_istore (ls2 := [_, _, _, _, _]) dX6_left_7 (by decide) rfl ?_
  have hn := hwf.1
  have hn1 := hn.1
  have hn2 := hn.2.1
  exact lp_X6_left_4 T N O _ hwf hap o ho hk M1 g1 g2 (fun p a b => by rw [g2 p a b]; exact ab_FO_rng hwf hap a b) 5 0 0 (by omega) (by decide) (by omega) rfl

set_option maxRecDepth 20000 in
set_option maxHeartbeats 4000000 in
theorem tl_X6_makes (m wh t into nm kd : Int) (N : fw_F) (L : fw_G) (hm : 0 ≤ m ∧ m < 4) (hn : 1 ≤ N 0 2 ∧ N 0 2 ≤ 4) (hf : 0 ≤ N 1 m ∧ N 1 m < 20) (hkn : ∀ p, 0 ≤ p → p < 4 → 0 ≤ N 4 (4 * m + p) ∧ N 4 (4 * m + p) ≤ 20 ∧ (p = m → N 4 (4 * m + p) = N 1 m)) (hhg : ∀ p, 0 ≤ p → p < 4 → 0 < N 4 (4 * m + p) → 0 ≤ md_G N (20 * p + (N 4 (4 * m + p) - 1)) 4 ∧ md_G N (20 * p + (N 4 (4 * m + p) - 1)) 4 ≤ 80) (h p : Int) (M : fw_F) : (∀ k, ¬ k = 2 → M k = N k) → (∀ z, z < 12 * (20 * m + N 1 m) ∨ 12 * (20 * m + N 1 m) + 12 ≤ z → M 2 z = N 2 z) → h = ab_hh (fun p => N 4 (4 * m + p)) (fun p => md_G N (20 * p + (N 4 (4 * m + p) - 1)) 4) 4 - 1 → (∀ p, 0 ≤ p → p < N 0 2 → M 2 (12 * (20 * m + N 1 m) + 6 + p) = N 4 (4 * m + p)) → (∀ p, N 0 2 ≤ p → p < 4 → M 2 (12 * (20 * m + N 1 m) + 6 + p) = 0) → fw_D mX6_makes 140 [some (fw_r 0), some (fw_i m), some (fw_i wh), some (fw_i t), some (fw_i into), some (fw_i nm), some (fw_i kd), some (fw_i (N 1 m)), some (fw_i (12 * (20 * m + N 1 m))), some (fw_i h), some (fw_i p)] [] M L (fun r M2 L2 => r = some (fw_i (N 1 m)) ∧ L2 = L ∧ (∀ k, ¬ k = 1 → ¬ k = 2 → ¬ k = 4 → M2 k = N k) ∧ (∀ p, M2 1 p = if p = m then N 1 m + 1 else N 1 p) ∧ (∀ z, M2 4 z = if z = 4 * m + m then N 1 m + 1 else N 4 z) ∧ (∀ z, z < 12 * (20 * m + N 1 m) ∨ 12 * (20 * m + N 1 m) + 12 ≤ z → M2 2 z = N 2 z) ∧ (M2 2 (12 * (20 * m + N 1 m)) = wh ∧ M2 2 (12 * (20 * m + N 1 m) + 1) = t ∧ M2 2 (12 * (20 * m + N 1 m) + 2) = into ∧ M2 2 (12 * (20 * m + N 1 m) + 3) = nm ∧ M2 2 (12 * (20 * m + N 1 m) + 4) = ab_hh (fun p => N 4 (4 * m + p)) (fun p => md_G N (20 * p + (N 4 (4 * m + p) - 1)) 4) 4 ∧ M2 2 (12 * (20 * m + N 1 m) + 5) = N 0 4 ∧ M2 2 (12 * (20 * m + N 1 m) + 10) = kd) ∧ (∀ p, 0 ≤ p → p < N 0 2 → M2 2 (12 * (20 * m + N 1 m) + 6 + p) = N 4 (4 * m + p)) ∧ (∀ p, N 0 2 ≤ p → p < 4 → M2 2 (12 * (20 * m + N 1 m) + 6 + p) = 0)) := by
  intro hk hz h5 h6 h7
  have hr := ab_hh_rng (kn := (fun p => N 4 (4 * m + p))) (hg := (fun p => md_G N (20 * p + (N 4 (4 * m + p) - 1)) 4)) (B := 80) (by decide) hhg 4 (by decide)
  refine fw_aload_n dX6_makes_140 rfl rfl ?_
  refine fw_getr 6 2 rfl dX6_makes_141 ff_6_17 ly1_0 ⟨by decide, by decide⟩ rfl rfl (by decide) ?_
  refine fw_iload dX6_makes_144 rfl ?_
  refine fw_iload_n dX6_makes_146 rfl rfl ?_
  refine fw_iastore dX6_makes_147 ly1_2 (by decide) ⟨by decide, by decide⟩ ⟨by omega, by omega⟩ ?_
  refine fw_aload_n dX6_makes_148 rfl rfl ?_
  refine fw_getr 6 2 rfl dX6_makes_149 ff_6_17 ly1_0 ⟨by decide, by decide⟩ rfl rfl (by decide) ?_
  refine fw_iload dX6_makes_152 rfl ?_
  refine fw_iconst dX6_makes_154 ⟨by decide, by decide⟩ ?_
  refine fw_iadd dX6_makes_155 ⟨by omega, by omega⟩ ?_
  refine fw_iload_n dX6_makes_156 rfl rfl ?_
  refine fw_iastore dX6_makes_157 ly1_2 (by decide) ⟨by decide, by decide⟩ ⟨by omega, by omega⟩ ?_
  refine fw_aload_n dX6_makes_158 rfl rfl ?_
  refine fw_getr 6 2 rfl dX6_makes_159 ff_6_17 ly1_0 ⟨by decide, by decide⟩ rfl rfl (by decide) ?_
  refine fw_iload dX6_makes_162 rfl ?_
  refine fw_iconst dX6_makes_164 ⟨by decide, by decide⟩ ?_
  refine fw_iadd dX6_makes_165 ⟨by omega, by omega⟩ ?_
  refine fw_iload dX6_makes_166 rfl ?_
  refine fw_iastore dX6_makes_168 ly1_2 (by decide) ⟨by decide, by decide⟩ ⟨by omega, by omega⟩ ?_
  refine fw_aload_n dX6_makes_169 rfl rfl ?_
  refine fw_getr 6 2 rfl dX6_makes_170 ff_6_17 ly1_0 ⟨by decide, by decide⟩ rfl rfl (by decide) ?_
  refine fw_iload dX6_makes_173 rfl ?_
  refine fw_iconst dX6_makes_175 ⟨by decide, by decide⟩ ?_
  refine fw_iadd dX6_makes_176 ⟨by omega, by omega⟩ ?_
  refine fw_iload dX6_makes_177 rfl ?_
  refine fw_iastore dX6_makes_179 ly1_2 (by decide) ⟨by decide, by decide⟩ ⟨by omega, by omega⟩ ?_
  refine fw_aload_n dX6_makes_180 rfl rfl ?_
  refine fw_getr 6 2 rfl dX6_makes_181 ff_6_17 ly1_0 ⟨by decide, by decide⟩ rfl rfl (by decide) ?_
  refine fw_iload dX6_makes_184 rfl ?_
  refine fw_iconst dX6_makes_186 ⟨by decide, by decide⟩ ?_
  refine fw_iadd dX6_makes_187 ⟨by omega, by omega⟩ ?_
  refine fw_iload dX6_makes_188 rfl ?_
  refine fw_iconst dX6_makes_190 ⟨by decide, by decide⟩ ?_
  refine fw_iadd dX6_makes_191 ⟨by omega, by omega⟩ ?_
  refine fw_iastore dX6_makes_192 ly1_2 (by decide) ⟨by decide, by decide⟩ ⟨by omega, by omega⟩ ?_
  refine fw_aload_n dX6_makes_193 rfl rfl ?_
  refine fw_getr 6 2 rfl dX6_makes_194 ff_6_17 ly1_0 ⟨by decide, by decide⟩ rfl rfl (by decide) ?_
  refine fw_iload dX6_makes_197 rfl ?_
  refine fw_iconst dX6_makes_199 ⟨by decide, by decide⟩ ?_
  refine fw_iadd dX6_makes_200 ⟨by omega, by omega⟩ ?_
  refine fw_aload_n dX6_makes_201 rfl rfl ?_
  refine fw_geti 4 rfl dX6_makes_202 ff_6_109 ly1_0 ⟨by decide, by decide⟩ rfl ?_
  simp (disch := decide) only [fw_updne]
  refine fw_iastore dX6_makes_205 ly1_2 (by decide) ⟨by decide, by decide⟩ ⟨by omega, by omega⟩ ?_
  refine fw_aload_n dX6_makes_206 rfl rfl ?_
  refine fw_getr 6 2 rfl dX6_makes_207 ff_6_17 ly1_0 ⟨by decide, by decide⟩ rfl rfl (by decide) ?_
  refine fw_iload dX6_makes_210 rfl ?_
  refine fw_bipush dX6_makes_212 ⟨by decide, by decide⟩ (by decide) ?_
  refine fw_iadd dX6_makes_214 ⟨by omega, by omega⟩ ?_
  refine fw_iload dX6_makes_215 rfl ?_
  refine fw_iastore dX6_makes_217 ly1_2 (by decide) ⟨by decide, by decide⟩ ⟨by omega, by omega⟩ ?_
  refine fw_aload_n dX6_makes_218 rfl rfl ?_
  refine fw_getr 5 1 rfl dX6_makes_219 ff_6_13 ly1_0 ⟨by decide, by decide⟩ rfl rfl (by decide) ?_
  refine fw_iload_n dX6_makes_222 rfl rfl ?_
  refine fw_dup2 dX6_makes_223 rfl rfl ?_
  refine fw_iaload dX6_makes_224 ly1_1 ⟨by decide, by decide⟩ ⟨by omega, by omega⟩ ?_
  simp (disch := decide) only [fw_updne]
  refine fw_iconst dX6_makes_225 ⟨by decide, by decide⟩ ?_
  refine fw_iadd dX6_makes_226 (by rw [hk 1 (by decide)]; exact ⟨by omega, by omega⟩) ?_
  refine fw_iastore dX6_makes_227 ly1_1 (by decide) ⟨by decide, by decide⟩ ⟨by omega, by omega⟩ ?_
  refine fw_aload_n dX6_makes_228 rfl rfl ?_
  refine fw_getr 8 4 rfl dX6_makes_229 ff_6_24 ly1_0 ⟨by decide, by decide⟩ rfl rfl (by decide) ?_
  refine fw_iconst dX6_makes_232 ⟨by decide, by decide⟩ ?_
  refine fw_iload_n dX6_makes_233 rfl rfl ?_
  refine fw_imul dX6_makes_234 ⟨by omega, by omega⟩ ?_
  refine fw_iload_n dX6_makes_235 rfl rfl ?_
  refine fw_iadd dX6_makes_236 ⟨by omega, by omega⟩ ?_
  refine fw_aload_n dX6_makes_237 rfl rfl ?_
  refine fw_getr 5 1 rfl dX6_makes_238 ff_6_13 ly1_0 ⟨by decide, by decide⟩ rfl rfl (by decide) ?_
  refine fw_iload_n dX6_makes_241 rfl rfl ?_
  refine fw_iaload dX6_makes_242 ly1_1 ⟨by decide, by decide⟩ ⟨by omega, by omega⟩ ?_
  refine fw_iastore dX6_makes_243 ly1_4 (by decide) ⟨by decide, by decide⟩ ⟨by omega, by omega⟩ ?_
  refine fw_iload dX6_makes_244 rfl ?_
  refine fw_iret dX6_makes_246 ⟨rfl, rfl, rfl⟩ ?_
  refine ⟨rfl, rfl, fun k a b c => ?_, fun p => ?_, fun z => ?_, fun z a => ?_, ?_, fun p a b => ?_, fun p a b => ?_⟩
  · rw [fw_updne c, fw_updne a]; simp only [fw_updne b]; exact hk k b
  · rw [fw_updne (by decide), fw_updeq]; simp (disch := decide) only [fw_updne]; rw [hk 1 (by decide)]
  · rw [fw_updeq, fw_updj]; simp (disch := decide) only [fw_updne]; rw [hk 1 (by decide), hk 4 (by decide)]
  · simp (disch := omega) only [fw_updne, fw_updjn]; exact hz z a
  · simp (disch := omega) only [fw_updne, fw_updjn, fw_updj]; exact ⟨trivial, trivial, trivial, trivial, by rw [h5]; omega, by rw [hk 0 (by decide)], trivial⟩
  · simp (disch := omega) only [fw_updne, fw_updjn, fw_updj]; exact h6 p a b
  · simp (disch := omega) only [fw_updne, fw_updjn, fw_updj]; exact h7 p a b

set_option maxRecDepth 20000 in
set_option maxHeartbeats 4000000 in
theorem l2_X6_makes (m wh t into nm kd : Int) (N : fw_F) (L : fw_G) (hm : 0 ≤ m ∧ m < 4) (hn : 1 ≤ N 0 2 ∧ N 0 2 ≤ 4) (hf : 0 ≤ N 1 m ∧ N 1 m < 20) (hkn : ∀ p, 0 ≤ p → p < 4 → 0 ≤ N 4 (4 * m + p) ∧ N 4 (4 * m + p) ≤ 20 ∧ (p = m → N 4 (4 * m + p) = N 1 m)) (hhg : ∀ p, 0 ≤ p → p < 4 → 0 < N 4 (4 * m + p) → 0 ≤ md_G N (20 * p + (N 4 (4 * m + p) - 1)) 4 ∧ md_G N (20 * p + (N 4 (4 * m + p) - 1)) 4 ≤ 80) (h : Int) : ∀ (q : Nat) (p : Int) (M : fw_F), 4 - p < q → N 0 2 ≤ p → p ≤ 4 → (∀ k, ¬ k = 2 → M k = N k) → (∀ z, z < 12 * (20 * m + N 1 m) ∨ 12 * (20 * m + N 1 m) + 12 ≤ z → M 2 z = N 2 z) → h = ab_hh (fun p => N 4 (4 * m + p)) (fun p => md_G N (20 * p + (N 4 (4 * m + p) - 1)) 4) 4 - 1 → (∀ u, 0 ≤ u → u < N 0 2 → M 2 (12 * (20 * m + N 1 m) + 6 + u) = N 4 (4 * m + u)) → (∀ u, N 0 2 ≤ u → u < p → M 2 (12 * (20 * m + N 1 m) + 6 + u) = 0) → fw_D mX6_makes 114 [some (fw_r 0), some (fw_i m), some (fw_i wh), some (fw_i t), some (fw_i into), some (fw_i nm), some (fw_i kd), some (fw_i (N 1 m)), some (fw_i (12 * (20 * m + N 1 m))), some (fw_i h), some (fw_i p)] [] M L (fun r M2 L2 => r = some (fw_i (N 1 m)) ∧ L2 = L ∧ (∀ k, ¬ k = 1 → ¬ k = 2 → ¬ k = 4 → M2 k = N k) ∧ (∀ p, M2 1 p = if p = m then N 1 m + 1 else N 1 p) ∧ (∀ z, M2 4 z = if z = 4 * m + m then N 1 m + 1 else N 4 z) ∧ (∀ z, z < 12 * (20 * m + N 1 m) ∨ 12 * (20 * m + N 1 m) + 12 ≤ z → M2 2 z = N 2 z) ∧ (M2 2 (12 * (20 * m + N 1 m)) = wh ∧ M2 2 (12 * (20 * m + N 1 m) + 1) = t ∧ M2 2 (12 * (20 * m + N 1 m) + 2) = into ∧ M2 2 (12 * (20 * m + N 1 m) + 3) = nm ∧ M2 2 (12 * (20 * m + N 1 m) + 4) = ab_hh (fun p => N 4 (4 * m + p)) (fun p => md_G N (20 * p + (N 4 (4 * m + p) - 1)) 4) 4 ∧ M2 2 (12 * (20 * m + N 1 m) + 5) = N 0 4 ∧ M2 2 (12 * (20 * m + N 1 m) + 10) = kd) ∧ (∀ p, 0 ≤ p → p < N 0 2 → M2 2 (12 * (20 * m + N 1 m) + 6 + p) = N 4 (4 * m + p)) ∧ (∀ p, N 0 2 ≤ p → p < 4 → M2 2 (12 * (20 * m + N 1 m) + 6 + p) = 0)) := by
  intro q
  induction q with
  | zero => intro p M h0 h1 h2; omega
  | succ q ih =>
    intro p M h0 h1 h2 hk hz h5 h6 h7
    refine fw_iload dX6_makes_114 rfl ?_
    refine fw_iconst dX6_makes_116 ⟨by decide, by decide⟩ ?_
    refine fw_icmp_ge 140 dX6_makes_117 (by decide) (fun h117 => ?_) (fun h117 => ?_)
    · skip
      exact tl_X6_makes m wh t into nm kd N L hm hn hf hkn hhg h p M hk hz h5 h6 (fun u a b => h7 u a (by omega))
    · skip
      refine fw_aload_n dX6_makes_120 rfl rfl ?_
      refine fw_getr 6 2 rfl dX6_makes_121 ff_6_17 ly1_0 ⟨by decide, by decide⟩ rfl rfl (by decide) ?_
      refine fw_iload dX6_makes_124 rfl ?_
      refine fw_bipush dX6_makes_126 ⟨by decide, by decide⟩ (by decide) ?_
      refine fw_iadd dX6_makes_128 ⟨by omega, by omega⟩ ?_
      refine fw_iload dX6_makes_129 rfl ?_
      refine fw_iadd dX6_makes_131 ⟨by omega, by omega⟩ ?_
      refine fw_iconst dX6_makes_132 ⟨by decide, by decide⟩ ?_
      refine fw_iastore dX6_makes_133 ly1_2 (by decide) ⟨by decide, by decide⟩ ⟨by omega, by omega⟩ ?_
      refine fw_iinc (ls2 := [_, _, _, _, _, _, _, _, _, _, _]) dX6_makes_134 rfl ⟨by omega, by omega⟩ (by decide) rfl ?_
      refine fw_goto 114 dX6_makes_137 (by decide) ?_
      refine ih (p + 1) _ (by omega) (by omega) (by omega) (fun k a => (fw_updne a).trans (hk k a)) (fun z a => ?_) h5 (fun u a b => ?_) (fun u a b => ?_)
      · rw [fw_updjn (by omega)]; exact hz z a
      · rw [fw_updjn (by omega)]; exact h6 u a b
      · rw [fw_updeq]; split
        · rfl
        · exact h7 u a (by omega)

theorem ab_hh_0 {kn hg : Int → Int} {n : Int} (h : ∀ p, n ≤ p → p < 4 → kn p ≤ 0) (hn : 0 ≤ n) : ∀ k : Nat, n ≤ k → k ≤ 4 → ab_hh kn hg k = ab_hh kn hg n.toNat := by
  intro k
  induction k with
  | zero => intro a _; rw [show n.toNat = 0 by omega]
  | succ k ih =>
    intro a b
    rcases (show n = ((k + 1 : Nat) : Int) ∨ n ≤ k by omega) with c | c
    · rw [show n.toNat = k + 1 by omega]
    · simp only [ab_hh]
      rw [if_neg (by have := h k (by omega) (by omega); omega)]
      exact ih c (by omega)

set_option maxRecDepth 20000 in
set_option maxHeartbeats 4000000 in
theorem lp_X6_makes (m wh t into nm kd : Int) (N : fw_F) (L : fw_G) (hm : 0 ≤ m ∧ m < 4) (hn : 1 ≤ N 0 2 ∧ N 0 2 ≤ 4) (hf : 0 ≤ N 1 m ∧ N 1 m < 20) (hkn : ∀ p, 0 ≤ p → p < 4 → 0 ≤ N 4 (4 * m + p) ∧ N 4 (4 * m + p) ≤ 20 ∧ (p = m → N 4 (4 * m + p) = N 1 m)) (hhg : ∀ p, 0 ≤ p → p < 4 → 0 < N 4 (4 * m + p) → 0 ≤ md_G N (20 * p + (N 4 (4 * m + p) - 1)) 4 ∧ md_G N (20 * p + (N 4 (4 * m + p) - 1)) 4 ≤ 80) (hk0 : ∀ p, N 0 2 ≤ p → p < 4 → N 4 (4 * m + p) ≤ 0) : ∀ (q : Nat) (p h : Int) (M : fw_F), N 0 2 - p < q → 0 ≤ p → p ≤ N 0 2 → (∀ k, ¬ k = 2 → M k = N k) → (∀ z, z < 12 * (20 * m + N 1 m) ∨ 12 * (20 * m + N 1 m) + 12 ≤ z → M 2 z = N 2 z) → h = ab_hh (fun p => N 4 (4 * m + p)) (fun p => md_G N (20 * p + (N 4 (4 * m + p) - 1)) 4) p.toNat - 1 → (∀ u, 0 ≤ u → u < p → M 2 (12 * (20 * m + N 1 m) + 6 + u) = N 4 (4 * m + u)) → fw_D mX6_makes 22 [some (fw_r 0), some (fw_i m), some (fw_i wh), some (fw_i t), some (fw_i into), some (fw_i nm), some (fw_i kd), some (fw_i (N 1 m)), some (fw_i (12 * (20 * m + N 1 m))), some (fw_i h), some (fw_i p)] [] M L (fun r M2 L2 => r = some (fw_i (N 1 m)) ∧ L2 = L ∧ (∀ k, ¬ k = 1 → ¬ k = 2 → ¬ k = 4 → M2 k = N k) ∧ (∀ p, M2 1 p = if p = m then N 1 m + 1 else N 1 p) ∧ (∀ z, M2 4 z = if z = 4 * m + m then N 1 m + 1 else N 4 z) ∧ (∀ z, z < 12 * (20 * m + N 1 m) ∨ 12 * (20 * m + N 1 m) + 12 ≤ z → M2 2 z = N 2 z) ∧ (M2 2 (12 * (20 * m + N 1 m)) = wh ∧ M2 2 (12 * (20 * m + N 1 m) + 1) = t ∧ M2 2 (12 * (20 * m + N 1 m) + 2) = into ∧ M2 2 (12 * (20 * m + N 1 m) + 3) = nm ∧ M2 2 (12 * (20 * m + N 1 m) + 4) = ab_hh (fun p => N 4 (4 * m + p)) (fun p => md_G N (20 * p + (N 4 (4 * m + p) - 1)) 4) 4 ∧ M2 2 (12 * (20 * m + N 1 m) + 5) = N 0 4 ∧ M2 2 (12 * (20 * m + N 1 m) + 10) = kd) ∧ (∀ p, 0 ≤ p → p < N 0 2 → M2 2 (12 * (20 * m + N 1 m) + 6 + p) = N 4 (4 * m + p)) ∧ (∀ p, N 0 2 ≤ p → p < 4 → M2 2 (12 * (20 * m + N 1 m) + 6 + p) = 0)) := by
  intro q
  induction q with
  | zero => intro p h M h0 h1 h2; omega
  | succ q ih =>
    intro p h M h0 h1 h2 hk hz h5 h6
    have e0 := hk 0 (by decide)
    have e4 := hk 4 (by decide)
    have hr := ab_hh_rng (kn := (fun p => N 4 (4 * m + p))) (hg := (fun p => md_G N (20 * p + (N 4 (4 * m + p) - 1)) 4)) (B := 80) (by decide) hhg p.toNat (by omega)
    refine fw_iload dX6_makes_22 rfl ?_
    refine fw_aload_n dX6_makes_24 rfl rfl ?_
    refine fw_geti 2 rfl dX6_makes_25 ff_6_7 ly1_0 ⟨by decide, by decide⟩ rfl ?_
    rw [e0]
    refine fw_icmp_ge 108 dX6_makes_28 (by decide) (fun h28 => ?_) (fun h28 => ?_)
    · skip
      refine fw_aload_n dX6_makes_108 rfl rfl ?_
      refine fw_geti 2 rfl dX6_makes_109 ff_6_7 ly1_0 ⟨by decide, by decide⟩ rfl ?_
      refine fw_istore (ls2 := [_, _, _, _, _, _, _, _, _, _, _]) dX6_makes_112 (by decide) rfl ?_
      rw [e0]
      rw [show p = N 0 2 by omega] at h5 h6
      have h4 := ab_hh_0 (kn := (fun p => N 4 (4 * m + p))) (hg := (fun p => md_G N (20 * p + (N 4 (4 * m + p) - 1)) 4)) (n := N 0 2) hk0 (by omega) 4 (by omega) (by decide)
      exact l2_X6_makes m wh t into nm kd N L hm hn hf hkn hhg h 5 (N 0 2) M (by omega) (by omega) (by omega) hk hz (by rw [h4]; exact h5) h6 (fun u a b => by omega)
    · skip
      have hknp := hkn p h1 (by omega)
      have hs : ab_hh (fun p => N 4 (4 * m + p)) (fun p => md_G N (20 * p + (N 4 (4 * m + p) - 1)) 4) (p + 1).toNat = if 0 < N 4 (4 * m + p) then max (ab_hh (fun p => N 4 (4 * m + p)) (fun p => md_G N (20 * p + (N 4 (4 * m + p) - 1)) 4) p.toNat) (1 + md_G N (20 * p + (N 4 (4 * m + p) - 1)) 4) else ab_hh (fun p => N 4 (4 * m + p)) (fun p => md_G N (20 * p + (N 4 (4 * m + p) - 1)) 4) p.toNat := by
        rw [show (p + 1).toNat = p.toNat + 1 by omega]
        have hpp : ((p.toNat : Nat) : Int) = p := by omega
        simp only [ab_hh, hpp]
      refine fw_aload_n dX6_makes_31 rfl rfl ?_
      refine fw_getr 8 4 rfl dX6_makes_32 ff_6_24 ly1_0 ⟨by decide, by decide⟩ rfl rfl (by decide) ?_
      refine fw_iconst dX6_makes_35 ⟨by decide, by decide⟩ ?_
      refine fw_iload_n dX6_makes_36 rfl rfl ?_
      refine fw_imul dX6_makes_37 ⟨by omega, by omega⟩ ?_
      refine fw_iload dX6_makes_38 rfl ?_
      refine fw_iadd dX6_makes_40 ⟨by omega, by omega⟩ ?_
      refine fw_iaload dX6_makes_41 ly1_4 ⟨by decide, by decide⟩ ⟨by omega, by omega⟩ ?_
      rw [e4]
      refine fw_istore (ls2 := [_, _, _, _, _, _, _, _, _, _, _, _]) dX6_makes_42 (by decide) rfl ?_
      refine fw_aload_n dX6_makes_44 rfl rfl ?_
      refine fw_getr 6 2 rfl dX6_makes_45 ff_6_17 ly1_0 ⟨by decide, by decide⟩ rfl rfl (by decide) ?_
      refine fw_iload dX6_makes_48 rfl ?_
      refine fw_bipush dX6_makes_50 ⟨by decide, by decide⟩ (by decide) ?_
      refine fw_iadd dX6_makes_52 ⟨by omega, by omega⟩ ?_
      refine fw_iload dX6_makes_53 rfl ?_
      refine fw_iadd dX6_makes_55 ⟨by omega, by omega⟩ ?_
      refine fw_iload dX6_makes_56 rfl ?_
      refine fw_iastore dX6_makes_58 ly1_2 (by decide) ⟨by decide, by decide⟩ ⟨by omega, by omega⟩ ?_
      refine fw_iload dX6_makes_59 rfl ?_
      refine fw_if_ne 68 dX6_makes_61 (by decide) (fun h61 => ?_) (fun h61 => ?_)
      · skip
        have hhp := hhg p h1 (by omega) (by omega)
        have hne : 12 * (20 * p + (N 4 (4 * m + p) - 1)) + 4 < 12 * (20 * m + N 1 m) ∨ 12 * (20 * m + N 1 m) + 12 ≤ 12 * (20 * p + (N 4 (4 * m + p) - 1)) + 4 := by
          by_cases hpm : p = m
          · have := hknp.2.2 hpm; subst hpm; omega
          · rcases (show p < m ∨ m < p by omega) with c | c <;> omega
        refine fw_aload_n dX6_makes_68 rfl rfl ?_
        refine fw_getr 6 2 rfl dX6_makes_69 ff_6_17 ly1_0 ⟨by decide, by decide⟩ rfl rfl (by decide) ?_
        refine fw_iload dX6_makes_72 rfl ?_
        refine fw_iload dX6_makes_74 rfl ?_
        refine fw_iconst dX6_makes_76 ⟨by decide, by decide⟩ ?_
        refine fw_isub dX6_makes_77 ⟨by omega, by omega⟩ ?_
        refine fw_pS mX6_changeAt [_, _] dX6_makes_78 mv_X6_changeAt lk_6_119 ⟨⟨by decide, by decide⟩, rfl, rfl, rfl, by decide, by decide⟩ rfl rfl (Nat.le_of_ble_eq_true rfl) (sp_X6_changeAt _ _ _ _ (by omega) (by omega)) ?_
        refine fw_iconst dX6_makes_81 ⟨by decide, by decide⟩ ?_
        refine fw_iadd dX6_makes_82 ⟨by omega, by omega⟩ ?_
        refine fw_iaload dX6_makes_83 ly1_2 ⟨by decide, by decide⟩ ⟨by omega, by omega⟩ ?_
        try rw [fw_updjn (by omega), hz _ hne, md_Gv N]
        refine fw_istore (ls2 := [_, _, _, _, _, _, _, _, _, _, _, _, _]) dX6_makes_84 (by decide) rfl ?_
        refine fw_iload dX6_makes_86 rfl ?_
        refine fw_iload dX6_makes_88 rfl ?_
        refine fw_icmp_le 98 dX6_makes_90 (by decide) (fun h90 => ?_) (fun h90 => ?_)
        · skip
          refine fw_iload dX6_makes_98 rfl ?_
          refine fw_istore (ls2 := [_, _, _, _, _, _, _, _, _, _, _, _, _]) dX6_makes_100 (by decide) rfl ?_
          refine fw_iinc (ls2 := [_, _, _, _, _, _, _, _, _, _, _, _, _]) dX6_makes_102 rfl ⟨by omega, by omega⟩ (by decide) rfl ?_
          refine fw_goto 22 dX6_makes_105 (by decide) ?_
          refine fw_take 11 ?_
          refine ih (p + 1) _ _ (by omega) (by omega) (by omega) (fun k a => (fw_updne a).trans (hk k a)) (fun z a => ?_) ?_ (fun u a b => ?_)
          · rw [fw_updjn (by omega)]; exact hz z a
          · rw [hs, if_pos (by omega)]; omega
          · rw [fw_updeq]
            by_cases hu : u = p
            · rw [if_pos (by omega), hu]
            · rw [if_neg (by omega)]; exact h6 u a (by omega)
        · skip
          refine fw_iload dX6_makes_93 rfl ?_
          refine fw_goto 100 dX6_makes_95 (by decide) ?_
          refine fw_istore (ls2 := [_, _, _, _, _, _, _, _, _, _, _, _, _]) dX6_makes_100 (by decide) rfl ?_
          refine fw_iinc (ls2 := [_, _, _, _, _, _, _, _, _, _, _, _, _]) dX6_makes_102 rfl ⟨by omega, by omega⟩ (by decide) rfl ?_
          refine fw_goto 22 dX6_makes_105 (by decide) ?_
          refine fw_take 11 ?_
          refine ih (p + 1) _ _ (by omega) (by omega) (by omega) (fun k a => (fw_updne a).trans (hk k a)) (fun z a => ?_) ?_ (fun u a b => ?_)
          · rw [fw_updjn (by omega)]; exact hz z a
          · rw [hs, if_pos (by omega)]; omega
          · rw [fw_updeq]
            by_cases hu : u = p
            · rw [if_pos (by omega), hu]
            · rw [if_neg (by omega)]; exact h6 u a (by omega)
      · skip
        refine fw_iconst dX6_makes_64 ⟨by decide, by decide⟩ ?_
        refine fw_goto 84 dX6_makes_65 (by decide) ?_
        try rw [fw_updjn (by omega), hz _ hne, md_Gv N]
        refine fw_istore (ls2 := [_, _, _, _, _, _, _, _, _, _, _, _, _]) dX6_makes_84 (by decide) rfl ?_
        refine fw_iload dX6_makes_86 rfl ?_
        refine fw_iload dX6_makes_88 rfl ?_
        refine fw_icmp_le 98 dX6_makes_90 (by decide) (fun h90 => ?_) (fun h90 => ?_)
        · skip
          refine fw_iload dX6_makes_98 rfl ?_
          refine fw_istore (ls2 := [_, _, _, _, _, _, _, _, _, _, _, _, _]) dX6_makes_100 (by decide) rfl ?_
          refine fw_iinc (ls2 := [_, _, _, _, _, _, _, _, _, _, _, _, _]) dX6_makes_102 rfl ⟨by omega, by omega⟩ (by decide) rfl ?_
          refine fw_goto 22 dX6_makes_105 (by decide) ?_
          refine fw_take 11 ?_
          refine ih (p + 1) _ _ (by omega) (by omega) (by omega) (fun k a => (fw_updne a).trans (hk k a)) (fun z a => ?_) ?_ (fun u a b => ?_)
          · rw [fw_updjn (by omega)]; exact hz z a
          · rw [hs, if_neg (by omega)]; omega
          · rw [fw_updeq]
            by_cases hu : u = p
            · rw [if_pos (by omega), hu]
            · rw [if_neg (by omega)]; exact h6 u a (by omega)
        · skip
          refine fw_iload dX6_makes_93 rfl ?_
          refine fw_goto 100 dX6_makes_95 (by decide) ?_
          refine fw_istore (ls2 := [_, _, _, _, _, _, _, _, _, _, _, _, _]) dX6_makes_100 (by decide) rfl ?_
          refine fw_iinc (ls2 := [_, _, _, _, _, _, _, _, _, _, _, _, _]) dX6_makes_102 rfl ⟨by omega, by omega⟩ (by decide) rfl ?_
          refine fw_goto 22 dX6_makes_105 (by decide) ?_
          refine fw_take 11 ?_
          refine ih (p + 1) _ _ (by omega) (by omega) (by omega) (fun k a => (fw_updne a).trans (hk k a)) (fun z a => ?_) ?_ (fun u a b => ?_)
          · rw [fw_updjn (by omega)]; exact hz z a
          · rw [hs, if_neg (by omega)]; omega
          · rw [fw_updeq]
            by_cases hu : u = p
            · rw [if_pos (by omega), hu]
            · rw [if_neg (by omega)]; exact h6 u a (by omega)

set_option maxRecDepth 20000 in
set_option maxHeartbeats 4000000 in
theorem sp_X6_makes (m wh t into nm kd : Int) (N : fw_F) (L : fw_G) (hm : 0 ≤ m ∧ m < 4) (hn : 1 ≤ N 0 2 ∧ N 0 2 ≤ 4) (hf : 0 ≤ N 1 m ∧ N 1 m < 20) (hkn : ∀ p, 0 ≤ p → p < 4 → 0 ≤ N 4 (4 * m + p) ∧ N 4 (4 * m + p) ≤ 20 ∧ (p = m → N 4 (4 * m + p) = N 1 m)) (hhg : ∀ p, 0 ≤ p → p < 4 → 0 < N 4 (4 * m + p) → 0 ≤ md_G N (20 * p + (N 4 (4 * m + p) - 1)) 4 ∧ md_G N (20 * p + (N 4 (4 * m + p) - 1)) 4 ≤ 80) (hk0 : ∀ p, N 0 2 ≤ p → p < 4 → N 4 (4 * m + p) ≤ 0) : fw_SD mX6_makes [fw_r 0, fw_i m, fw_i wh, fw_i t, fw_i into, fw_i nm, fw_i kd] N L (fun r M2 L2 => r = some (fw_i (N 1 m)) ∧ L2 = L ∧ (∀ k, ¬ k = 1 → ¬ k = 2 → ¬ k = 4 → M2 k = N k) ∧ (∀ p, M2 1 p = if p = m then N 1 m + 1 else N 1 p) ∧ (∀ z, M2 4 z = if z = 4 * m + m then N 1 m + 1 else N 4 z) ∧ (∀ z, z < 12 * (20 * m + N 1 m) ∨ 12 * (20 * m + N 1 m) + 12 ≤ z → M2 2 z = N 2 z) ∧ (M2 2 (12 * (20 * m + N 1 m)) = wh ∧ M2 2 (12 * (20 * m + N 1 m) + 1) = t ∧ M2 2 (12 * (20 * m + N 1 m) + 2) = into ∧ M2 2 (12 * (20 * m + N 1 m) + 3) = nm ∧ M2 2 (12 * (20 * m + N 1 m) + 4) = ab_hh (fun p => N 4 (4 * m + p)) (fun p => md_G N (20 * p + (N 4 (4 * m + p) - 1)) 4) 4 ∧ M2 2 (12 * (20 * m + N 1 m) + 5) = N 0 4 ∧ M2 2 (12 * (20 * m + N 1 m) + 10) = kd) ∧ (∀ p, 0 ≤ p → p < N 0 2 → M2 2 (12 * (20 * m + N 1 m) + 6 + p) = N 4 (4 * m + p)) ∧ (∀ p, N 0 2 ≤ p → p < 4 → M2 2 (12 * (20 * m + N 1 m) + 6 + p) = 0)) := by
  refine fw_SP_of pl_X6_makes (ls := [_, _, _, _, _, _, _]) rfl (Nat.le_of_ble_eq_true rfl) fun hA hM => ?_
  refine fw_aload_n dX6_makes_0 rfl rfl ?_
  refine fw_getr 5 1 rfl dX6_makes_1 ff_6_13 ly1_0 ⟨by decide, by decide⟩ rfl rfl (by decide) ?_
  refine fw_iload_n dX6_makes_4 rfl rfl ?_
  refine fw_iaload dX6_makes_5 ly1_1 ⟨by decide, by decide⟩ ⟨by omega, by omega⟩ ?_
  refine fw_istore (ls2 := [_, _, _, _, _, _, _, _]) dX6_makes_6 (by decide) rfl ?_
  refine fw_iload_n dX6_makes_8 rfl rfl ?_
  refine fw_iload dX6_makes_9 rfl ?_
  refine fw_pS mX6_changeAt [_, _] dX6_makes_11 mv_X6_changeAt lk_6_119 ⟨⟨by decide, by decide⟩, rfl, rfl, rfl, by decide, by decide⟩ rfl rfl (Nat.le_of_ble_eq_true rfl) (sp_X6_changeAt _ _ _ _ (by omega) (by omega)) ?_
  refine fw_istore (ls2 := [_, _, _, _, _, _, _, _, _]) dX6_makes_14 (by decide) rfl ?_
  refine fw_iconst dX6_makes_16 ⟨by decide, by decide⟩ ?_
  refine fw_istore (ls2 := [_, _, _, _, _, _, _, _, _, _]) dX6_makes_17 (by decide) rfl ?_
  refine fw_iconst dX6_makes_19 ⟨by decide, by decide⟩ ?_
  refine fw_istore (ls2 := [_, _, _, _, _, _, _, _, _, _, _]) dX6_makes_20 (by decide) rfl ?_
  exact lp_X6_makes m wh t into nm kd N L hm hn hf hkn hhg hk0 5 0 0 N (by omega) (by decide) (by omega) (fun _ _ => rfl) (fun _ _ => rfl) rfl (fun u a b => by omega)
