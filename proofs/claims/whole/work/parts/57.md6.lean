set_option maxRecDepth 20000 in
set_option maxHeartbeats 4000000 in
theorem sp_X6_isAhead (a b : Int) (M : fw_F) (L : fw_G) (h0 : 0 ≤ a ∧ a < 12) (h1 : 0 ≤ b ∧ b < 12) : fw_SD mX6_isAhead [fw_r 0, fw_i a, fw_i b] M L (fw_pure (some (fw_i (fw_b (ab_ah (M 15) (fw_and (M 0 3) 2) a b)))) M L) := by
  refine fw_SP_of pl_X6_isAhead (ls := [_, _, _]) rfl (Nat.le_of_ble_eq_true rfl) fun hA hM => ?_
  refine fw_aload_n dX6_isAhead_0 rfl rfl ?_
  refine fw_geti 3 rfl dX6_isAhead_1 ff_6_134 ly1_0 ⟨by decide, by decide⟩ rfl ?_
  refine fw_iconst dX6_isAhead_4 ⟨by decide, by decide⟩ ?_
  refine fw_iand dX6_isAhead_5 ?_
  refine fw_if_ne 32 dX6_isAhead_6 (by decide) (fun h6 => ?_) (fun h6 => ?_)
  · skip
    refine fw_aload_n dX6_isAhead_32 rfl rfl ?_
    refine fw_getr 19 15 rfl dX6_isAhead_33 ff_6_58 ly1_0 ⟨by decide, by decide⟩ rfl rfl (by decide) ?_
    refine fw_iload_n dX6_isAhead_36 rfl rfl ?_
    refine fw_iaload dX6_isAhead_37 ly1_15 ⟨by decide, by decide⟩ ⟨by omega, by omega⟩ ?_
    refine fw_aload_n dX6_isAhead_38 rfl rfl ?_
    refine fw_getr 19 15 rfl dX6_isAhead_39 ff_6_58 ly1_0 ⟨by decide, by decide⟩ rfl rfl (by decide) ?_
    refine fw_iload_n dX6_isAhead_42 rfl rfl ?_
    refine fw_iaload dX6_isAhead_43 ly1_15 ⟨by decide, by decide⟩ ⟨by omega, by omega⟩ ?_
    refine fw_icmp_ge 51 dX6_isAhead_44 (by decide) (fun h44 => ?_) (fun h44 => ?_)
    · skip
      refine fw_iconst dX6_isAhead_51 ⟨by decide, by decide⟩ ?_
      exact fw_zret dX6_isAhead_52 ⟨rfl, rfl, rfl⟩ (by first | decide | exact fw_b_01 _ | omega) (⟨by first | exact fw_zT (by omega) | exact fw_zF (by omega), rfl, rfl⟩)
    · skip
      refine fw_iconst dX6_isAhead_47 ⟨by decide, by decide⟩ ?_
      refine fw_goto 52 dX6_isAhead_48 (by decide) ?_
      exact fw_zret dX6_isAhead_52 ⟨rfl, rfl, rfl⟩ (by first | decide | exact fw_b_01 _ | omega) (⟨by first | exact fw_zT (by omega) | exact fw_zF (by omega), rfl, rfl⟩)
  · skip
    refine fw_aload_n dX6_isAhead_9 rfl rfl ?_
    refine fw_getr 19 15 rfl dX6_isAhead_10 ff_6_58 ly1_0 ⟨by decide, by decide⟩ rfl rfl (by decide) ?_
    refine fw_iload_n dX6_isAhead_13 rfl rfl ?_
    refine fw_iaload dX6_isAhead_14 ly1_15 ⟨by decide, by decide⟩ ⟨by omega, by omega⟩ ?_
    refine fw_aload_n dX6_isAhead_15 rfl rfl ?_
    refine fw_getr 19 15 rfl dX6_isAhead_16 ff_6_58 ly1_0 ⟨by decide, by decide⟩ rfl rfl (by decide) ?_
    refine fw_iload_n dX6_isAhead_19 rfl rfl ?_
    refine fw_iaload dX6_isAhead_20 ly1_15 ⟨by decide, by decide⟩ ⟨by omega, by omega⟩ ?_
    refine fw_icmp_le 28 dX6_isAhead_21 (by decide) (fun h21 => ?_) (fun h21 => ?_)
    · skip
      refine fw_iconst dX6_isAhead_28 ⟨by decide, by decide⟩ ?_
      refine fw_goto 52 dX6_isAhead_29 (by decide) ?_
      exact fw_zret dX6_isAhead_52 ⟨rfl, rfl, rfl⟩ (by first | decide | exact fw_b_01 _ | omega) (⟨by first | exact fw_zT (by omega) | exact fw_zF (by omega), rfl, rfl⟩)
    · skip
      refine fw_iconst dX6_isAhead_24 ⟨by decide, by decide⟩ ?_
      refine fw_goto 52 dX6_isAhead_25 (by decide) ?_
      exact fw_zret dX6_isAhead_52 ⟨rfl, rfl, rfl⟩ (by first | decide | exact fw_b_01 _ | omega) (⟨by first | exact fw_zT (by omega) | exact fw_zF (by omega), rfl, rfl⟩)

set_option maxRecDepth 20000 in
set_option maxHeartbeats 4000000 in
theorem lp_X6_isTaken (f v : Int) (M : fw_F) (L : fw_G) : ∀ (n : Nat) (z t : Int), 12 - t < n → 1 ≤ t → t ≤ 12 → (z = 0 ∨ z = 1) → (z = 1 ↔ ∃ u, 1 ≤ u ∧ u < t ∧ ¬ M 11 u = 0 ∧ M 13 u = f ∧ M 16 u = v) → fw_D mX6_isTaken 5 [some (fw_r 0), some (fw_i f), some (fw_i v), some (fw_i z), some (fw_i t)] [] M L (fun r M2 L2 => M2 = M ∧ L2 = L ∧ ∃ z, r = some (fw_i z) ∧ (z = 0 ∨ z = 1) ∧ (z = 1 ↔ ∃ u, 1 ≤ u ∧ u < 12 ∧ ¬ M 11 u = 0 ∧ M 13 u = f ∧ M 16 u = v)) := by
  intro n
  induction n with
  | zero => intro z t h0 h1 h2; omega
  | succ n ih =>
    intro z t h0 h1 h2 h3 h4
    refine fw_iload dX6_isTaken_5 rfl ?_
    refine fw_bipush dX6_isTaken_7 ⟨by decide, by decide⟩ (by decide) ?_
    refine fw_icmp_ge 58 dX6_isTaken_9 (by decide) (fun h9 => ?_) (fun h9 => ?_)
    · skip
      refine fw_iload_n dX6_isTaken_58 rfl rfl ?_
      refine fw_zret dX6_isTaken_59 ⟨rfl, rfl, rfl⟩ h3 ?_
      rw [show t = 12 by omega] at h4
      exact ⟨rfl, rfl, z, rfl, h3, h4⟩
    · skip
      refine fw_iload_n dX6_isTaken_12 rfl rfl ?_
      refine fw_aload_n dX6_isTaken_13 rfl rfl ?_
      refine fw_getr 15 11 rfl dX6_isTaken_14 ff_6_46 ly1_0 ⟨by decide, by decide⟩ rfl rfl (by decide) ?_
      refine fw_iload dX6_isTaken_17 rfl ?_
      refine fw_baload dX6_isTaken_19 ly1_11 ⟨by decide, by decide⟩ ⟨by omega, by omega⟩ ?_
      refine fw_if_eq 49 dX6_isTaken_20 (by decide) (fun h20 => ?_) (fun h20 => ?_)
      · skip
        refine fw_iconst dX6_isTaken_49 ⟨by decide, by decide⟩ ?_
        refine fw_ior dX6_isTaken_50 ?_
        refine fw_istore_n (ls2 := [_, _, _, _, _]) dX6_isTaken_51 rfl (by decide) rfl ?_
        refine fw_iinc (ls2 := [_, _, _, _, _]) dX6_isTaken_52 rfl ⟨by omega, by omega⟩ (by decide) rfl ?_
        refine fw_goto 5 dX6_isTaken_55 (by decide) ?_
        rw [fw_or01 h3 (by first | exact Or.inl rfl | exact Or.inr rfl)]
        rw [if_pos (show (0 : Int) = 0 from rfl)]
        refine ih z (t + 1) (by omega) (by omega) (by omega) h3 ?_
        rw [h4]
        constructor
        · rintro ⟨u, a, b, c⟩; exact ⟨u, a, by omega, c⟩
        · rintro ⟨u, a, b, c1, c2, c3⟩
          by_cases hu : u = t
          · subst hu; exact absurd h20 c1
          · exact ⟨u, a, by omega, c1, c2, c3⟩
      · skip
        refine fw_aload_n dX6_isTaken_23 rfl rfl ?_
        refine fw_getr 17 13 rfl dX6_isTaken_24 ff_6_52 ly1_0 ⟨by decide, by decide⟩ rfl rfl (by decide) ?_
        refine fw_iload dX6_isTaken_27 rfl ?_
        refine fw_iaload dX6_isTaken_29 ly1_13 ⟨by decide, by decide⟩ ⟨by omega, by omega⟩ ?_
        refine fw_iload_n dX6_isTaken_30 rfl rfl ?_
        refine fw_icmp_ne 49 dX6_isTaken_31 (by decide) (fun h31 => ?_) (fun h31 => ?_)
        · skip
          refine fw_iconst dX6_isTaken_49 ⟨by decide, by decide⟩ ?_
          refine fw_ior dX6_isTaken_50 ?_
          refine fw_istore_n (ls2 := [_, _, _, _, _]) dX6_isTaken_51 rfl (by decide) rfl ?_
          refine fw_iinc (ls2 := [_, _, _, _, _]) dX6_isTaken_52 rfl ⟨by omega, by omega⟩ (by decide) rfl ?_
          refine fw_goto 5 dX6_isTaken_55 (by decide) ?_
          rw [fw_or01 h3 (by first | exact Or.inl rfl | exact Or.inr rfl)]
          rw [if_pos (show (0 : Int) = 0 from rfl)]
          refine ih z (t + 1) (by omega) (by omega) (by omega) h3 ?_
          rw [h4]
          constructor
          · rintro ⟨u, a, b, c⟩; exact ⟨u, a, by omega, c⟩
          · rintro ⟨u, a, b, c1, c2, c3⟩
            by_cases hu : u = t
            · subst hu; exact absurd c2 h31
            · exact ⟨u, a, by omega, c1, c2, c3⟩
        · skip
          refine fw_aload_n dX6_isTaken_34 rfl rfl ?_
          refine fw_getr 20 16 rfl dX6_isTaken_35 ff_6_61 ly1_0 ⟨by decide, by decide⟩ rfl rfl (by decide) ?_
          refine fw_iload dX6_isTaken_38 rfl ?_
          refine fw_iaload dX6_isTaken_40 ly1_16 ⟨by decide, by decide⟩ ⟨by omega, by omega⟩ ?_
          refine fw_iload_n dX6_isTaken_41 rfl rfl ?_
          refine fw_icmp_ne 49 dX6_isTaken_42 (by decide) (fun h42 => ?_) (fun h42 => ?_)
          · skip
            refine fw_iconst dX6_isTaken_49 ⟨by decide, by decide⟩ ?_
            refine fw_ior dX6_isTaken_50 ?_
            refine fw_istore_n (ls2 := [_, _, _, _, _]) dX6_isTaken_51 rfl (by decide) rfl ?_
            refine fw_iinc (ls2 := [_, _, _, _, _]) dX6_isTaken_52 rfl ⟨by omega, by omega⟩ (by decide) rfl ?_
            refine fw_goto 5 dX6_isTaken_55 (by decide) ?_
            rw [fw_or01 h3 (by first | exact Or.inl rfl | exact Or.inr rfl)]
            rw [if_pos (show (0 : Int) = 0 from rfl)]
            refine ih z (t + 1) (by omega) (by omega) (by omega) h3 ?_
            rw [h4]
            constructor
            · rintro ⟨u, a, b, c⟩; exact ⟨u, a, by omega, c⟩
            · rintro ⟨u, a, b, c1, c2, c3⟩
              by_cases hu : u = t
              · subst hu; exact absurd c3 h42
              · exact ⟨u, a, by omega, c1, c2, c3⟩
          · skip
            refine fw_iconst dX6_isTaken_45 ⟨by decide, by decide⟩ ?_
            refine fw_goto 50 dX6_isTaken_46 (by decide) ?_
            refine fw_ior dX6_isTaken_50 ?_
            refine fw_istore_n (ls2 := [_, _, _, _, _]) dX6_isTaken_51 rfl (by decide) rfl ?_
            refine fw_iinc (ls2 := [_, _, _, _, _]) dX6_isTaken_52 rfl ⟨by omega, by omega⟩ (by decide) rfl ?_
            refine fw_goto 5 dX6_isTaken_55 (by decide) ?_
            rw [fw_or01 h3 (by first | exact Or.inl rfl | exact Or.inr rfl)]
            rw [if_neg (show ¬ (1 : Int) = 0 by decide)]
            refine ih 1 (t + 1) (by omega) (by omega) (by omega) (Or.inr rfl) ⟨fun _ => ⟨t, by omega, by omega, h20, h31, h42⟩, fun _ => rfl⟩

set_option maxRecDepth 20000 in
set_option maxHeartbeats 4000000 in
theorem sp_X6_isTaken (f v : Int) (M : fw_F) (L : fw_G) : fw_SD mX6_isTaken [fw_r 0, fw_i f, fw_i v] M L (fun r M2 L2 => M2 = M ∧ L2 = L ∧ ∃ z, r = some (fw_i z) ∧ (z = 0 ∨ z = 1) ∧ (z = 1 ↔ ∃ u, 1 ≤ u ∧ u < 12 ∧ ¬ M 11 u = 0 ∧ M 13 u = f ∧ M 16 u = v)) := by
  refine fw_SP_of pl_X6_isTaken (ls := [_, _, _]) rfl (Nat.le_of_ble_eq_true rfl) fun hA hM => ?_
  refine fw_iconst dX6_isTaken_0 ⟨by decide, by decide⟩ ?_
  refine fw_istore_n (ls2 := [_, _, _, _]) dX6_isTaken_1 rfl (by decide) rfl ?_
  refine fw_iconst dX6_isTaken_2 ⟨by decide, by decide⟩ ?_
  refine fw_istore (ls2 := [_, _, _, _, _]) dX6_isTaken_3 (by decide) rfl ?_
  exact lp_X6_isTaken f v M L 12 0 1 (by decide) (by decide) (by decide) (Or.inl rfl) ⟨fun q => by omega, fun ⟨u, a, b, _⟩ => by omega⟩

set_option maxRecDepth 20000 in
set_option maxHeartbeats 4000000 in
theorem lp_X6_nextNameless (M : fw_F) (L : fw_G) : ∀ (n : Nat) (b t : Int), 12 - t < n → 1 ≤ t → t ≤ 12 → ((b = -9 ∧ ∀ k, 1 ≤ k → k < t → ¬ (¬ M 11 k = 0 ∧ M 16 k = -9)) ∨ (1 ≤ b ∧ b < t ∧ ¬ M 11 b = 0 ∧ M 16 b = -9 ∧ ∀ k, 1 ≤ k → k < t → ¬ M 11 k = 0 → M 16 k = -9 → ¬ ab_ah (M 15) (fw_and (M 0 3) 2) k b)) → fw_D mX6_nextNameless 5 [some (fw_r 0), some (fw_i b), some (fw_i t)] [] M L (fun r M2 L2 => M2 = M ∧ L2 = L ∧ ∃ b, r = some (fw_i b) ∧ ((b = -9 ∧ ∀ k, 1 ≤ k → k < 12 → ¬ (¬ M 11 k = 0 ∧ M 16 k = -9)) ∨ (1 ≤ b ∧ b < 12 ∧ ¬ M 11 b = 0 ∧ M 16 b = -9 ∧ ∀ k, 1 ≤ k → k < 12 → ¬ M 11 k = 0 → M 16 k = -9 → ¬ ab_ah (M 15) (fw_and (M 0 3) 2) k b))) := by
  intro n
  induction n with
  | zero => intro b t h0 h1 h2; omega
  | succ n ih =>
    intro b t h0 h1 h2 hb
    refine fw_iload_n dX6_nextNameless_5 rfl rfl ?_
    refine fw_bipush dX6_nextNameless_6 ⟨by decide, by decide⟩ (by decide) ?_
    refine fw_icmp_ge 58 dX6_nextNameless_8 (by decide) (fun h8 => ?_) (fun h8 => ?_)
    · skip
      refine fw_iload_n dX6_nextNameless_58 rfl rfl ?_
      refine fw_iret dX6_nextNameless_59 ⟨rfl, rfl, rfl⟩ ?_
      rw [show t = 12 by omega] at hb
      exact ⟨rfl, rfl, b, rfl, hb⟩
    · skip
      refine fw_aload_n dX6_nextNameless_11 rfl rfl ?_
      refine fw_getr 15 11 rfl dX6_nextNameless_12 ff_6_46 ly1_0 ⟨by decide, by decide⟩ rfl rfl (by decide) ?_
      refine fw_iload_n dX6_nextNameless_15 rfl rfl ?_
      refine fw_baload dX6_nextNameless_16 ly1_11 ⟨by decide, by decide⟩ ⟨by omega, by omega⟩ ?_
      refine fw_if_eq 50 dX6_nextNameless_17 (by decide) (fun h17 => ?_) (fun h17 => ?_)
      · skip
        refine fw_iload_n dX6_nextNameless_50 rfl rfl ?_
        refine fw_istore_n (ls2 := [_, _, _]) dX6_nextNameless_51 rfl (by decide) rfl ?_
        refine fw_iinc (ls2 := [_, _, _]) dX6_nextNameless_52 rfl ⟨by omega, by omega⟩ (by decide) rfl ?_
        refine fw_goto 5 dX6_nextNameless_55 (by decide) ?_
        refine ih b (t + 1) (by omega) (by omega) (by omega) ?_
        rcases hb with ⟨a1, a2⟩ | ⟨a1, a2, a3, a4, a5⟩
        · refine Or.inl ⟨a1, fun k k0 k1 q => ?_⟩
          by_cases hkt : k = t
          · subst hkt; exact q.1 h17
          · exact a2 k k0 (by omega) q
        · refine Or.inr ⟨a1, by omega, a3, a4, fun k k0 k1 q1 q2 => ?_⟩
          by_cases hkt : k = t
          · subst hkt; exact absurd h17 q1
          · exact a5 k k0 (by omega) q1 q2
      · skip
        refine fw_aload_n dX6_nextNameless_20 rfl rfl ?_
        refine fw_getr 20 16 rfl dX6_nextNameless_21 ff_6_61 ly1_0 ⟨by decide, by decide⟩ rfl rfl (by decide) ?_
        refine fw_iload_n dX6_nextNameless_24 rfl rfl ?_
        refine fw_iaload dX6_nextNameless_25 ly1_16 ⟨by decide, by decide⟩ ⟨by omega, by omega⟩ ?_
        refine fw_bipush dX6_nextNameless_26 ⟨by decide, by decide⟩ (by decide) ?_
        refine fw_icmp_ne 50 dX6_nextNameless_28 (by decide) (fun h28 => ?_) (fun h28 => ?_)
        · skip
          refine fw_iload_n dX6_nextNameless_50 rfl rfl ?_
          refine fw_istore_n (ls2 := [_, _, _]) dX6_nextNameless_51 rfl (by decide) rfl ?_
          refine fw_iinc (ls2 := [_, _, _]) dX6_nextNameless_52 rfl ⟨by omega, by omega⟩ (by decide) rfl ?_
          refine fw_goto 5 dX6_nextNameless_55 (by decide) ?_
          refine ih b (t + 1) (by omega) (by omega) (by omega) ?_
          rcases hb with ⟨a1, a2⟩ | ⟨a1, a2, a3, a4, a5⟩
          · refine Or.inl ⟨a1, fun k k0 k1 q => ?_⟩
            by_cases hkt : k = t
            · subst hkt; exact h28 q.2
            · exact a2 k k0 (by omega) q
          · refine Or.inr ⟨a1, by omega, a3, a4, fun k k0 k1 q1 q2 => ?_⟩
            by_cases hkt : k = t
            · subst hkt; exact absurd q2 h28
            · exact a5 k k0 (by omega) q1 q2
        · skip
          refine fw_iload_n dX6_nextNameless_31 rfl rfl ?_
          refine fw_bipush dX6_nextNameless_32 ⟨by decide, by decide⟩ (by decide) ?_
          refine fw_icmp_eq 46 dX6_nextNameless_34 (by decide) (fun h34 => ?_) (fun h34 => ?_)
          · skip
            refine fw_iload_n dX6_nextNameless_46 rfl rfl ?_
            refine fw_goto 51 dX6_nextNameless_47 (by decide) ?_
            refine fw_istore_n (ls2 := [_, _, _]) dX6_nextNameless_51 rfl (by decide) rfl ?_
            refine fw_iinc (ls2 := [_, _, _]) dX6_nextNameless_52 rfl ⟨by omega, by omega⟩ (by decide) rfl ?_
            refine fw_goto 5 dX6_nextNameless_55 (by decide) ?_
            refine ih t (t + 1) (by omega) (by omega) (by omega) (Or.inr ⟨by omega, by omega, h17, h28, fun k k0 k1 q1 q2 => ?_⟩)
            by_cases hkt : k = t
            · subst hkt; rintro (q | q) <;> omega
            · rcases hb with ⟨a1, a2⟩ | ⟨a1, a2, a3, a4, a5⟩
              · exact absurd ⟨q1, q2⟩ (a2 k k0 (by omega))
              · have := a5 k k0 (by omega) q1 q2
                omega
          · skip
            refine fw_aload_n dX6_nextNameless_37 rfl rfl ?_
            refine fw_iload_n dX6_nextNameless_38 rfl rfl ?_
            refine fw_iload_n dX6_nextNameless_39 rfl rfl ?_
            refine fw_pV mX6_isAhead [_, _] dX6_nextNameless_40 mv_X6_isAhead lk_6_163 ⟨⟨by decide, by decide⟩, rfl, rfl, rfl, by decide, by decide⟩ ly1_0 ⟨by decide, by decide⟩ rfl rfl (Nat.le_of_ble_eq_true rfl) (sp_X6_isAhead _ _ _ _ (by omega) (by rcases hb with ⟨a1, a2⟩ | ⟨a1, a2, a3, a4, a5⟩; exact absurd a1 h34; omega)) ?_
            refine fw_bifeq 50 dX6_nextNameless_43 (by decide) (fun h43 => ?_) (fun h43 => ?_)
            · skip
              refine fw_iload_n dX6_nextNameless_50 rfl rfl ?_
              refine fw_istore_n (ls2 := [_, _, _]) dX6_nextNameless_51 rfl (by decide) rfl ?_
              refine fw_iinc (ls2 := [_, _, _]) dX6_nextNameless_52 rfl ⟨by omega, by omega⟩ (by decide) rfl ?_
              refine fw_goto 5 dX6_nextNameless_55 (by decide) ?_
              refine ih b (t + 1) (by omega) (by omega) (by omega) ?_
              rcases hb with ⟨a1, a2⟩ | ⟨a1, a2, a3, a4, a5⟩
              · refine Or.inl ⟨a1, fun k k0 k1 q => ?_⟩
                by_cases hkt : k = t
                · subst hkt; exact absurd a1 h34
                · exact a2 k k0 (by omega) q
              · refine Or.inr ⟨a1, by omega, a3, a4, fun k k0 k1 q1 q2 => ?_⟩
                by_cases hkt : k = t
                · subst hkt; exact h43
                · exact a5 k k0 (by omega) q1 q2
            · skip
              refine fw_iload_n dX6_nextNameless_46 rfl rfl ?_
              refine fw_goto 51 dX6_nextNameless_47 (by decide) ?_
              refine fw_istore_n (ls2 := [_, _, _]) dX6_nextNameless_51 rfl (by decide) rfl ?_
              refine fw_iinc (ls2 := [_, _, _]) dX6_nextNameless_52 rfl ⟨by omega, by omega⟩ (by decide) rfl ?_
              refine fw_goto 5 dX6_nextNameless_55 (by decide) ?_
              refine ih t (t + 1) (by omega) (by omega) (by omega) (Or.inr ⟨by omega, by omega, h17, h28, fun k k0 k1 q1 q2 => ?_⟩)
              by_cases hkt : k = t
              · subst hkt; rintro (q | q) <;> omega
              · rcases hb with ⟨a1, a2⟩ | ⟨a1, a2, a3, a4, a5⟩
                · exact absurd ⟨q1, q2⟩ (a2 k k0 (by omega))
                · have := a5 k k0 (by omega) q1 q2
                  omega

set_option maxRecDepth 20000 in
set_option maxHeartbeats 4000000 in
theorem sp_X6_nextNameless (M : fw_F) (L : fw_G) : fw_SD mX6_nextNameless [fw_r 0] M L (fun r M2 L2 => M2 = M ∧ L2 = L ∧ ∃ b, r = some (fw_i b) ∧ ((b = -9 ∧ ∀ k, 1 ≤ k → k < 12 → ¬ (¬ M 11 k = 0 ∧ M 16 k = -9)) ∨ (1 ≤ b ∧ b < 12 ∧ ¬ M 11 b = 0 ∧ M 16 b = -9 ∧ ∀ k, 1 ≤ k → k < 12 → ¬ M 11 k = 0 → M 16 k = -9 → ¬ ab_ah (M 15) (fw_and (M 0 3) 2) k b))) := by
  refine fw_SP_of pl_X6_nextNameless (ls := [_]) rfl (Nat.le_of_ble_eq_true rfl) fun hA hM => ?_
  refine fw_bipush dX6_nextNameless_0 ⟨by decide, by decide⟩ (by decide) ?_
  refine fw_istore_n (ls2 := [_, _]) dX6_nextNameless_2 rfl (by decide) rfl ?_
  refine fw_iconst dX6_nextNameless_3 ⟨by decide, by decide⟩ ?_
  refine fw_istore_n (ls2 := [_, _, _]) dX6_nextNameless_4 rfl (by decide) rfl ?_
  exact lp_X6_nextNameless M L 12 (-9) 1 (by decide) (by decide) (by decide) (Or.inl ⟨rfl, fun k a b => by omega⟩)

set_option maxRecDepth 20000 in
set_option maxHeartbeats 4000000 in
theorem lp_X6_names_130 (t : Int) (M : fw_F) (L : fw_G) (post : fw_P) (ht : 0 ≤ t ∧ t < 12) (hgo : ∀ v, 10 ≤ v → v ≤ 30 → (¬ ∃ u, 1 ≤ u ∧ u < 12 ∧ ¬ M 11 u = 0 ∧ M 13 u = M 13 t ∧ M 16 u = v) → (∀ w, 10 ≤ w → w < v → ∃ u, 1 ≤ u ∧ u < 12 ∧ ¬ M 11 u = 0 ∧ M 13 u = M 13 t ∧ M 16 u = w) → fw_D mX6_names 150 [some (fw_r 0), some (fw_i t), some (fw_i v)] [] M L post) : ∀ (n : Nat) (v : Int), 22 - v < n → 10 ≤ v → (∀ w, 10 ≤ w → w < v → ∃ u, 1 ≤ u ∧ u < 12 ∧ ¬ M 11 u = 0 ∧ M 13 u = M 13 t ∧ M 16 u = w) → fw_D mX6_names 130 [some (fw_r 0), some (fw_i t), some (fw_i v)] [] M L post := by
  intro n
  induction n with
  | zero =>
    intro v h0 h1 hw
    have := ab_names (lab := M 16) (V := v) (fun w a b => by obtain ⟨u, c1, c2, _, _, c5⟩ := hw w a b; exact ⟨u, c1, c2, c5⟩)
    omega
  | succ n ih =>
    intro v h0 h1 hw
    have hv21 := ab_names (lab := M 16) (V := v) (fun w a b => by obtain ⟨u, c1, c2, _, _, c5⟩ := hw w a b; exact ⟨u, c1, c2, c5⟩)
    refine fw_aload_n dX6_names_130 rfl rfl ?_
    refine fw_aload_n dX6_names_131 rfl rfl ?_
    refine fw_getr 17 13 rfl dX6_names_132 ff_6_52 ly1_0 ⟨by decide, by decide⟩ rfl rfl (by decide) ?_
    refine fw_iload_n dX6_names_135 rfl rfl ?_
    refine fw_iaload dX6_names_136 ly1_13 ⟨by decide, by decide⟩ ⟨by omega, by omega⟩ ?_
    refine fw_iload_n dX6_names_137 rfl rfl ?_
    refine fw_cV mX6_isTaken [_, _] dX6_names_138 mv_X6_isTaken lk_6_170 ⟨⟨by decide, by decide⟩, rfl, rfl, rfl, by decide, by decide⟩ ly1_0 ⟨by decide, by decide⟩ rfl rfl (Nat.le_of_ble_eq_true rfl) (sp_X6_isTaken _ _ _ _) (fun r M1 L1 hp hM1 => ?_)
    obtain ⟨rfl, rfl, z, rfl, hz1, hz2⟩ := hp
    refine fw_if_eq 150 dX6_names_141 (by decide) (fun h141 => ?_) (fun h141 => ?_)
    · skip
      exact hgo v h1 (by omega) (fun q => by have := hz2.mpr q; omega) hw
    · skip
      refine fw_iinc (ls2 := [_, _, _]) dX6_names_144 rfl ⟨by omega, by omega⟩ (by decide) rfl ?_
      refine fw_goto 130 dX6_names_147 (by decide) ?_
      refine ih (v + 1) (by omega) (by omega) (fun w a b => ?_)
      by_cases hwv : w = v
      · subst hwv; exact hz2.mp (by clear hz2; omega)
      · exact hw w a (by omega)

set_option maxRecDepth 20000 in
set_option maxHeartbeats 4000000 in
theorem lp_X6_names_121 (N : fw_F) (L : fw_G) (hW : ∀ t, ab_th (N 11) t → 0 ≤ N 14 t ∧ N 14 t ≤ 9) (hj : ∀ a b, ab_th (N 11) a → ab_th (N 11) b → N 15 a = N 15 b → a = b) : ∀ (q : Nat) (b : Int) (D : List Int) (M : fw_F), 12 - (D.length : Int) < q → nd_inv N M (fw_and (N 0 3) 2) D → ((b = -9 ∧ ∀ k, 1 ≤ k → k < 12 → ¬ (¬ M 11 k = 0 ∧ M 16 k = -9)) ∨ (1 ≤ b ∧ b < 12 ∧ ¬ M 11 b = 0 ∧ M 16 b = -9 ∧ ∀ k, 1 ≤ k → k < 12 → ¬ M 11 k = 0 → M 16 k = -9 → ¬ ab_ah (M 15) (fw_and (M 0 3) 2) k b)) → fw_D mX6_names 121 [some (fw_r 0), some (fw_i b)] [] M L (fun r M2 L2 => r = none ∧ L2 = L ∧ (∀ k, ¬ k = 16 → M2 k = N k) ∧ M2 16 0 = N 14 0 ∧ ab_lab (N 11) (N 13) (N 14) (N 15) (fw_and (N 0 3) 2) (M2 16)) := by
  intro q
  induction q with
  | zero =>
    intro b D M h0 hi hb
    have := ab_ph 11 D hi.2.2.1 (fun x hx => by have := (hi.2.2.2.1 x hx).1; exact ⟨this.1, by have := this.2.1; omega⟩)
    omega
  | succ q ih =>
    intro b D M h0 hi hb
    have e0 := hi.1 0 (by decide)
    have e11 := hi.1 11 (by decide)
    have e13 := hi.1 13 (by decide)
    have e15 := hi.1 15 (by decide)
    refine fw_iload_n dX6_names_121 rfl rfl ?_
    refine fw_bipush dX6_names_122 ⟨by decide, by decide⟩ (by decide) ?_
    refine fw_icmp_eq 165 dX6_names_124 (by decide) (fun h124 => ?_) (fun h124 => ?_)
    · skip
      refine fw_vret dX6_names_165 ⟨rfl, rfl, rfl⟩ ?_
      refine ⟨rfl, rfl, hi.1, hi.2.1, nd_end hW hj hi (fun k hk q => ?_)⟩
      rcases hb with ⟨a1, a2⟩ | ⟨a1, a2, a3, a4, a5⟩
      · exact a2 k hk.1 hk.2.1 ⟨by rw [e11]; exact hk.2.2, q⟩
      · omega
    · skip
      rcases hb with ⟨a1, a2⟩ | ⟨a1, a2, a3, a4, a5⟩
      · exact absurd a1 h124
      have hbth : ab_th (N 11) b := ⟨a1, a2, by rw [← e11]; exact a3⟩
      refine fw_bipush dX6_names_127 ⟨by decide, by decide⟩ (by decide) ?_
      refine fw_istore_n (ls2 := [_, _, _]) dX6_names_129 rfl (by decide) rfl ?_
      refine lp_X6_names_130 b M L _ ⟨by omega, a2⟩ (fun v hv1 hv2 hv3 hv4 => ?_) 13 10 (by decide) (by decide) (fun w a b => by omega)
      refine fw_aload_n dX6_names_150 rfl rfl ?_
      refine fw_getr 20 16 rfl dX6_names_151 ff_6_61 ly1_0 ⟨by decide, by decide⟩ rfl rfl (by decide) ?_
      refine fw_iload_n dX6_names_154 rfl rfl ?_
      refine fw_iload_n dX6_names_155 rfl rfl ?_
      refine fw_iastore dX6_names_156 ly1_16 (by decide) ⟨by decide, by decide⟩ ⟨by omega, by omega⟩ ?_
      refine fw_aload_n dX6_names_157 rfl rfl ?_
      refine fw_cV mX6_nextNameless [] dX6_names_158 mv_X6_nextNameless lk_6_166 ⟨⟨by decide, by decide⟩, rfl, rfl, rfl, by decide, by decide⟩ ly1_0 ⟨by decide, by decide⟩ rfl rfl (Nat.le_of_ble_eq_true rfl) (sp_X6_nextNameless _ _) (fun r M1 L1 hp hM1 => ?_)
      obtain ⟨rfl, rfl, b2, rfl, hb2⟩ := hp
      refine fw_istore_n (ls2 := [_, _, _]) dX6_names_161 rfl (by decide) rfl ?_
      refine fw_goto 121 dX6_names_162 (by decide) ?_
      refine fw_take 2 ?_
      refine ih b2 (b :: D) _ (by simp only [List.length_cons]; omega) (nd_step hW hj hi hbth a4 (fun k hk hk2 => ?_) hv1 (by rw [← e11, ← e13]; exact hv3) (by rw [← e11, ← e13]; exact hv4)) hb2
      have := a5 k hk.1 hk.2.1 (by rw [e11]; exact hk.2.2) hk2
      rw [e15, e0] at this
      exact this

set_option maxRecDepth 20000 in
set_option maxHeartbeats 4000000 in
theorem lp_X6_names_12 (t : Int) (N M : fw_F) (L : fw_G) (post : fw_P) (ht : 1 ≤ t ∧ t < 12) (hk : ∀ k, ¬ k = 16 → M k = N k) (hgo : ∀ h, (h = 0 ∨ h = 1) → (h = 1 ↔ nd_fr N (fw_and (N 0 3) 2) t) → fw_D mX6_names 89 [some (fw_r 0), some (fw_i t), some (fw_i h)] [] M L post) : ∀ (n : Nat) (h k : Int), 12 - k < n → 1 ≤ k → k ≤ 12 → (h = 0 ∨ h = 1) → (h = 1 ↔ ∀ u, 1 ≤ u → u < k → u = t ∨ N 11 u = 0 ∨ ¬ N 13 u = N 13 t ∨ ¬ N 14 u = N 14 t ∨ ab_ah (N 15) (fw_and (N 0 3) 2) t u) → fw_D mX6_names 12 [some (fw_r 0), some (fw_i t), some (fw_i h), some (fw_i k)] [] M L post := by
  intro n
  induction n with
  | zero => intro h k h0 h1 h2; omega
  | succ n ih =>
    intro h k h0 h1 h2 h3 h4
    have e0 := hk 0 (by decide)
    have e11 := hk 11 (by decide)
    have e13 := hk 13 (by decide)
    have e14 := hk 14 (by decide)
    have e15 := hk 15 (by decide)
    refine fw_iload_n dX6_names_12 rfl rfl ?_
    refine fw_bipush dX6_names_13 ⟨by decide, by decide⟩ (by decide) ?_
    refine fw_icmp_ge 89 dX6_names_15 (by decide) (fun h15 => ?_) (fun h15 => ?_)
    · skip
      refine fw_take 3 ?_
      rw [show k = 12 by omega] at h4
      exact hgo h h3 h4
    · skip
      refine fw_iload_n dX6_names_18 rfl rfl ?_
      refine fw_if_le 89 dX6_names_19 (by decide) (fun h19 => ?_) (fun h19 => ?_)
      · skip
        exfalso; omega
      · skip
        refine fw_iload_n dX6_names_22 rfl rfl ?_
        refine fw_iload_n dX6_names_23 rfl rfl ?_
        refine fw_iload_n dX6_names_24 rfl rfl ?_
        refine fw_icmp_eq 76 dX6_names_25 (by decide) (fun h25 => ?_) (fun h25 => ?_)
        · skip
          refine fw_iconst dX6_names_76 ⟨by decide, by decide⟩ ?_
          refine fw_goto 81 dX6_names_77 (by decide) ?_
          refine fw_iand dX6_names_81 ?_
          refine fw_istore_n (ls2 := [_, _, _, _]) dX6_names_82 rfl (by decide) rfl ?_
          refine fw_iinc (ls2 := [_, _, _, _]) dX6_names_83 rfl ⟨by omega, by omega⟩ (by decide) rfl ?_
          refine fw_goto 12 dX6_names_86 (by decide) ?_
          rw [fw_and01 h3 (by first | exact Or.inl rfl | exact Or.inr rfl)]
          rw [if_neg (show ¬ (1 : Int) = 0 by decide)]
          refine ih h (k + 1) (by omega) (by omega) (by omega) h3 ?_
          rw [h4]
          constructor
          · intro q u a b
            by_cases hu : u = k
            · subst hu
              exact Or.inl h25
            · exact q u a (by omega)
          · intro q u a b
            exact q u a (by omega)
        · skip
          refine fw_aload_n dX6_names_28 rfl rfl ?_
          refine fw_getr 15 11 rfl dX6_names_29 ff_6_46 ly1_0 ⟨by decide, by decide⟩ rfl rfl (by decide) ?_
          refine fw_iload_n dX6_names_32 rfl rfl ?_
          refine fw_baload dX6_names_33 ly1_11 ⟨by decide, by decide⟩ ⟨by omega, by omega⟩ ?_
          refine fw_if_eq 76 dX6_names_34 (by decide) (fun h34 => ?_) (fun h34 => ?_)
          · skip
            refine fw_iconst dX6_names_76 ⟨by decide, by decide⟩ ?_
            refine fw_goto 81 dX6_names_77 (by decide) ?_
            refine fw_iand dX6_names_81 ?_
            refine fw_istore_n (ls2 := [_, _, _, _]) dX6_names_82 rfl (by decide) rfl ?_
            refine fw_iinc (ls2 := [_, _, _, _]) dX6_names_83 rfl ⟨by omega, by omega⟩ (by decide) rfl ?_
            refine fw_goto 12 dX6_names_86 (by decide) ?_
            rw [fw_and01 h3 (by first | exact Or.inl rfl | exact Or.inr rfl)]
            rw [if_neg (show ¬ (1 : Int) = 0 by decide)]
            refine ih h (k + 1) (by omega) (by omega) (by omega) h3 ?_
            rw [h4]
            constructor
            · intro q u a b
              by_cases hu : u = k
              · subst hu
                rw [e11] at h34; exact Or.inr (Or.inl h34)
              · exact q u a (by omega)
            · intro q u a b
              exact q u a (by omega)
          · skip
            refine fw_aload_n dX6_names_37 rfl rfl ?_
            refine fw_getr 17 13 rfl dX6_names_38 ff_6_52 ly1_0 ⟨by decide, by decide⟩ rfl rfl (by decide) ?_
            refine fw_iload_n dX6_names_41 rfl rfl ?_
            refine fw_iaload dX6_names_42 ly1_13 ⟨by decide, by decide⟩ ⟨by omega, by omega⟩ ?_
            refine fw_aload_n dX6_names_43 rfl rfl ?_
            refine fw_getr 17 13 rfl dX6_names_44 ff_6_52 ly1_0 ⟨by decide, by decide⟩ rfl rfl (by decide) ?_
            refine fw_iload_n dX6_names_47 rfl rfl ?_
            refine fw_iaload dX6_names_48 ly1_13 ⟨by decide, by decide⟩ ⟨by omega, by omega⟩ ?_
            refine fw_icmp_ne 76 dX6_names_49 (by decide) (fun h49 => ?_) (fun h49 => ?_)
            · skip
              refine fw_iconst dX6_names_76 ⟨by decide, by decide⟩ ?_
              refine fw_goto 81 dX6_names_77 (by decide) ?_
              refine fw_iand dX6_names_81 ?_
              refine fw_istore_n (ls2 := [_, _, _, _]) dX6_names_82 rfl (by decide) rfl ?_
              refine fw_iinc (ls2 := [_, _, _, _]) dX6_names_83 rfl ⟨by omega, by omega⟩ (by decide) rfl ?_
              refine fw_goto 12 dX6_names_86 (by decide) ?_
              rw [fw_and01 h3 (by first | exact Or.inl rfl | exact Or.inr rfl)]
              rw [if_neg (show ¬ (1 : Int) = 0 by decide)]
              refine ih h (k + 1) (by omega) (by omega) (by omega) h3 ?_
              rw [h4]
              constructor
              · intro q u a b
                by_cases hu : u = k
                · subst hu
                  rw [e13] at h49; exact Or.inr (Or.inr (Or.inl h49))
                · exact q u a (by omega)
              · intro q u a b
                exact q u a (by omega)
            · skip
              refine fw_aload_n dX6_names_52 rfl rfl ?_
              refine fw_getr 18 14 rfl dX6_names_53 ff_6_55 ly1_0 ⟨by decide, by decide⟩ rfl rfl (by decide) ?_
              refine fw_iload_n dX6_names_56 rfl rfl ?_
              refine fw_iaload dX6_names_57 ly1_14 ⟨by decide, by decide⟩ ⟨by omega, by omega⟩ ?_
              refine fw_aload_n dX6_names_58 rfl rfl ?_
              refine fw_getr 18 14 rfl dX6_names_59 ff_6_55 ly1_0 ⟨by decide, by decide⟩ rfl rfl (by decide) ?_
              refine fw_iload_n dX6_names_62 rfl rfl ?_
              refine fw_iaload dX6_names_63 ly1_14 ⟨by decide, by decide⟩ ⟨by omega, by omega⟩ ?_
              refine fw_icmp_ne 76 dX6_names_64 (by decide) (fun h64 => ?_) (fun h64 => ?_)
              · skip
                refine fw_iconst dX6_names_76 ⟨by decide, by decide⟩ ?_
                refine fw_goto 81 dX6_names_77 (by decide) ?_
                refine fw_iand dX6_names_81 ?_
                refine fw_istore_n (ls2 := [_, _, _, _]) dX6_names_82 rfl (by decide) rfl ?_
                refine fw_iinc (ls2 := [_, _, _, _]) dX6_names_83 rfl ⟨by omega, by omega⟩ (by decide) rfl ?_
                refine fw_goto 12 dX6_names_86 (by decide) ?_
                rw [fw_and01 h3 (by first | exact Or.inl rfl | exact Or.inr rfl)]
                rw [if_neg (show ¬ (1 : Int) = 0 by decide)]
                refine ih h (k + 1) (by omega) (by omega) (by omega) h3 ?_
                rw [h4]
                constructor
                · intro q u a b
                  by_cases hu : u = k
                  · subst hu
                    rw [e14] at h64; exact Or.inr (Or.inr (Or.inr (Or.inl h64)))
                  · exact q u a (by omega)
                · intro q u a b
                  exact q u a (by omega)
              · skip
                refine fw_aload_n dX6_names_67 rfl rfl ?_
                refine fw_iload_n dX6_names_68 rfl rfl ?_
                refine fw_iload_n dX6_names_69 rfl rfl ?_
                refine fw_pV mX6_isAhead [_, _] dX6_names_70 mv_X6_isAhead lk_6_163 ⟨⟨by decide, by decide⟩, rfl, rfl, rfl, by decide, by decide⟩ ly1_0 ⟨by decide, by decide⟩ rfl rfl (Nat.le_of_ble_eq_true rfl) (sp_X6_isAhead _ _ _ _ (by omega) (by omega)) ?_
                refine fw_bifeq 80 dX6_names_73 (by decide) (fun h73 => ?_) (fun h73 => ?_)
                · skip
                  refine fw_iconst dX6_names_80 ⟨by decide, by decide⟩ ?_
                  refine fw_iand dX6_names_81 ?_
                  refine fw_istore_n (ls2 := [_, _, _, _]) dX6_names_82 rfl (by decide) rfl ?_
                  refine fw_iinc (ls2 := [_, _, _, _]) dX6_names_83 rfl ⟨by omega, by omega⟩ (by decide) rfl ?_
                  refine fw_goto 12 dX6_names_86 (by decide) ?_
                  rw [fw_and01 h3 (by first | exact Or.inl rfl | exact Or.inr rfl)]
                  rw [if_pos (show (0 : Int) = 0 from rfl)]
                  refine ih 0 (k + 1) (by omega) (by omega) (by omega) (Or.inl rfl) ⟨fun q => by omega, fun q => ?_⟩
                  rw [e15, e0] at h73
                  rw [e11] at h34
                  rw [e13] at h49
                  rw [e14] at h64
                  exact absurd (q k (by omega) (by omega)) (fun z => by rcases z with z | z | z | z | z; exact h25 z; exact h34 z; exact z h49; exact z h64; exact h73 z)
                · skip
                  refine fw_iconst dX6_names_76 ⟨by decide, by decide⟩ ?_
                  refine fw_goto 81 dX6_names_77 (by decide) ?_
                  refine fw_iand dX6_names_81 ?_
                  refine fw_istore_n (ls2 := [_, _, _, _]) dX6_names_82 rfl (by decide) rfl ?_
                  refine fw_iinc (ls2 := [_, _, _, _]) dX6_names_83 rfl ⟨by omega, by omega⟩ (by decide) rfl ?_
                  refine fw_goto 12 dX6_names_86 (by decide) ?_
                  rw [fw_and01 h3 (by first | exact Or.inl rfl | exact Or.inr rfl)]
                  rw [if_neg (show ¬ (1 : Int) = 0 by decide)]
                  refine ih h (k + 1) (by omega) (by omega) (by omega) h3 ?_
                  rw [h4]
                  constructor
                  · intro q u a b
                    by_cases hu : u = k
                    · subst hu
                      rw [e15, e0] at h73; exact Or.inr (Or.inr (Or.inr (Or.inr h73)))
                    · exact q u a (by omega)
                  · intro q u a b
                    exact q u a (by omega)

set_option maxRecDepth 20000 in
set_option maxHeartbeats 4000000 in
theorem lp_X6_names_2 (N : fw_F) (L : fw_G) (hW : ∀ t, ab_th (N 11) t → 0 ≤ N 14 t ∧ N 14 t ≤ 9) (hj : ∀ a b, ab_th (N 11) a → ab_th (N 11) b → N 15 a = N 15 b → a = b) : ∀ (q : Nat) (t : Int) (M : fw_F), 12 - t < q → 0 ≤ t → t ≤ 12 → (∀ k, ¬ k = 16 → M k = N k) → (∀ u, 0 ≤ u → u < t → (u = 0 → M 16 u = N 14 u) ∧ (nd_fr N (fw_and (N 0 3) 2) u → M 16 u = N 14 u) ∧ (1 ≤ u ∧ ¬ nd_fr N (fw_and (N 0 3) 2) u → M 16 u = -9)) → fw_D mX6_names 2 [some (fw_r 0), some (fw_i t)] [] M L (fun r M2 L2 => r = none ∧ L2 = L ∧ (∀ k, ¬ k = 16 → M2 k = N k) ∧ M2 16 0 = N 14 0 ∧ ab_lab (N 11) (N 13) (N 14) (N 15) (fw_and (N 0 3) 2) (M2 16)) := by
  intro q
  induction q with
  | zero => intro t M h0 h1 h2; omega
  | succ q ih =>
    intro t M h0 h1 h2 hk hu2
    refine fw_iload_n dX6_names_2 rfl rfl ?_
    refine fw_bipush dX6_names_3 ⟨by decide, by decide⟩ (by decide) ?_
    refine fw_icmp_ge 116 dX6_names_5 (by decide) (fun h5 => ?_) (fun h5 => ?_)
    · skip
      refine fw_aload_n dX6_names_116 rfl rfl ?_
      refine fw_cV mX6_nextNameless [] dX6_names_117 mv_X6_nextNameless lk_6_166 ⟨⟨by decide, by decide⟩, rfl, rfl, rfl, by decide, by decide⟩ ly1_0 ⟨by decide, by decide⟩ rfl rfl (Nat.le_of_ble_eq_true rfl) (sp_X6_nextNameless _ _) (fun r M1 L1 hp hM1 => ?_)
      obtain ⟨rfl, rfl, b, rfl, hb⟩ := hp
      refine fw_istore_n (ls2 := [_, _]) dX6_names_120 rfl (by decide) rfl ?_
      have hinv : nd_inv N M1 (fw_and (N 0 3) 2) [] := ⟨hk, (hu2 0 (by decide) (by omega)).1 rfl, List.Pairwise.nil, (fun x hx => by cases hx), (fun x hx => ⟨(hu2 x (by have := hx.1; omega) (by have := hx.2.1; omega)).2.1, fun q => ⟨fun z => (by cases z), fun z => absurd ((hu2 x (by have := hx.1; omega) (by have := hx.2.1; omega)).2.2 ⟨by have := hx.1; omega, q⟩) z⟩⟩), (fun x hx => by cases hx), (fun x hx => by cases hx)⟩
      exact lp_X6_names_121 N L1 hW hj 13 b [] M1 (by decide) hinv hb
    · skip
      refine fw_iconst dX6_names_8 ⟨by decide, by decide⟩ ?_
      refine fw_istore_n (ls2 := [_, _, _]) dX6_names_9 rfl (by decide) rfl ?_
      refine fw_iconst dX6_names_10 ⟨by decide, by decide⟩ ?_
      refine fw_istore_n (ls2 := [_, _, _, _]) dX6_names_11 rfl (by decide) rfl ?_
      by_cases ht0 : t = 0
      · subst ht0
        refine fw_iload_n dX6_names_12 rfl rfl ?_
        refine fw_bipush dX6_names_13 ⟨by decide, by decide⟩ (by decide) ?_
        refine fw_icmp_ge 89 dX6_names_15 (by decide) (fun h15 => ?_) (fun h15 => ?_)
        · skip
          exfalso; omega
        · skip
          refine fw_iload_n dX6_names_18 rfl rfl ?_
          refine fw_if_le 89 dX6_names_19 (by decide) (fun h19 => ?_) (fun h19 => ?_)
          · skip
            refine fw_aload_n dX6_names_89 rfl rfl ?_
            refine fw_getr 20 16 rfl dX6_names_90 ff_6_61 ly1_0 ⟨by decide, by decide⟩ rfl rfl (by decide) ?_
            refine fw_iload_n dX6_names_93 rfl rfl ?_
            refine fw_iload_n dX6_names_94 rfl rfl ?_
            refine fw_if_eq 107 dX6_names_95 (by decide) (fun h95 => ?_) (fun h95 => ?_)
            · skip
              exfalso; omega
            · skip
              refine fw_aload_n dX6_names_98 rfl rfl ?_
              refine fw_getr 18 14 rfl dX6_names_99 ff_6_55 ly1_0 ⟨by decide, by decide⟩ rfl rfl (by decide) ?_
              refine fw_iload_n dX6_names_102 rfl rfl ?_
              refine fw_iaload dX6_names_103 ly1_14 ⟨by decide, by decide⟩ ⟨by omega, by omega⟩ ?_
              refine fw_goto 109 dX6_names_104 (by decide) ?_
              refine fw_iastore dX6_names_109 ly1_16 (by decide) ⟨by decide, by decide⟩ ⟨by omega, by omega⟩ ?_
              refine fw_iinc (ls2 := [_, _, _, _]) dX6_names_110 rfl ⟨by omega, by omega⟩ (by decide) rfl ?_
              refine fw_goto 2 dX6_names_113 (by decide) ?_
              refine fw_take 2 ?_
              refine ih (0 + 1) _ (by omega) (by omega) (by omega) (fun k a => (fw_updne a).trans (hk k a)) (fun u a b => ?_)
              rw [fw_updeq]
              by_cases hu : u = 0
              · rw [if_pos hu, hu, hk 14 (by decide)]; exact ⟨fun _ => rfl, fun _ => rfl, fun q => by omega⟩
              · omega
          · skip
            exfalso; omega
      refine lp_X6_names_12 t N M L _ ⟨by omega, by omega⟩ hk (fun h hh1 hh2 => ?_) 12 1 1 (by decide) (by decide) (by decide) (Or.inr rfl) ⟨fun _ u a b => by omega, fun _ => rfl⟩
      refine fw_aload_n dX6_names_89 rfl rfl ?_
      refine fw_getr 20 16 rfl dX6_names_90 ff_6_61 ly1_0 ⟨by decide, by decide⟩ rfl rfl (by decide) ?_
      refine fw_iload_n dX6_names_93 rfl rfl ?_
      refine fw_iload_n dX6_names_94 rfl rfl ?_
      refine fw_if_eq 107 dX6_names_95 (by decide) (fun h95 => ?_) (fun h95 => ?_)
      · skip
        refine fw_bipush dX6_names_107 ⟨by decide, by decide⟩ (by decide) ?_
        refine fw_iastore dX6_names_109 ly1_16 (by decide) ⟨by decide, by decide⟩ ⟨by omega, by omega⟩ ?_
        refine fw_iinc (ls2 := [_, _, _]) dX6_names_110 rfl ⟨by omega, by omega⟩ (by decide) rfl ?_
        refine fw_goto 2 dX6_names_113 (by decide) ?_
        refine fw_take 2 ?_
        refine ih (t + 1) _ (by omega) (by omega) (by omega) (fun k a => (fw_updne a).trans (hk k a)) (fun u a b => ?_)
        rw [fw_updeq]
        by_cases hu : u = t
        · rw [if_pos hu, hu]
          exact ⟨fun q => by omega, fun q => absurd (hh2.mpr q) (by omega), fun _ => rfl⟩
        · rw [if_neg hu]; exact hu2 u a (by omega)
      · skip
        refine fw_aload_n dX6_names_98 rfl rfl ?_
        refine fw_getr 18 14 rfl dX6_names_99 ff_6_55 ly1_0 ⟨by decide, by decide⟩ rfl rfl (by decide) ?_
        refine fw_iload_n dX6_names_102 rfl rfl ?_
        refine fw_iaload dX6_names_103 ly1_14 ⟨by decide, by decide⟩ ⟨by omega, by omega⟩ ?_
        refine fw_goto 109 dX6_names_104 (by decide) ?_
        refine fw_iastore dX6_names_109 ly1_16 (by decide) ⟨by decide, by decide⟩ ⟨by omega, by omega⟩ ?_
        refine fw_iinc (ls2 := [_, _, _]) dX6_names_110 rfl ⟨by omega, by omega⟩ (by decide) rfl ?_
        refine fw_goto 2 dX6_names_113 (by decide) ?_
        refine fw_take 2 ?_
        refine ih (t + 1) _ (by omega) (by omega) (by omega) (fun k a => (fw_updne a).trans (hk k a)) (fun u a b => ?_)
        rw [fw_updeq]
        by_cases hu : u = t
        · rw [if_pos hu, hu]
          rw [hk 14 (by decide)]; exact ⟨fun q => by omega, fun _ => rfl, fun q => absurd (hh2.mp (by omega)) q.2⟩
        · rw [if_neg hu]; exact hu2 u a (by omega)

set_option maxRecDepth 20000 in
set_option maxHeartbeats 4000000 in
theorem sp_X6_names (N : fw_F) (L : fw_G) (hW : ∀ t, ab_th (N 11) t → 0 ≤ N 14 t ∧ N 14 t ≤ 9) (hj : ∀ a b, ab_th (N 11) a → ab_th (N 11) b → N 15 a = N 15 b → a = b) : fw_SD mX6_names [fw_r 0] N L (fun r M2 L2 => r = none ∧ L2 = L ∧ (∀ k, ¬ k = 16 → M2 k = N k) ∧ M2 16 0 = N 14 0 ∧ ab_lab (N 11) (N 13) (N 14) (N 15) (fw_and (N 0 3) 2) (M2 16)) := by
  refine fw_SP_of pl_X6_names (ls := [_]) rfl (Nat.le_of_ble_eq_true rfl) fun hA hM => ?_
  refine fw_iconst dX6_names_0 ⟨by decide, by decide⟩ ?_
  refine fw_istore_n (ls2 := [_, _]) dX6_names_1 rfl (by decide) rfl ?_
  exact lp_X6_names_2 N L hW hj 13 0 N (by decide) (by decide) (by decide) (fun _ _ => rfl) (fun u a b => by omega)
