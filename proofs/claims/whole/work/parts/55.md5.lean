set_option maxRecDepth 20000 in
set_option maxHeartbeats 4000000 in
theorem lp_X6_first_1 (M : fw_F) (L : fw_G) (hn : 1 ≤ M 0 2 ∧ M 0 2 ≤ 4) (hb : ∀ p, 0 ≤ p → p < 4 → 0 ≤ M 8 p ∧ M 1 p ≤ 20) : ∀ (q : Nat) (b t : Int), M 0 2 - t < q → 0 ≤ t → t ≤ M 0 2 → ab_fs (M 8) (M 1) (md_G M) t b → fw_D mX6_first 5 [some (fw_r 0), some (fw_r 1), some (fw_i b), some (fw_i t)] [] M L (fun r M2 L2 => M2 = M ∧ L2 = L ∧ ∃ b, r = some (fw_i b) ∧ ab_fs (M 8) (M 1) (md_G M) (M 0 2) b) := by
  intro q
  induction q with
  | zero => intro b t h0 h1 h2; omega
  | succ q ih =>
    intro b t h0 h1 h2 hf
    refine fw_iload_n dX6_first_5 rfl rfl ?_
    refine fw_aload_n dX6_first_6 rfl rfl ?_
    refine fw_geti 2 rfl dX6_first_7 ff_6_7 ly1_0 ⟨by decide, by decide⟩ rfl ?_
    refine fw_icmp_ge 76 dX6_first_10 (by decide) (fun h10 => ?_) (fun h10 => ?_)
    · skip
      refine fw_iload_n dX6_first_76 rfl rfl ?_
      refine fw_iret dX6_first_77 ⟨rfl, rfl, rfl⟩ ?_
      rw [show t = M 0 2 by omega] at hf
      exact ⟨rfl, rfl, b, rfl, hf⟩
    · skip
      have hbt := hb t (by omega) (by omega)
      refine fw_aload_n dX6_first_13 rfl rfl ?_
      refine fw_getr 12 8 rfl dX6_first_14 ff_6_36 ly1_0 ⟨by decide, by decide⟩ rfl rfl (by decide) ?_
      refine fw_iload_n dX6_first_17 rfl rfl ?_
      refine fw_iaload dX6_first_18 ly1_8 ⟨by decide, by decide⟩ ⟨by omega, by omega⟩ ?_
      refine fw_aload_n dX6_first_19 rfl rfl ?_
      refine fw_iload_n dX6_first_20 rfl rfl ?_
      refine fw_iaload dX6_first_21 ly1_1 ⟨by decide, by decide⟩ ⟨by omega, by omega⟩ ?_
      refine fw_icmp_ge 70 dX6_first_22 (by decide) (fun h22 => ?_) (fun h22 => ?_)
      · skip
        refine fw_iinc (ls2 := [_, _, _, _]) dX6_first_70 rfl ⟨by omega, by omega⟩ (by decide) rfl ?_
        refine fw_goto 5 dX6_first_73 (by decide) ?_
        refine ih b (t + 1) (by omega) (by omega) (by omega) ?_
        rcases hf with ⟨f1, f2⟩ | ⟨f1, f2, f3, f4⟩
        · refine Or.inl ⟨f1, fun p a b => ?_⟩
          by_cases hp : p = t
          · subst hp; exact h22
          · exact f2 p a (by omega)
        · refine Or.inr ⟨f1, by omega, f3, fun p a b c => ?_⟩
          by_cases hp : p = t
          · subst hp; omega
          · exact f4 p a (by omega) c
      · skip
        refine fw_iload_n dX6_first_25 rfl rfl ?_
        refine fw_bipush dX6_first_26 ⟨by decide, by decide⟩ (by decide) ?_
        refine fw_icmp_eq 68 dX6_first_28 (by decide) (fun h28 => ?_) (fun h28 => ?_)
        · skip
          refine fw_iload_n dX6_first_68 rfl rfl ?_
          refine fw_istore_n (ls2 := [_, _, _, _]) dX6_first_69 rfl (by decide) rfl ?_
          refine fw_iinc (ls2 := [_, _, _, _]) dX6_first_70 rfl ⟨by omega, by omega⟩ (by decide) rfl ?_
          refine fw_goto 5 dX6_first_73 (by decide) ?_
          refine ih t (t + 1) (by omega) (by omega) (by omega) (Or.inr ⟨by omega, by omega, by omega, fun p a b c => ?_⟩)
          by_cases hp : p = t
          · subst hp; exact Or.inr ⟨rfl, Int.le_refl _⟩
          · rcases hf with ⟨f1, f2⟩ | ⟨f1, f2, f3, f4⟩
            · have := f2 p a (by omega); omega
            · omega
        · skip
          have hfb := hf
          rcases hfb with ⟨f1, f2⟩ | ⟨f1, f2, f3, f4⟩
          · exact absurd f1 h28
          have hbb := hb b f1 (by omega)
          refine fw_aload_n dX6_first_31 rfl rfl ?_
          refine fw_getr 6 2 rfl dX6_first_32 ff_6_17 ly1_0 ⟨by decide, by decide⟩ rfl rfl (by decide) ?_
          refine fw_iload_n dX6_first_35 rfl rfl ?_
          refine fw_aload_n dX6_first_36 rfl rfl ?_
          refine fw_getr 12 8 rfl dX6_first_37 ff_6_36 ly1_0 ⟨by decide, by decide⟩ rfl rfl (by decide) ?_
          refine fw_iload_n dX6_first_40 rfl rfl ?_
          refine fw_iaload dX6_first_41 ly1_8 ⟨by decide, by decide⟩ ⟨by omega, by omega⟩ ?_
          refine fw_pS mX6_changeAt [_, _] dX6_first_42 mv_X6_changeAt lk_6_119 ⟨⟨by decide, by decide⟩, rfl, rfl, rfl, by decide, by decide⟩ rfl rfl (Nat.le_of_ble_eq_true rfl) (sp_X6_changeAt _ _ _ _ (by omega) (by omega)) ?_
          refine fw_iconst dX6_first_45 ⟨by decide, by decide⟩ ?_
          refine fw_iadd dX6_first_46 ⟨by omega, by omega⟩ ?_
          refine fw_iaload dX6_first_47 ly1_2 ⟨by decide, by decide⟩ ⟨by omega, by omega⟩ ?_
          refine fw_aload_n dX6_first_48 rfl rfl ?_
          refine fw_getr 6 2 rfl dX6_first_49 ff_6_17 ly1_0 ⟨by decide, by decide⟩ rfl rfl (by decide) ?_
          refine fw_iload_n dX6_first_52 rfl rfl ?_
          refine fw_aload_n dX6_first_53 rfl rfl ?_
          refine fw_getr 12 8 rfl dX6_first_54 ff_6_36 ly1_0 ⟨by decide, by decide⟩ rfl rfl (by decide) ?_
          refine fw_iload_n dX6_first_57 rfl rfl ?_
          refine fw_iaload dX6_first_58 ly1_8 ⟨by decide, by decide⟩ ⟨by omega, by omega⟩ ?_
          refine fw_pS mX6_changeAt [_, _] dX6_first_59 mv_X6_changeAt lk_6_119 ⟨⟨by decide, by decide⟩, rfl, rfl, rfl, by decide, by decide⟩ rfl rfl (Nat.le_of_ble_eq_true rfl) (sp_X6_changeAt _ _ _ _ (by omega) (by omega)) ?_
          refine fw_iconst dX6_first_62 ⟨by decide, by decide⟩ ?_
          refine fw_iadd dX6_first_63 ⟨by omega, by omega⟩ ?_
          refine fw_iaload dX6_first_64 ly1_2 ⟨by decide, by decide⟩ ⟨by omega, by omega⟩ ?_
          rw [md_Gv M (20 * t + M 8 t) 4, md_Gv M (20 * b + M 8 b) 4]
          refine fw_icmp_ge 70 dX6_first_65 (by decide) (fun h65 => ?_) (fun h65 => ?_)
          · skip
            refine fw_iinc (ls2 := [_, _, _, _]) dX6_first_70 rfl ⟨by omega, by omega⟩ (by decide) rfl ?_
            refine fw_goto 5 dX6_first_73 (by decide) ?_
            refine ih b (t + 1) (by omega) (by omega) (by omega) (Or.inr ⟨f1, by omega, f3, fun p a b c => ?_⟩)
            by_cases hp : p = t
            · subst hp; omega
            · exact f4 p a (by omega) c
          · skip
            refine fw_iload_n dX6_first_68 rfl rfl ?_
            refine fw_istore_n (ls2 := [_, _, _, _]) dX6_first_69 rfl (by decide) rfl ?_
            refine fw_iinc (ls2 := [_, _, _, _]) dX6_first_70 rfl ⟨by omega, by omega⟩ (by decide) rfl ?_
            refine fw_goto 5 dX6_first_73 (by decide) ?_
            refine ih t (t + 1) (by omega) (by omega) (by omega) (Or.inr ⟨by omega, by omega, by omega, fun p a b c => ?_⟩)
            by_cases hp : p = t
            · subst hp; exact Or.inr ⟨rfl, Int.le_refl _⟩
            · have := f4 p a (by omega) c
              omega

set_option maxRecDepth 20000 in
set_option maxHeartbeats 4000000 in
theorem sp_X6_first_1 (M : fw_F) (L : fw_G) (hn : 1 ≤ M 0 2 ∧ M 0 2 ≤ 4) (hb : ∀ p, 0 ≤ p → p < 4 → 0 ≤ M 8 p ∧ M 1 p ≤ 20) : fw_SD mX6_first [fw_r 0, fw_r 1] M L (fun r M2 L2 => M2 = M ∧ L2 = L ∧ ∃ b, r = some (fw_i b) ∧ ab_fs (M 8) (M 1) (md_G M) (M 0 2) b) := by
  refine fw_SP_of pl_X6_first (ls := [_, _]) rfl (Nat.le_of_ble_eq_true rfl) fun hA hM => ?_
  refine fw_bipush dX6_first_0 ⟨by decide, by decide⟩ (by decide) ?_
  refine fw_istore_n (ls2 := [_, _, _]) dX6_first_2 rfl (by decide) rfl ?_
  refine fw_iconst dX6_first_3 ⟨by decide, by decide⟩ ?_
  refine fw_istore_n (ls2 := [_, _, _, _]) dX6_first_4 rfl (by decide) rfl ?_
  exact lp_X6_first_1 M L hn hb 5 (-9) 0 (by omega) (by decide) (by omega) (Or.inl ⟨rfl, fun p a b => by omega⟩)

set_option maxRecDepth 20000 in
set_option maxHeartbeats 4000000 in
theorem lp_X6_first_9 (M : fw_F) (L : fw_G) (hn : 1 ≤ M 0 2 ∧ M 0 2 ≤ 4) (hb : ∀ p, 0 ≤ p → p < 4 → 0 ≤ M 8 p ∧ M 9 p ≤ 20) : ∀ (q : Nat) (b t : Int), M 0 2 - t < q → 0 ≤ t → t ≤ M 0 2 → ab_fs (M 8) (M 9) (md_G M) t b → fw_D mX6_first 5 [some (fw_r 0), some (fw_r 9), some (fw_i b), some (fw_i t)] [] M L (fun r M2 L2 => M2 = M ∧ L2 = L ∧ ∃ b, r = some (fw_i b) ∧ ab_fs (M 8) (M 9) (md_G M) (M 0 2) b) := by
  intro q
  induction q with
  | zero => intro b t h0 h1 h2; omega
  | succ q ih =>
    intro b t h0 h1 h2 hf
    refine fw_iload_n dX6_first_5 rfl rfl ?_
    refine fw_aload_n dX6_first_6 rfl rfl ?_
    refine fw_geti 2 rfl dX6_first_7 ff_6_7 ly1_0 ⟨by decide, by decide⟩ rfl ?_
    refine fw_icmp_ge 76 dX6_first_10 (by decide) (fun h10 => ?_) (fun h10 => ?_)
    · skip
      refine fw_iload_n dX6_first_76 rfl rfl ?_
      refine fw_iret dX6_first_77 ⟨rfl, rfl, rfl⟩ ?_
      rw [show t = M 0 2 by omega] at hf
      exact ⟨rfl, rfl, b, rfl, hf⟩
    · skip
      have hbt := hb t (by omega) (by omega)
      refine fw_aload_n dX6_first_13 rfl rfl ?_
      refine fw_getr 12 8 rfl dX6_first_14 ff_6_36 ly1_0 ⟨by decide, by decide⟩ rfl rfl (by decide) ?_
      refine fw_iload_n dX6_first_17 rfl rfl ?_
      refine fw_iaload dX6_first_18 ly1_8 ⟨by decide, by decide⟩ ⟨by omega, by omega⟩ ?_
      refine fw_aload_n dX6_first_19 rfl rfl ?_
      refine fw_iload_n dX6_first_20 rfl rfl ?_
      refine fw_iaload dX6_first_21 ly1_9 ⟨by decide, by decide⟩ ⟨by omega, by omega⟩ ?_
      refine fw_icmp_ge 70 dX6_first_22 (by decide) (fun h22 => ?_) (fun h22 => ?_)
      · skip
        refine fw_iinc (ls2 := [_, _, _, _]) dX6_first_70 rfl ⟨by omega, by omega⟩ (by decide) rfl ?_
        refine fw_goto 5 dX6_first_73 (by decide) ?_
        refine ih b (t + 1) (by omega) (by omega) (by omega) ?_
        rcases hf with ⟨f1, f2⟩ | ⟨f1, f2, f3, f4⟩
        · refine Or.inl ⟨f1, fun p a b => ?_⟩
          by_cases hp : p = t
          · subst hp; exact h22
          · exact f2 p a (by omega)
        · refine Or.inr ⟨f1, by omega, f3, fun p a b c => ?_⟩
          by_cases hp : p = t
          · subst hp; omega
          · exact f4 p a (by omega) c
      · skip
        refine fw_iload_n dX6_first_25 rfl rfl ?_
        refine fw_bipush dX6_first_26 ⟨by decide, by decide⟩ (by decide) ?_
        refine fw_icmp_eq 68 dX6_first_28 (by decide) (fun h28 => ?_) (fun h28 => ?_)
        · skip
          refine fw_iload_n dX6_first_68 rfl rfl ?_
          refine fw_istore_n (ls2 := [_, _, _, _]) dX6_first_69 rfl (by decide) rfl ?_
          refine fw_iinc (ls2 := [_, _, _, _]) dX6_first_70 rfl ⟨by omega, by omega⟩ (by decide) rfl ?_
          refine fw_goto 5 dX6_first_73 (by decide) ?_
          refine ih t (t + 1) (by omega) (by omega) (by omega) (Or.inr ⟨by omega, by omega, by omega, fun p a b c => ?_⟩)
          by_cases hp : p = t
          · subst hp; exact Or.inr ⟨rfl, Int.le_refl _⟩
          · rcases hf with ⟨f1, f2⟩ | ⟨f1, f2, f3, f4⟩
            · have := f2 p a (by omega); omega
            · omega
        · skip
          have hfb := hf
          rcases hfb with ⟨f1, f2⟩ | ⟨f1, f2, f3, f4⟩
          · exact absurd f1 h28
          have hbb := hb b f1 (by omega)
          refine fw_aload_n dX6_first_31 rfl rfl ?_
          refine fw_getr 6 2 rfl dX6_first_32 ff_6_17 ly1_0 ⟨by decide, by decide⟩ rfl rfl (by decide) ?_
          refine fw_iload_n dX6_first_35 rfl rfl ?_
          refine fw_aload_n dX6_first_36 rfl rfl ?_
          refine fw_getr 12 8 rfl dX6_first_37 ff_6_36 ly1_0 ⟨by decide, by decide⟩ rfl rfl (by decide) ?_
          refine fw_iload_n dX6_first_40 rfl rfl ?_
          refine fw_iaload dX6_first_41 ly1_8 ⟨by decide, by decide⟩ ⟨by omega, by omega⟩ ?_
          refine fw_pS mX6_changeAt [_, _] dX6_first_42 mv_X6_changeAt lk_6_119 ⟨⟨by decide, by decide⟩, rfl, rfl, rfl, by decide, by decide⟩ rfl rfl (Nat.le_of_ble_eq_true rfl) (sp_X6_changeAt _ _ _ _ (by omega) (by omega)) ?_
          refine fw_iconst dX6_first_45 ⟨by decide, by decide⟩ ?_
          refine fw_iadd dX6_first_46 ⟨by omega, by omega⟩ ?_
          refine fw_iaload dX6_first_47 ly1_2 ⟨by decide, by decide⟩ ⟨by omega, by omega⟩ ?_
          refine fw_aload_n dX6_first_48 rfl rfl ?_
          refine fw_getr 6 2 rfl dX6_first_49 ff_6_17 ly1_0 ⟨by decide, by decide⟩ rfl rfl (by decide) ?_
          refine fw_iload_n dX6_first_52 rfl rfl ?_
          refine fw_aload_n dX6_first_53 rfl rfl ?_
          refine fw_getr 12 8 rfl dX6_first_54 ff_6_36 ly1_0 ⟨by decide, by decide⟩ rfl rfl (by decide) ?_
          refine fw_iload_n dX6_first_57 rfl rfl ?_
          refine fw_iaload dX6_first_58 ly1_8 ⟨by decide, by decide⟩ ⟨by omega, by omega⟩ ?_
          refine fw_pS mX6_changeAt [_, _] dX6_first_59 mv_X6_changeAt lk_6_119 ⟨⟨by decide, by decide⟩, rfl, rfl, rfl, by decide, by decide⟩ rfl rfl (Nat.le_of_ble_eq_true rfl) (sp_X6_changeAt _ _ _ _ (by omega) (by omega)) ?_
          refine fw_iconst dX6_first_62 ⟨by decide, by decide⟩ ?_
          refine fw_iadd dX6_first_63 ⟨by omega, by omega⟩ ?_
          refine fw_iaload dX6_first_64 ly1_2 ⟨by decide, by decide⟩ ⟨by omega, by omega⟩ ?_
          rw [md_Gv M (20 * t + M 8 t) 4, md_Gv M (20 * b + M 8 b) 4]
          refine fw_icmp_ge 70 dX6_first_65 (by decide) (fun h65 => ?_) (fun h65 => ?_)
          · skip
            refine fw_iinc (ls2 := [_, _, _, _]) dX6_first_70 rfl ⟨by omega, by omega⟩ (by decide) rfl ?_
            refine fw_goto 5 dX6_first_73 (by decide) ?_
            refine ih b (t + 1) (by omega) (by omega) (by omega) (Or.inr ⟨f1, by omega, f3, fun p a b c => ?_⟩)
            by_cases hp : p = t
            · subst hp; omega
            · exact f4 p a (by omega) c
          · skip
            refine fw_iload_n dX6_first_68 rfl rfl ?_
            refine fw_istore_n (ls2 := [_, _, _, _]) dX6_first_69 rfl (by decide) rfl ?_
            refine fw_iinc (ls2 := [_, _, _, _]) dX6_first_70 rfl ⟨by omega, by omega⟩ (by decide) rfl ?_
            refine fw_goto 5 dX6_first_73 (by decide) ?_
            refine ih t (t + 1) (by omega) (by omega) (by omega) (Or.inr ⟨by omega, by omega, by omega, fun p a b c => ?_⟩)
            by_cases hp : p = t
            · subst hp; exact Or.inr ⟨rfl, Int.le_refl _⟩
            · have := f4 p a (by omega) c
              omega

set_option maxRecDepth 20000 in
set_option maxHeartbeats 4000000 in
theorem sp_X6_first_9 (M : fw_F) (L : fw_G) (hn : 1 ≤ M 0 2 ∧ M 0 2 ≤ 4) (hb : ∀ p, 0 ≤ p → p < 4 → 0 ≤ M 8 p ∧ M 9 p ≤ 20) : fw_SD mX6_first [fw_r 0, fw_r 9] M L (fun r M2 L2 => M2 = M ∧ L2 = L ∧ ∃ b, r = some (fw_i b) ∧ ab_fs (M 8) (M 9) (md_G M) (M 0 2) b) := by
  refine fw_SP_of pl_X6_first (ls := [_, _]) rfl (Nat.le_of_ble_eq_true rfl) fun hA hM => ?_
  refine fw_bipush dX6_first_0 ⟨by decide, by decide⟩ (by decide) ?_
  refine fw_istore_n (ls2 := [_, _, _]) dX6_first_2 rfl (by decide) rfl ?_
  refine fw_iconst dX6_first_3 ⟨by decide, by decide⟩ ?_
  refine fw_istore_n (ls2 := [_, _, _, _]) dX6_first_4 rfl (by decide) rfl ?_
  exact lp_X6_first_9 M L hn hb 5 (-9) 0 (by omega) (by decide) (by omega) (Or.inl ⟨rfl, fun p a b => by omega⟩)

set_option maxRecDepth 20000 in
set_option maxHeartbeats 4000000 in
theorem sp_X6_restarts (N : fw_F) (L : fw_G) : fw_SD mX6_restarts [fw_r 0] N L (fun r M2 L2 => r = none ∧ L2 = L ∧ (∀ k, ¬ k = 8 → M2 k = N k) ∧ ∀ p, 0 ≤ p → p < 4 → M2 8 p = 0) := by
  refine fw_SP_of pl_X6_restarts (ls := [_]) rfl (Nat.le_of_ble_eq_true rfl) fun hA hM => ?_
  refine fw_iconst dX6_restarts_0 ⟨by decide, by decide⟩ ?_
  refine fw_istore_n (ls2 := [_, _]) dX6_restarts_1 rfl (by decide) rfl ?_
  refine fw_iload_n dX6_restarts_2 rfl rfl ?_
  refine fw_iconst dX6_restarts_3 ⟨by decide, by decide⟩ ?_
  refine fw_icmp_ge 20 dX6_restarts_4 (by decide) (fun h4 => ?_) (fun h4 => ?_)
  · skip
    exfalso; omega
  · skip
    refine fw_aload_n dX6_restarts_7 rfl rfl ?_
    refine fw_getr 12 8 rfl dX6_restarts_8 ff_6_36 ly1_0 ⟨by decide, by decide⟩ rfl rfl (by decide) ?_
    refine fw_iload_n dX6_restarts_11 rfl rfl ?_
    refine fw_iconst dX6_restarts_12 ⟨by decide, by decide⟩ ?_
    refine fw_iastore dX6_restarts_13 ly1_8 (by decide) ⟨by decide, by decide⟩ ⟨by omega, by omega⟩ ?_
    refine fw_iincv (ls2 := [_, _]) (1) dX6_restarts_14 rfl (by decide) ⟨by decide, by decide⟩ (by decide) rfl ?_
    refine fw_goto 2 dX6_restarts_17 (by decide) ?_
    refine fw_iload_n dX6_restarts_2 rfl rfl ?_
    refine fw_iconst dX6_restarts_3 ⟨by decide, by decide⟩ ?_
    refine fw_icmp_ge 20 dX6_restarts_4 (by decide) (fun h4 => ?_) (fun h4 => ?_)
    · skip
      exfalso; omega
    · skip
      refine fw_aload_n dX6_restarts_7 rfl rfl ?_
      refine fw_getr 12 8 rfl dX6_restarts_8 ff_6_36 ly1_0 ⟨by decide, by decide⟩ rfl rfl (by decide) ?_
      refine fw_iload_n dX6_restarts_11 rfl rfl ?_
      refine fw_iconst dX6_restarts_12 ⟨by decide, by decide⟩ ?_
      refine fw_iastore dX6_restarts_13 ly1_8 (by decide) ⟨by decide, by decide⟩ ⟨by omega, by omega⟩ ?_
      refine fw_iincv (ls2 := [_, _]) (2) dX6_restarts_14 rfl (by decide) ⟨by decide, by decide⟩ (by decide) rfl ?_
      refine fw_goto 2 dX6_restarts_17 (by decide) ?_
      refine fw_iload_n dX6_restarts_2 rfl rfl ?_
      refine fw_iconst dX6_restarts_3 ⟨by decide, by decide⟩ ?_
      refine fw_icmp_ge 20 dX6_restarts_4 (by decide) (fun h4 => ?_) (fun h4 => ?_)
      · skip
        exfalso; omega
      · skip
        refine fw_aload_n dX6_restarts_7 rfl rfl ?_
        refine fw_getr 12 8 rfl dX6_restarts_8 ff_6_36 ly1_0 ⟨by decide, by decide⟩ rfl rfl (by decide) ?_
        refine fw_iload_n dX6_restarts_11 rfl rfl ?_
        refine fw_iconst dX6_restarts_12 ⟨by decide, by decide⟩ ?_
        refine fw_iastore dX6_restarts_13 ly1_8 (by decide) ⟨by decide, by decide⟩ ⟨by omega, by omega⟩ ?_
        refine fw_iincv (ls2 := [_, _]) (3) dX6_restarts_14 rfl (by decide) ⟨by decide, by decide⟩ (by decide) rfl ?_
        refine fw_goto 2 dX6_restarts_17 (by decide) ?_
        refine fw_iload_n dX6_restarts_2 rfl rfl ?_
        refine fw_iconst dX6_restarts_3 ⟨by decide, by decide⟩ ?_
        refine fw_icmp_ge 20 dX6_restarts_4 (by decide) (fun h4 => ?_) (fun h4 => ?_)
        · skip
          exfalso; omega
        · skip
          refine fw_aload_n dX6_restarts_7 rfl rfl ?_
          refine fw_getr 12 8 rfl dX6_restarts_8 ff_6_36 ly1_0 ⟨by decide, by decide⟩ rfl rfl (by decide) ?_
          refine fw_iload_n dX6_restarts_11 rfl rfl ?_
          refine fw_iconst dX6_restarts_12 ⟨by decide, by decide⟩ ?_
          refine fw_iastore dX6_restarts_13 ly1_8 (by decide) ⟨by decide, by decide⟩ ⟨by omega, by omega⟩ ?_
          refine fw_iincv (ls2 := [_, _]) (4) dX6_restarts_14 rfl (by decide) ⟨by decide, by decide⟩ (by decide) rfl ?_
          refine fw_goto 2 dX6_restarts_17 (by decide) ?_
          refine fw_iload_n dX6_restarts_2 rfl rfl ?_
          refine fw_iconst dX6_restarts_3 ⟨by decide, by decide⟩ ?_
          refine fw_icmp_ge 20 dX6_restarts_4 (by decide) (fun h4 => ?_) (fun h4 => ?_)
          · skip
            refine fw_vret dX6_restarts_20 ⟨rfl, rfl, rfl⟩ ?_
            refine ⟨rfl, rfl, fun k a => by simp only [fw_updne a], fun p a b => ?_⟩
            rcases (show p = 0 ∨ p = 1 ∨ p = 2 ∨ p = 3 by omega) with rfl | rfl | rfl | rfl <;> simp [fw_upd]
          · skip
            exfalso; omega

set_option maxRecDepth 20000 in
set_option maxHeartbeats 4000000 in
theorem lp_X6_leaves_86 (z : Int) (m x n : Int) (M : fw_F) (L : fw_G) (post : fw_P) (hn : M 0 2 = n ∧ 1 ≤ n ∧ n ≤ 4) (hx : 0 ≤ x ∧ x < 80) (hgo : ∀ is, (is = 0 ∨ is = 1) → (is = 1 ↔ (z = 1 ∨ ∃ p, 0 ≤ p ∧ p < n ∧ M 7 p < md_G M x (6 + p))) → fw_D mX6_leaves 131 [some (fw_r 0), some (fw_i m), some (fw_i (12 * x)), some (fw_i is)] [] M L post) : ∀ (q : Nat) (is p : Int), n - p < q → 0 ≤ p → p ≤ n → (is = 0 ∨ is = 1) → (is = 1 ↔ (z = 1 ∨ ∃ k, 0 ≤ k ∧ k < p ∧ M 7 k < md_G M x (6 + k))) → fw_D mX6_leaves 86 [some (fw_r 0), some (fw_i m), some (fw_i (12 * x)), some (fw_i is), some (fw_i p)] [] M L post := by
  intro q
  induction q with
  | zero => intro is p h0 h1 h2; omega
  | succ q ih =>
    intro is p h0 h1 h2 h3 h4
    refine fw_iload dX6_leaves_86 rfl ?_
    refine fw_aload_n dX6_leaves_88 rfl rfl ?_
    refine fw_geti 2 rfl dX6_leaves_89 ff_6_7 ly1_0 ⟨by decide, by decide⟩ rfl ?_
    rw [hn.1]
    refine fw_icmp_ge 131 dX6_leaves_92 (by decide) (fun h92 => ?_) (fun h92 => ?_)
    · skip
      refine fw_take 4 ?_
      rw [show p = n by omega] at h4
      exact hgo is h3 h4
    · skip
      refine fw_iload_n dX6_leaves_95 rfl rfl ?_
      refine fw_aload_n dX6_leaves_96 rfl rfl ?_
      refine fw_getr 11 7 rfl dX6_leaves_97 ff_6_33 ly1_0 ⟨by decide, by decide⟩ rfl rfl (by decide) ?_
      refine fw_iload dX6_leaves_100 rfl ?_
      refine fw_iaload dX6_leaves_102 ly1_7 ⟨by decide, by decide⟩ ⟨by omega, by omega⟩ ?_
      refine fw_aload_n dX6_leaves_103 rfl rfl ?_
      refine fw_getr 6 2 rfl dX6_leaves_104 ff_6_17 ly1_0 ⟨by decide, by decide⟩ rfl rfl (by decide) ?_
      refine fw_iload_n dX6_leaves_107 rfl rfl ?_
      refine fw_bipush dX6_leaves_108 ⟨by decide, by decide⟩ (by decide) ?_
      refine fw_iadd dX6_leaves_110 ⟨by omega, by omega⟩ ?_
      refine fw_iload dX6_leaves_111 rfl ?_
      refine fw_iadd dX6_leaves_113 ⟨by omega, by omega⟩ ?_
      refine fw_iaload dX6_leaves_114 ly1_2 ⟨by decide, by decide⟩ ⟨by omega, by omega⟩ ?_
      rw [show 12 * x + 6 + p = 12 * x + (6 + p) by omega, md_Gv M x (6 + p)]
      refine fw_icmp_ge 122 dX6_leaves_115 (by decide) (fun h115 => ?_) (fun h115 => ?_)
      · skip
        refine fw_iconst dX6_leaves_122 ⟨by decide, by decide⟩ ?_
        refine fw_ior dX6_leaves_123 ?_
        refine fw_istore_n (ls2 := [_, _, _, _, _]) dX6_leaves_124 rfl (by decide) rfl ?_
        refine fw_iinc (ls2 := [_, _, _, _, _]) dX6_leaves_125 rfl ⟨by omega, by omega⟩ (by decide) rfl ?_
        refine fw_goto 86 dX6_leaves_128 (by decide) ?_
        rw [fw_or01 h3 (by first | exact Or.inl rfl | exact Or.inr rfl)]
        rw [if_pos (show (0 : Int) = 0 from rfl)]
        refine ih _ (p + 1) (by omega) (by omega) (by omega) (by first | exact h3 | exact Or.inr rfl) ?_
        rw [h4]
        constructor
        · rintro (q1 | ⟨k, a, b, c⟩)
          · exact Or.inl q1
          · exact Or.inr ⟨k, a, by omega, c⟩
        · rintro (q1 | ⟨k, a, b, c⟩)
          · exact Or.inl q1
          · by_cases hk : k = p
            · subst hk; omega
            · exact Or.inr ⟨k, a, by omega, c⟩
      · skip
        refine fw_iconst dX6_leaves_118 ⟨by decide, by decide⟩ ?_
        refine fw_goto 123 dX6_leaves_119 (by decide) ?_
        refine fw_ior dX6_leaves_123 ?_
        refine fw_istore_n (ls2 := [_, _, _, _, _]) dX6_leaves_124 rfl (by decide) rfl ?_
        refine fw_iinc (ls2 := [_, _, _, _, _]) dX6_leaves_125 rfl ⟨by omega, by omega⟩ (by decide) rfl ?_
        refine fw_goto 86 dX6_leaves_128 (by decide) ?_
        rw [fw_or01 h3 (by first | exact Or.inl rfl | exact Or.inr rfl)]
        rw [if_neg (show ¬ (1 : Int) = 0 by decide)]
        refine ih _ (p + 1) (by omega) (by omega) (by omega) (by first | exact h3 | exact Or.inr rfl) ?_
        exact ⟨fun _ => Or.inr ⟨p, by omega, by omega, by omega⟩, fun _ => rfl⟩

set_option maxRecDepth 20000 in
set_option maxHeartbeats 4000000 in
theorem lp_X6_leaves (T : Int) (N : fw_F) (O : Int → Int) (L : fw_G) (hwf : ab_wf (N 0 2) (N 1) (md_G N) O T) (hap : ab_apok (N 6)) : ∀ (q : Nat) (b : Int) (j : Nat) (M : fw_F), T - j < q → (j : Int) ≤ T → (∀ k, ¬ k = 7 → ¬ k = 8 → M k = N k) → (∀ p, 0 ≤ p → p < 4 → M 8 p = ab_cnt O j p) → (∀ p, 0 ≤ p → p < 4 → M 7 p = ab_FO (md_G N) O (N 6) j p) → ab_fs (M 8) (N 1) (md_G N) (N 0 2) b → fw_D mX6_leaves 34 [some (fw_r 0), some (fw_i b)] [] M L (fun r M2 L2 => r = none ∧ L2 = L ∧ (∀ k, ¬ k = 7 → ¬ k = 8 → M2 k = N k) ∧ ∀ p, 0 ≤ p → p < 4 → M2 7 p = ab_FO (md_G N) O (N 6) T.toNat p) := by
  intro q
  induction q with
  | zero => intro b j M h0 h1; omega
  | succ q ih =>
    intro b j M h0 h1 hk h8 h7 hf
    have e0 := hk 0 (by decide) (by decide)
    have e1 := hk 1 (by decide) (by decide)
    have e2 := hk 2 (by decide) (by decide)
    have e6 := hk 6 (by decide) (by decide)
    have eG := md_G_of e2
    have hT80 := ab_T80 hwf
    have hmk := hwf.1
    have hmk1 := hmk.1
    have hmk2 := hmk.2.1
    have hfst := ab_first (v := N 1) hwf h1 (fun p a b => ⟨(hmk.2.2 p a b).1, Int.le_refl _⟩) (fun p a b => by rw [h8 p a b]; have := ab_cnt_le hwf h1 a b; omega) hf
    refine fw_iload_n dX6_leaves_34 rfl rfl ?_
    refine fw_bipush dX6_leaves_35 ⟨by decide, by decide⟩ (by decide) ?_
    refine fw_icmp_eq 193 dX6_leaves_37 (by decide) (fun h37 => ?_) (fun h37 => ?_)
    · skip
      refine fw_vret dX6_leaves_193 ⟨rfl, rfl, rfl⟩ ?_
      rcases hfst with ⟨f1, f2⟩ | ⟨k, k1, k2, k3, k4, k5, k6⟩
      · refine ⟨rfl, rfl, hk, fun p a b => ?_⟩
        have hjT : j = T.toNat := by
          rcases Int.lt_or_le (j : Int) T with z | z
          · exact absurd (hwf.2.2.2.2.1 j (by omega) z).2.2 (f2 j (Nat.le_refl j) z)
          · omega
        rw [h7 p a b, hjT]
      · have := (hwf.2.2.2.2.1 k (by omega) k2).1
        omega
    · skip
      rcases hfst with ⟨f1, f2⟩ | ⟨k, k1, k2, k3, k4, k5, k6⟩
      · exact absurd f1 h37
      have hkj : k = j := by
        rcases Nat.lt_or_ge j k with z | z
        · exact absurd (hwf.2.2.2.2.1 j (by omega) (by omega)).2.2 (k4 j (Nat.le_refl j) z)
        · omega
      subst hkj
      have hx := hwf.2.2.2.2.1 k (by omega) k2
      have hx0 := hx.1
      have hx1 := hx.2.1
      have hb4 : 0 ≤ b ∧ b < 4 := by omega
      have exx : 20 * b + M 8 b = O k := by rw [k5] at k6 ⊢; omega
      have h7b := h7 b hb4.1 hb4.2
      have hLF := ab_LF_ok hwf hap k h1 b hb4.1 hb4.2
      have hstep := ab_FO_step hwf hap k2
      refine fw_iload_n dX6_leaves_40 rfl rfl ?_
      refine fw_aload_n dX6_leaves_41 rfl rfl ?_
      refine fw_getr 12 8 rfl dX6_leaves_42 ff_6_36 ly1_0 ⟨by decide, by decide⟩ rfl rfl (by decide) ?_
      refine fw_iload_n dX6_leaves_45 rfl rfl ?_
      refine fw_iaload dX6_leaves_46 ly1_8 ⟨by decide, by decide⟩ ⟨by omega, by omega⟩ ?_
      refine fw_pS mX6_changeAt [_, _] dX6_leaves_47 mv_X6_changeAt lk_6_119 ⟨⟨by decide, by decide⟩, rfl, rfl, rfl, by decide, by decide⟩ rfl rfl (Nat.le_of_ble_eq_true rfl) (sp_X6_changeAt _ _ _ _ (by omega) (by omega)) ?_
      rw [exx]
      refine fw_istore_n (ls2 := [_, _, _]) dX6_leaves_50 rfl (by decide) rfl ?_
      refine fw_aload_n dX6_leaves_51 rfl rfl ?_
      refine fw_getr 10 6 rfl dX6_leaves_52 ff_6_30 ly1_0 ⟨by decide, by decide⟩ rfl rfl (by decide) ?_
      refine fw_iload_n dX6_leaves_55 rfl rfl ?_
      refine fw_iaload dX6_leaves_56 ly1_6 ⟨by decide, by decide⟩ ⟨by omega, by omega⟩ ?_
      refine fw_bipush dX6_leaves_57 ⟨by decide, by decide⟩ (by decide) ?_
      refine fw_icmp_eq 81 dX6_leaves_59 (by decide) (fun h59 => ?_) (fun h59 => ?_)
      · skip
        refine fw_iconst dX6_leaves_81 ⟨by decide, by decide⟩ ?_
        refine fw_istore_n (ls2 := [_, _, _, _]) dX6_leaves_82 rfl (by decide) rfl ?_
        refine fw_iconst dX6_leaves_83 ⟨by decide, by decide⟩ ?_
        refine fw_istore (ls2 := [_, _, _, _, _]) dX6_leaves_84 (by decide) rfl ?_
        refine lp_X6_leaves_86 _ b (O k) (N 0 2) M L _ ⟨by rw [e0], hmk.1, hmk.2.1⟩ ⟨hx0, hx1⟩ (fun is hi1 hi2 => ?_) 5 _ 0 (by omega) (by decide) (by omega) (by decide) ⟨fun q => Or.inl q, fun q => q.resolve_right (fun ⟨k, a, b, _⟩ => by omega)⟩
        have hFOr : 0 ≤ M 7 b ∧ M 7 b ≤ 20 := by rw [h7b]; unfold ab_FO; split <;> omega
        have h8b : M 8 b = O k % 20 := k6
        have hisE : is = 1 ↔ ((¬ N 6 (O k / 20) = -9 ∧ N 6 (O k / 20) ≤ O k % 20) ∨ ∃ p, 0 ≤ p ∧ p < N 0 2 ∧ ab_FO (md_G N) O (N 6) k p < md_G N (O k) (6 + p)) := by
          rw [hi2, eG]
          refine or_congr ?_ ?_
          · rw [e6, k5] at h59
            exact ⟨fun q => by omega, fun q => absurd h59 q.1⟩
          · constructor
            · rintro ⟨p, a, c, d⟩; exact ⟨p, a, c, by rw [← h7 p a (by have := hmk.2.1; omega)]; exact d⟩
            · rintro ⟨p, a, c, d⟩; exact ⟨p, a, c, by rw [h7 p a (by have := hmk.2.1; omega)]; exact d⟩
        have hFO : ∀ v, (v = if is = 1 ∧ M 8 b < M 7 b then M 8 b else M 7 b) → ∀ p, 0 ≤ p → p < 4 → fw_upd M 7 b v 7 p = ab_FO (md_G N) O (N 6) (k + 1) p := by
          intro v hv p a c
          rw [fw_updeq]
          by_cases hp : p = b
          · rw [if_pos hp, hp, hv, k5]
            rw [k5] at h8b h7b
            rw [h8b, h7b]
            by_cases q : is = 1 ∧ O k % 20 < ab_FO (md_G N) O (N 6) k (O k / 20)
            · rw [if_pos q]; exact (hstep.2.1 ⟨hisE.mp q.1, q.2⟩).symm
            · rw [if_neg q]; exact (hstep.2.2 (fun w => q ⟨hisE.mpr w.1, w.2⟩)).symm
          · rw [if_neg hp, h7 p a c]; exact (hstep.1 p a c (by rw [← k5]; exact hp)).symm
        refine fw_aload_n dX6_leaves_131 rfl rfl ?_
        refine fw_getr 11 7 rfl dX6_leaves_132 ff_6_33 ly1_0 ⟨by decide, by decide⟩ rfl rfl (by decide) ?_
        refine fw_iload_n dX6_leaves_135 rfl rfl ?_
        refine fw_iload_n dX6_leaves_136 rfl rfl ?_
        refine fw_if_eq 164 dX6_leaves_137 (by decide) (fun h137 => ?_) (fun h137 => ?_)
        · skip
          refine fw_aload_n dX6_leaves_164 rfl rfl ?_
          refine fw_getr 11 7 rfl dX6_leaves_165 ff_6_33 ly1_0 ⟨by decide, by decide⟩ rfl rfl (by decide) ?_
          refine fw_iload_n dX6_leaves_168 rfl rfl ?_
          refine fw_iaload dX6_leaves_169 ly1_7 ⟨by decide, by decide⟩ ⟨by omega, by omega⟩ ?_
          refine fw_iastore dX6_leaves_170 ly1_7 (by decide) ⟨by decide, by decide⟩ ⟨by omega, by omega⟩ ?_
          refine fw_aload_n dX6_leaves_171 rfl rfl ?_
          refine fw_getr 12 8 rfl dX6_leaves_172 ff_6_36 ly1_0 ⟨by decide, by decide⟩ rfl rfl (by decide) ?_
          refine fw_iload_n dX6_leaves_175 rfl rfl ?_
          refine fw_dup2 dX6_leaves_176 rfl rfl ?_
          refine fw_iaload dX6_leaves_177 ly1_8 ⟨by decide, by decide⟩ ⟨by omega, by omega⟩ ?_
          refine fw_iconst dX6_leaves_178 ⟨by decide, by decide⟩ ?_
          refine fw_iadd dX6_leaves_179 (by rw [fw_updne (by decide), h8 b hb4.1 hb4.2]; have := ab_cnt_le hwf h1 hb4.1 hb4.2; have := ab_cnt_0 O b k; have := hmk.2.2 b hb4.1 hb4.2; exact ⟨by omega, by omega⟩) ?_
          have h8n : ∀ (v : Int) p, 0 ≤ p → p < 4 → fw_upd (fw_upd M 7 b v) 8 b (fw_upd M 7 b v 8 b + 1) 8 p = ab_cnt O (k + 1) p := by
            intro v p a c
            rw [fw_updeq, fw_updne (by decide)]
            show _ = ab_cnt O k p + (if O k / 20 = p then 1 else 0)
            by_cases hp : p = b
            · rw [if_pos hp, hp, if_pos k5.symm, h8 b hb4.1 hb4.2]
            · rw [if_neg hp, if_neg (fun q => hp (by rw [k5]; exact q.symm)), Int.add_zero, h8 p a c]
          refine fw_iastore dX6_leaves_180 ly1_8 (by decide) ⟨by decide, by decide⟩ ⟨by omega, by omega⟩ ?_
          refine fw_aload_n dX6_leaves_181 rfl rfl ?_
          refine fw_aload_n dX6_leaves_182 rfl rfl ?_
          refine fw_getr 5 1 rfl dX6_leaves_183 ff_6_13 ly1_0 ⟨by decide, by decide⟩ rfl rfl (by decide) ?_
          refine fw_cV mX6_first [_] dX6_leaves_186 mv_X6_first lk_6_126 ⟨⟨by decide, by decide⟩, rfl, rfl, rfl, by decide, by decide⟩ ly1_0 ⟨by decide, by decide⟩ rfl rfl (Nat.le_of_ble_eq_true rfl) (sp_X6_first_1 _ _ (by rw [fw_updne (by decide), fw_updne (by decide), e0]; exact ⟨hmk.1, hmk.2.1⟩) (fun p a b => ⟨by rw [h8n _ p a b]; exact ab_cnt_0 O p (k + 1), by rw [fw_updne (by decide), fw_updne (by decide), e1]; exact (hmk.2.2 p a b).2.1⟩)) (fun r M1 L1 hp hM1 => ?_)
          obtain ⟨rfl, rfl, b2, rfl, hf2⟩ := hp
          refine fw_istore_n (ls2 := [_, _, _, _]) dX6_leaves_189 rfl (by decide) rfl ?_
          refine fw_goto 34 dX6_leaves_190 (by decide) ?_
          refine fw_take 2 ?_
          refine ih b2 (k + 1) _ (by omega) (by omega) (fun z a c => by rw [fw_updne c, fw_updne a]; exact hk z a c) (h8n _) (fun p a c => ?_) ?_
          · rw [fw_updne (show ¬ (7 : Int) = 8 by decide)]
            refine hFO _ ?_ p a c
            rw [if_neg (fun q => by omega)]
          · rw [fw_updne (show ¬ (1 : Int) = 8 by decide), fw_updne (show ¬ (1 : Int) = 7 by decide), e1, fw_updne (show ¬ (0 : Int) = 8 by decide), fw_updne (show ¬ (0 : Int) = 7 by decide), e0] at hf2
            have eG2 : ∀ v w, md_G (fw_upd (fw_upd M 7 b v) 8 b w) = md_G N := fun v w => md_G_of ((fw_updne (by decide)).trans ((fw_updne (by decide)).trans e2))
            rw [eG2] at hf2
            exact hf2
        · skip
          refine fw_aload_n dX6_leaves_140 rfl rfl ?_
          refine fw_getr 12 8 rfl dX6_leaves_141 ff_6_36 ly1_0 ⟨by decide, by decide⟩ rfl rfl (by decide) ?_
          refine fw_iload_n dX6_leaves_144 rfl rfl ?_
          refine fw_iaload dX6_leaves_145 ly1_8 ⟨by decide, by decide⟩ ⟨by omega, by omega⟩ ?_
          refine fw_aload_n dX6_leaves_146 rfl rfl ?_
          refine fw_getr 11 7 rfl dX6_leaves_147 ff_6_33 ly1_0 ⟨by decide, by decide⟩ rfl rfl (by decide) ?_
          refine fw_iload_n dX6_leaves_150 rfl rfl ?_
          refine fw_iaload dX6_leaves_151 ly1_7 ⟨by decide, by decide⟩ ⟨by omega, by omega⟩ ?_
          refine fw_icmp_ge 164 dX6_leaves_152 (by decide) (fun h152 => ?_) (fun h152 => ?_)
          · skip
            refine fw_aload_n dX6_leaves_164 rfl rfl ?_
            refine fw_getr 11 7 rfl dX6_leaves_165 ff_6_33 ly1_0 ⟨by decide, by decide⟩ rfl rfl (by decide) ?_
            refine fw_iload_n dX6_leaves_168 rfl rfl ?_
            refine fw_iaload dX6_leaves_169 ly1_7 ⟨by decide, by decide⟩ ⟨by omega, by omega⟩ ?_
            refine fw_iastore dX6_leaves_170 ly1_7 (by decide) ⟨by decide, by decide⟩ ⟨by omega, by omega⟩ ?_
            refine fw_aload_n dX6_leaves_171 rfl rfl ?_
            refine fw_getr 12 8 rfl dX6_leaves_172 ff_6_36 ly1_0 ⟨by decide, by decide⟩ rfl rfl (by decide) ?_
            refine fw_iload_n dX6_leaves_175 rfl rfl ?_
            refine fw_dup2 dX6_leaves_176 rfl rfl ?_
            refine fw_iaload dX6_leaves_177 ly1_8 ⟨by decide, by decide⟩ ⟨by omega, by omega⟩ ?_
            refine fw_iconst dX6_leaves_178 ⟨by decide, by decide⟩ ?_
            refine fw_iadd dX6_leaves_179 (by rw [fw_updne (by decide), h8 b hb4.1 hb4.2]; have := ab_cnt_le hwf h1 hb4.1 hb4.2; have := ab_cnt_0 O b k; have := hmk.2.2 b hb4.1 hb4.2; exact ⟨by omega, by omega⟩) ?_
            have h8n : ∀ (v : Int) p, 0 ≤ p → p < 4 → fw_upd (fw_upd M 7 b v) 8 b (fw_upd M 7 b v 8 b + 1) 8 p = ab_cnt O (k + 1) p := by
              intro v p a c
              rw [fw_updeq, fw_updne (by decide)]
              show _ = ab_cnt O k p + (if O k / 20 = p then 1 else 0)
              by_cases hp : p = b
              · rw [if_pos hp, hp, if_pos k5.symm, h8 b hb4.1 hb4.2]
              · rw [if_neg hp, if_neg (fun q => hp (by rw [k5]; exact q.symm)), Int.add_zero, h8 p a c]
            refine fw_iastore dX6_leaves_180 ly1_8 (by decide) ⟨by decide, by decide⟩ ⟨by omega, by omega⟩ ?_
            refine fw_aload_n dX6_leaves_181 rfl rfl ?_
            refine fw_aload_n dX6_leaves_182 rfl rfl ?_
            refine fw_getr 5 1 rfl dX6_leaves_183 ff_6_13 ly1_0 ⟨by decide, by decide⟩ rfl rfl (by decide) ?_
            refine fw_cV mX6_first [_] dX6_leaves_186 mv_X6_first lk_6_126 ⟨⟨by decide, by decide⟩, rfl, rfl, rfl, by decide, by decide⟩ ly1_0 ⟨by decide, by decide⟩ rfl rfl (Nat.le_of_ble_eq_true rfl) (sp_X6_first_1 _ _ (by rw [fw_updne (by decide), fw_updne (by decide), e0]; exact ⟨hmk.1, hmk.2.1⟩) (fun p a b => ⟨by rw [h8n _ p a b]; exact ab_cnt_0 O p (k + 1), by rw [fw_updne (by decide), fw_updne (by decide), e1]; exact (hmk.2.2 p a b).2.1⟩)) (fun r M1 L1 hp hM1 => ?_)
            obtain ⟨rfl, rfl, b2, rfl, hf2⟩ := hp
            refine fw_istore_n (ls2 := [_, _, _, _]) dX6_leaves_189 rfl (by decide) rfl ?_
            refine fw_goto 34 dX6_leaves_190 (by decide) ?_
            refine fw_take 2 ?_
            refine ih b2 (k + 1) _ (by omega) (by omega) (fun z a c => by rw [fw_updne c, fw_updne a]; exact hk z a c) (h8n _) (fun p a c => ?_) ?_
            · rw [fw_updne (show ¬ (7 : Int) = 8 by decide)]
              refine hFO _ ?_ p a c
              rw [if_neg (fun q => by omega)]
            · rw [fw_updne (show ¬ (1 : Int) = 8 by decide), fw_updne (show ¬ (1 : Int) = 7 by decide), e1, fw_updne (show ¬ (0 : Int) = 8 by decide), fw_updne (show ¬ (0 : Int) = 7 by decide), e0] at hf2
              have eG2 : ∀ v w, md_G (fw_upd (fw_upd M 7 b v) 8 b w) = md_G N := fun v w => md_G_of ((fw_updne (by decide)).trans ((fw_updne (by decide)).trans e2))
              rw [eG2] at hf2
              exact hf2
          · skip
            refine fw_aload_n dX6_leaves_155 rfl rfl ?_
            refine fw_getr 12 8 rfl dX6_leaves_156 ff_6_36 ly1_0 ⟨by decide, by decide⟩ rfl rfl (by decide) ?_
            refine fw_iload_n dX6_leaves_159 rfl rfl ?_
            refine fw_iaload dX6_leaves_160 ly1_8 ⟨by decide, by decide⟩ ⟨by omega, by omega⟩ ?_
            refine fw_goto 170 dX6_leaves_161 (by decide) ?_
            refine fw_iastore dX6_leaves_170 ly1_7 (by decide) ⟨by decide, by decide⟩ ⟨by omega, by omega⟩ ?_
            refine fw_aload_n dX6_leaves_171 rfl rfl ?_
            refine fw_getr 12 8 rfl dX6_leaves_172 ff_6_36 ly1_0 ⟨by decide, by decide⟩ rfl rfl (by decide) ?_
            refine fw_iload_n dX6_leaves_175 rfl rfl ?_
            refine fw_dup2 dX6_leaves_176 rfl rfl ?_
            refine fw_iaload dX6_leaves_177 ly1_8 ⟨by decide, by decide⟩ ⟨by omega, by omega⟩ ?_
            refine fw_iconst dX6_leaves_178 ⟨by decide, by decide⟩ ?_
            refine fw_iadd dX6_leaves_179 (by rw [fw_updne (by decide), h8 b hb4.1 hb4.2]; have := ab_cnt_le hwf h1 hb4.1 hb4.2; have := ab_cnt_0 O b k; have := hmk.2.2 b hb4.1 hb4.2; exact ⟨by omega, by omega⟩) ?_
            have h8n : ∀ (v : Int) p, 0 ≤ p → p < 4 → fw_upd (fw_upd M 7 b v) 8 b (fw_upd M 7 b v 8 b + 1) 8 p = ab_cnt O (k + 1) p := by
              intro v p a c
              rw [fw_updeq, fw_updne (by decide)]
              show _ = ab_cnt O k p + (if O k / 20 = p then 1 else 0)
              by_cases hp : p = b
              · rw [if_pos hp, hp, if_pos k5.symm, h8 b hb4.1 hb4.2]
              · rw [if_neg hp, if_neg (fun q => hp (by rw [k5]; exact q.symm)), Int.add_zero, h8 p a c]
            refine fw_iastore dX6_leaves_180 ly1_8 (by decide) ⟨by decide, by decide⟩ ⟨by omega, by omega⟩ ?_
            refine fw_aload_n dX6_leaves_181 rfl rfl ?_
            refine fw_aload_n dX6_leaves_182 rfl rfl ?_
            refine fw_getr 5 1 rfl dX6_leaves_183 ff_6_13 ly1_0 ⟨by decide, by decide⟩ rfl rfl (by decide) ?_
            refine fw_cV mX6_first [_] dX6_leaves_186 mv_X6_first lk_6_126 ⟨⟨by decide, by decide⟩, rfl, rfl, rfl, by decide, by decide⟩ ly1_0 ⟨by decide, by decide⟩ rfl rfl (Nat.le_of_ble_eq_true rfl) (sp_X6_first_1 _ _ (by rw [fw_updne (by decide), fw_updne (by decide), e0]; exact ⟨hmk.1, hmk.2.1⟩) (fun p a b => ⟨by rw [h8n _ p a b]; exact ab_cnt_0 O p (k + 1), by rw [fw_updne (by decide), fw_updne (by decide), e1]; exact (hmk.2.2 p a b).2.1⟩)) (fun r M1 L1 hp hM1 => ?_)
            obtain ⟨rfl, rfl, b2, rfl, hf2⟩ := hp
            refine fw_istore_n (ls2 := [_, _, _, _]) dX6_leaves_189 rfl (by decide) rfl ?_
            refine fw_goto 34 dX6_leaves_190 (by decide) ?_
            refine fw_take 2 ?_
            refine ih b2 (k + 1) _ (by omega) (by omega) (fun z a c => by rw [fw_updne c, fw_updne a]; exact hk z a c) (h8n _) (fun p a c => ?_) ?_
            · rw [fw_updne (show ¬ (7 : Int) = 8 by decide)]
              refine hFO _ ?_ p a c
              rw [if_pos ⟨by omega, by omega⟩]
            · rw [fw_updne (show ¬ (1 : Int) = 8 by decide), fw_updne (show ¬ (1 : Int) = 7 by decide), e1, fw_updne (show ¬ (0 : Int) = 8 by decide), fw_updne (show ¬ (0 : Int) = 7 by decide), e0] at hf2
              have eG2 : ∀ v w, md_G (fw_upd (fw_upd M 7 b v) 8 b w) = md_G N := fun v w => md_G_of ((fw_updne (by decide)).trans ((fw_updne (by decide)).trans e2))
              rw [eG2] at hf2
              exact hf2
      · skip
        refine fw_aload_n dX6_leaves_62 rfl rfl ?_
        refine fw_getr 12 8 rfl dX6_leaves_63 ff_6_36 ly1_0 ⟨by decide, by decide⟩ rfl rfl (by decide) ?_
        refine fw_iload_n dX6_leaves_66 rfl rfl ?_
        refine fw_iaload dX6_leaves_67 ly1_8 ⟨by decide, by decide⟩ ⟨by omega, by omega⟩ ?_
        refine fw_aload_n dX6_leaves_68 rfl rfl ?_
        refine fw_getr 10 6 rfl dX6_leaves_69 ff_6_30 ly1_0 ⟨by decide, by decide⟩ rfl rfl (by decide) ?_
        refine fw_iload_n dX6_leaves_72 rfl rfl ?_
        refine fw_iaload dX6_leaves_73 ly1_6 ⟨by decide, by decide⟩ ⟨by omega, by omega⟩ ?_
        refine fw_icmp_lt 81 dX6_leaves_74 (by decide) (fun h74 => ?_) (fun h74 => ?_)
        · skip
          refine fw_iconst dX6_leaves_81 ⟨by decide, by decide⟩ ?_
          refine fw_istore_n (ls2 := [_, _, _, _]) dX6_leaves_82 rfl (by decide) rfl ?_
          refine fw_iconst dX6_leaves_83 ⟨by decide, by decide⟩ ?_
          refine fw_istore (ls2 := [_, _, _, _, _]) dX6_leaves_84 (by decide) rfl ?_
          refine lp_X6_leaves_86 _ b (O k) (N 0 2) M L _ ⟨by rw [e0], hmk.1, hmk.2.1⟩ ⟨hx0, hx1⟩ (fun is hi1 hi2 => ?_) 5 _ 0 (by omega) (by decide) (by omega) (by decide) ⟨fun q => Or.inl q, fun q => q.resolve_right (fun ⟨k, a, b, _⟩ => by omega)⟩
          have hFOr : 0 ≤ M 7 b ∧ M 7 b ≤ 20 := by rw [h7b]; unfold ab_FO; split <;> omega
          have h8b : M 8 b = O k % 20 := k6
          have hisE : is = 1 ↔ ((¬ N 6 (O k / 20) = -9 ∧ N 6 (O k / 20) ≤ O k % 20) ∨ ∃ p, 0 ≤ p ∧ p < N 0 2 ∧ ab_FO (md_G N) O (N 6) k p < md_G N (O k) (6 + p)) := by
            rw [hi2, eG]
            refine or_congr ?_ ?_
            · rw [e6, k5] at h59
              rw [e6, k6, k5] at h74
              exact ⟨fun q => by omega, fun q => by have := q.2; omega⟩
            · constructor
              · rintro ⟨p, a, c, d⟩; exact ⟨p, a, c, by rw [← h7 p a (by have := hmk.2.1; omega)]; exact d⟩
              · rintro ⟨p, a, c, d⟩; exact ⟨p, a, c, by rw [h7 p a (by have := hmk.2.1; omega)]; exact d⟩
          have hFO : ∀ v, (v = if is = 1 ∧ M 8 b < M 7 b then M 8 b else M 7 b) → ∀ p, 0 ≤ p → p < 4 → fw_upd M 7 b v 7 p = ab_FO (md_G N) O (N 6) (k + 1) p := by
            intro v hv p a c
            rw [fw_updeq]
            by_cases hp : p = b
            · rw [if_pos hp, hp, hv, k5]
              rw [k5] at h8b h7b
              rw [h8b, h7b]
              by_cases q : is = 1 ∧ O k % 20 < ab_FO (md_G N) O (N 6) k (O k / 20)
              · rw [if_pos q]; exact (hstep.2.1 ⟨hisE.mp q.1, q.2⟩).symm
              · rw [if_neg q]; exact (hstep.2.2 (fun w => q ⟨hisE.mpr w.1, w.2⟩)).symm
            · rw [if_neg hp, h7 p a c]; exact (hstep.1 p a c (by rw [← k5]; exact hp)).symm
          refine fw_aload_n dX6_leaves_131 rfl rfl ?_
          refine fw_getr 11 7 rfl dX6_leaves_132 ff_6_33 ly1_0 ⟨by decide, by decide⟩ rfl rfl (by decide) ?_
          refine fw_iload_n dX6_leaves_135 rfl rfl ?_
          refine fw_iload_n dX6_leaves_136 rfl rfl ?_
          refine fw_if_eq 164 dX6_leaves_137 (by decide) (fun h137 => ?_) (fun h137 => ?_)
          · skip
            refine fw_aload_n dX6_leaves_164 rfl rfl ?_
            refine fw_getr 11 7 rfl dX6_leaves_165 ff_6_33 ly1_0 ⟨by decide, by decide⟩ rfl rfl (by decide) ?_
            refine fw_iload_n dX6_leaves_168 rfl rfl ?_
            refine fw_iaload dX6_leaves_169 ly1_7 ⟨by decide, by decide⟩ ⟨by omega, by omega⟩ ?_
            refine fw_iastore dX6_leaves_170 ly1_7 (by decide) ⟨by decide, by decide⟩ ⟨by omega, by omega⟩ ?_
            refine fw_aload_n dX6_leaves_171 rfl rfl ?_
            refine fw_getr 12 8 rfl dX6_leaves_172 ff_6_36 ly1_0 ⟨by decide, by decide⟩ rfl rfl (by decide) ?_
            refine fw_iload_n dX6_leaves_175 rfl rfl ?_
            refine fw_dup2 dX6_leaves_176 rfl rfl ?_
            refine fw_iaload dX6_leaves_177 ly1_8 ⟨by decide, by decide⟩ ⟨by omega, by omega⟩ ?_
            refine fw_iconst dX6_leaves_178 ⟨by decide, by decide⟩ ?_
            refine fw_iadd dX6_leaves_179 (by rw [fw_updne (by decide), h8 b hb4.1 hb4.2]; have := ab_cnt_le hwf h1 hb4.1 hb4.2; have := ab_cnt_0 O b k; have := hmk.2.2 b hb4.1 hb4.2; exact ⟨by omega, by omega⟩) ?_
            have h8n : ∀ (v : Int) p, 0 ≤ p → p < 4 → fw_upd (fw_upd M 7 b v) 8 b (fw_upd M 7 b v 8 b + 1) 8 p = ab_cnt O (k + 1) p := by
              intro v p a c
              rw [fw_updeq, fw_updne (by decide)]
              show _ = ab_cnt O k p + (if O k / 20 = p then 1 else 0)
              by_cases hp : p = b
              · rw [if_pos hp, hp, if_pos k5.symm, h8 b hb4.1 hb4.2]
              · rw [if_neg hp, if_neg (fun q => hp (by rw [k5]; exact q.symm)), Int.add_zero, h8 p a c]
            refine fw_iastore dX6_leaves_180 ly1_8 (by decide) ⟨by decide, by decide⟩ ⟨by omega, by omega⟩ ?_
            refine fw_aload_n dX6_leaves_181 rfl rfl ?_
            refine fw_aload_n dX6_leaves_182 rfl rfl ?_
            refine fw_getr 5 1 rfl dX6_leaves_183 ff_6_13 ly1_0 ⟨by decide, by decide⟩ rfl rfl (by decide) ?_
            refine fw_cV mX6_first [_] dX6_leaves_186 mv_X6_first lk_6_126 ⟨⟨by decide, by decide⟩, rfl, rfl, rfl, by decide, by decide⟩ ly1_0 ⟨by decide, by decide⟩ rfl rfl (Nat.le_of_ble_eq_true rfl) (sp_X6_first_1 _ _ (by rw [fw_updne (by decide), fw_updne (by decide), e0]; exact ⟨hmk.1, hmk.2.1⟩) (fun p a b => ⟨by rw [h8n _ p a b]; exact ab_cnt_0 O p (k + 1), by rw [fw_updne (by decide), fw_updne (by decide), e1]; exact (hmk.2.2 p a b).2.1⟩)) (fun r M1 L1 hp hM1 => ?_)
            obtain ⟨rfl, rfl, b2, rfl, hf2⟩ := hp
            refine fw_istore_n (ls2 := [_, _, _, _]) dX6_leaves_189 rfl (by decide) rfl ?_
            refine fw_goto 34 dX6_leaves_190 (by decide) ?_
            refine fw_take 2 ?_
            refine ih b2 (k + 1) _ (by omega) (by omega) (fun z a c => by rw [fw_updne c, fw_updne a]; exact hk z a c) (h8n _) (fun p a c => ?_) ?_
            · rw [fw_updne (show ¬ (7 : Int) = 8 by decide)]
              refine hFO _ ?_ p a c
              rw [if_neg (fun q => by omega)]
            · rw [fw_updne (show ¬ (1 : Int) = 8 by decide), fw_updne (show ¬ (1 : Int) = 7 by decide), e1, fw_updne (show ¬ (0 : Int) = 8 by decide), fw_updne (show ¬ (0 : Int) = 7 by decide), e0] at hf2
              have eG2 : ∀ v w, md_G (fw_upd (fw_upd M 7 b v) 8 b w) = md_G N := fun v w => md_G_of ((fw_updne (by decide)).trans ((fw_updne (by decide)).trans e2))
              rw [eG2] at hf2
              exact hf2
          · skip
            refine fw_aload_n dX6_leaves_140 rfl rfl ?_
            refine fw_getr 12 8 rfl dX6_leaves_141 ff_6_36 ly1_0 ⟨by decide, by decide⟩ rfl rfl (by decide) ?_
            refine fw_iload_n dX6_leaves_144 rfl rfl ?_
            refine fw_iaload dX6_leaves_145 ly1_8 ⟨by decide, by decide⟩ ⟨by omega, by omega⟩ ?_
            refine fw_aload_n dX6_leaves_146 rfl rfl ?_
            refine fw_getr 11 7 rfl dX6_leaves_147 ff_6_33 ly1_0 ⟨by decide, by decide⟩ rfl rfl (by decide) ?_
            refine fw_iload_n dX6_leaves_150 rfl rfl ?_
            refine fw_iaload dX6_leaves_151 ly1_7 ⟨by decide, by decide⟩ ⟨by omega, by omega⟩ ?_
            refine fw_icmp_ge 164 dX6_leaves_152 (by decide) (fun h152 => ?_) (fun h152 => ?_)
            · skip
              refine fw_aload_n dX6_leaves_164 rfl rfl ?_
              refine fw_getr 11 7 rfl dX6_leaves_165 ff_6_33 ly1_0 ⟨by decide, by decide⟩ rfl rfl (by decide) ?_
              refine fw_iload_n dX6_leaves_168 rfl rfl ?_
              refine fw_iaload dX6_leaves_169 ly1_7 ⟨by decide, by decide⟩ ⟨by omega, by omega⟩ ?_
              refine fw_iastore dX6_leaves_170 ly1_7 (by decide) ⟨by decide, by decide⟩ ⟨by omega, by omega⟩ ?_
              refine fw_aload_n dX6_leaves_171 rfl rfl ?_
              refine fw_getr 12 8 rfl dX6_leaves_172 ff_6_36 ly1_0 ⟨by decide, by decide⟩ rfl rfl (by decide) ?_
              refine fw_iload_n dX6_leaves_175 rfl rfl ?_
              refine fw_dup2 dX6_leaves_176 rfl rfl ?_
              refine fw_iaload dX6_leaves_177 ly1_8 ⟨by decide, by decide⟩ ⟨by omega, by omega⟩ ?_
              refine fw_iconst dX6_leaves_178 ⟨by decide, by decide⟩ ?_
              refine fw_iadd dX6_leaves_179 (by rw [fw_updne (by decide), h8 b hb4.1 hb4.2]; have := ab_cnt_le hwf h1 hb4.1 hb4.2; have := ab_cnt_0 O b k; have := hmk.2.2 b hb4.1 hb4.2; exact ⟨by omega, by omega⟩) ?_
              have h8n : ∀ (v : Int) p, 0 ≤ p → p < 4 → fw_upd (fw_upd M 7 b v) 8 b (fw_upd M 7 b v 8 b + 1) 8 p = ab_cnt O (k + 1) p := by
                intro v p a c
                rw [fw_updeq, fw_updne (by decide)]
                show _ = ab_cnt O k p + (if O k / 20 = p then 1 else 0)
                by_cases hp : p = b
                · rw [if_pos hp, hp, if_pos k5.symm, h8 b hb4.1 hb4.2]
                · rw [if_neg hp, if_neg (fun q => hp (by rw [k5]; exact q.symm)), Int.add_zero, h8 p a c]
              refine fw_iastore dX6_leaves_180 ly1_8 (by decide) ⟨by decide, by decide⟩ ⟨by omega, by omega⟩ ?_
              refine fw_aload_n dX6_leaves_181 rfl rfl ?_
              refine fw_aload_n dX6_leaves_182 rfl rfl ?_
              refine fw_getr 5 1 rfl dX6_leaves_183 ff_6_13 ly1_0 ⟨by decide, by decide⟩ rfl rfl (by decide) ?_
              refine fw_cV mX6_first [_] dX6_leaves_186 mv_X6_first lk_6_126 ⟨⟨by decide, by decide⟩, rfl, rfl, rfl, by decide, by decide⟩ ly1_0 ⟨by decide, by decide⟩ rfl rfl (Nat.le_of_ble_eq_true rfl) (sp_X6_first_1 _ _ (by rw [fw_updne (by decide), fw_updne (by decide), e0]; exact ⟨hmk.1, hmk.2.1⟩) (fun p a b => ⟨by rw [h8n _ p a b]; exact ab_cnt_0 O p (k + 1), by rw [fw_updne (by decide), fw_updne (by decide), e1]; exact (hmk.2.2 p a b).2.1⟩)) (fun r M1 L1 hp hM1 => ?_)
              obtain ⟨rfl, rfl, b2, rfl, hf2⟩ := hp
              refine fw_istore_n (ls2 := [_, _, _, _]) dX6_leaves_189 rfl (by decide) rfl ?_
              refine fw_goto 34 dX6_leaves_190 (by decide) ?_
              refine fw_take 2 ?_
              refine ih b2 (k + 1) _ (by omega) (by omega) (fun z a c => by rw [fw_updne c, fw_updne a]; exact hk z a c) (h8n _) (fun p a c => ?_) ?_
              · rw [fw_updne (show ¬ (7 : Int) = 8 by decide)]
                refine hFO _ ?_ p a c
                rw [if_neg (fun q => by omega)]
              · rw [fw_updne (show ¬ (1 : Int) = 8 by decide), fw_updne (show ¬ (1 : Int) = 7 by decide), e1, fw_updne (show ¬ (0 : Int) = 8 by decide), fw_updne (show ¬ (0 : Int) = 7 by decide), e0] at hf2
                have eG2 : ∀ v w, md_G (fw_upd (fw_upd M 7 b v) 8 b w) = md_G N := fun v w => md_G_of ((fw_updne (by decide)).trans ((fw_updne (by decide)).trans e2))
                rw [eG2] at hf2
                exact hf2
            · skip
              refine fw_aload_n dX6_leaves_155 rfl rfl ?_
              refine fw_getr 12 8 rfl dX6_leaves_156 ff_6_36 ly1_0 ⟨by decide, by decide⟩ rfl rfl (by decide) ?_
              refine fw_iload_n dX6_leaves_159 rfl rfl ?_
              refine fw_iaload dX6_leaves_160 ly1_8 ⟨by decide, by decide⟩ ⟨by omega, by omega⟩ ?_
              refine fw_goto 170 dX6_leaves_161 (by decide) ?_
              refine fw_iastore dX6_leaves_170 ly1_7 (by decide) ⟨by decide, by decide⟩ ⟨by omega, by omega⟩ ?_
              refine fw_aload_n dX6_leaves_171 rfl rfl ?_
              refine fw_getr 12 8 rfl dX6_leaves_172 ff_6_36 ly1_0 ⟨by decide, by decide⟩ rfl rfl (by decide) ?_
              refine fw_iload_n dX6_leaves_175 rfl rfl ?_
              refine fw_dup2 dX6_leaves_176 rfl rfl ?_
              refine fw_iaload dX6_leaves_177 ly1_8 ⟨by decide, by decide⟩ ⟨by omega, by omega⟩ ?_
              refine fw_iconst dX6_leaves_178 ⟨by decide, by decide⟩ ?_
              refine fw_iadd dX6_leaves_179 (by rw [fw_updne (by decide), h8 b hb4.1 hb4.2]; have := ab_cnt_le hwf h1 hb4.1 hb4.2; have := ab_cnt_0 O b k; have := hmk.2.2 b hb4.1 hb4.2; exact ⟨by omega, by omega⟩) ?_
              have h8n : ∀ (v : Int) p, 0 ≤ p → p < 4 → fw_upd (fw_upd M 7 b v) 8 b (fw_upd M 7 b v 8 b + 1) 8 p = ab_cnt O (k + 1) p := by
                intro v p a c
                rw [fw_updeq, fw_updne (by decide)]
                show _ = ab_cnt O k p + (if O k / 20 = p then 1 else 0)
                by_cases hp : p = b
                · rw [if_pos hp, hp, if_pos k5.symm, h8 b hb4.1 hb4.2]
                · rw [if_neg hp, if_neg (fun q => hp (by rw [k5]; exact q.symm)), Int.add_zero, h8 p a c]
              refine fw_iastore dX6_leaves_180 ly1_8 (by decide) ⟨by decide, by decide⟩ ⟨by omega, by omega⟩ ?_
              refine fw_aload_n dX6_leaves_181 rfl rfl ?_
              refine fw_aload_n dX6_leaves_182 rfl rfl ?_
              refine fw_getr 5 1 rfl dX6_leaves_183 ff_6_13 ly1_0 ⟨by decide, by decide⟩ rfl rfl (by decide) ?_
              refine fw_cV mX6_first [_] dX6_leaves_186 mv_X6_first lk_6_126 ⟨⟨by decide, by decide⟩, rfl, rfl, rfl, by decide, by decide⟩ ly1_0 ⟨by decide, by decide⟩ rfl rfl (Nat.le_of_ble_eq_true rfl) (sp_X6_first_1 _ _ (by rw [fw_updne (by decide), fw_updne (by decide), e0]; exact ⟨hmk.1, hmk.2.1⟩) (fun p a b => ⟨by rw [h8n _ p a b]; exact ab_cnt_0 O p (k + 1), by rw [fw_updne (by decide), fw_updne (by decide), e1]; exact (hmk.2.2 p a b).2.1⟩)) (fun r M1 L1 hp hM1 => ?_)
              obtain ⟨rfl, rfl, b2, rfl, hf2⟩ := hp
              refine fw_istore_n (ls2 := [_, _, _, _]) dX6_leaves_189 rfl (by decide) rfl ?_
              refine fw_goto 34 dX6_leaves_190 (by decide) ?_
              refine fw_take 2 ?_
              refine ih b2 (k + 1) _ (by omega) (by omega) (fun z a c => by rw [fw_updne c, fw_updne a]; exact hk z a c) (h8n _) (fun p a c => ?_) ?_
              · rw [fw_updne (show ¬ (7 : Int) = 8 by decide)]
                refine hFO _ ?_ p a c
                rw [if_pos ⟨by omega, by omega⟩]
              · rw [fw_updne (show ¬ (1 : Int) = 8 by decide), fw_updne (show ¬ (1 : Int) = 7 by decide), e1, fw_updne (show ¬ (0 : Int) = 8 by decide), fw_updne (show ¬ (0 : Int) = 7 by decide), e0] at hf2
                have eG2 : ∀ v w, md_G (fw_upd (fw_upd M 7 b v) 8 b w) = md_G N := fun v w => md_G_of ((fw_updne (by decide)).trans ((fw_updne (by decide)).trans e2))
                rw [eG2] at hf2
                exact hf2
        · skip
          refine fw_iconst dX6_leaves_77 ⟨by decide, by decide⟩ ?_
          refine fw_goto 82 dX6_leaves_78 (by decide) ?_
          refine fw_istore_n (ls2 := [_, _, _, _]) dX6_leaves_82 rfl (by decide) rfl ?_
          refine fw_iconst dX6_leaves_83 ⟨by decide, by decide⟩ ?_
          refine fw_istore (ls2 := [_, _, _, _, _]) dX6_leaves_84 (by decide) rfl ?_
          refine lp_X6_leaves_86 _ b (O k) (N 0 2) M L _ ⟨by rw [e0], hmk.1, hmk.2.1⟩ ⟨hx0, hx1⟩ (fun is hi1 hi2 => ?_) 5 _ 0 (by omega) (by decide) (by omega) (by decide) ⟨fun q => Or.inl q, fun q => q.resolve_right (fun ⟨k, a, b, _⟩ => by omega)⟩
          have hFOr : 0 ≤ M 7 b ∧ M 7 b ≤ 20 := by rw [h7b]; unfold ab_FO; split <;> omega
          have h8b : M 8 b = O k % 20 := k6
          have hisE : is = 1 ↔ ((¬ N 6 (O k / 20) = -9 ∧ N 6 (O k / 20) ≤ O k % 20) ∨ ∃ p, 0 ≤ p ∧ p < N 0 2 ∧ ab_FO (md_G N) O (N 6) k p < md_G N (O k) (6 + p)) := by
            rw [hi2, eG]
            refine or_congr ?_ ?_
            · rw [e6, k5] at h59
              rw [e6, k6, k5] at h74
              exact ⟨fun _ => ⟨h59, by omega⟩, fun _ => rfl⟩
            · constructor
              · rintro ⟨p, a, c, d⟩; exact ⟨p, a, c, by rw [← h7 p a (by have := hmk.2.1; omega)]; exact d⟩
              · rintro ⟨p, a, c, d⟩; exact ⟨p, a, c, by rw [h7 p a (by have := hmk.2.1; omega)]; exact d⟩
          have hFO : ∀ v, (v = if is = 1 ∧ M 8 b < M 7 b then M 8 b else M 7 b) → ∀ p, 0 ≤ p → p < 4 → fw_upd M 7 b v 7 p = ab_FO (md_G N) O (N 6) (k + 1) p := by
            intro v hv p a c
            rw [fw_updeq]
            by_cases hp : p = b
            · rw [if_pos hp, hp, hv, k5]
              rw [k5] at h8b h7b
              rw [h8b, h7b]
              by_cases q : is = 1 ∧ O k % 20 < ab_FO (md_G N) O (N 6) k (O k / 20)
              · rw [if_pos q]; exact (hstep.2.1 ⟨hisE.mp q.1, q.2⟩).symm
              · rw [if_neg q]; exact (hstep.2.2 (fun w => q ⟨hisE.mpr w.1, w.2⟩)).symm
            · rw [if_neg hp, h7 p a c]; exact (hstep.1 p a c (by rw [← k5]; exact hp)).symm
          refine fw_aload_n dX6_leaves_131 rfl rfl ?_
          refine fw_getr 11 7 rfl dX6_leaves_132 ff_6_33 ly1_0 ⟨by decide, by decide⟩ rfl rfl (by decide) ?_
          refine fw_iload_n dX6_leaves_135 rfl rfl ?_
          refine fw_iload_n dX6_leaves_136 rfl rfl ?_
          refine fw_if_eq 164 dX6_leaves_137 (by decide) (fun h137 => ?_) (fun h137 => ?_)
          · skip
            refine fw_aload_n dX6_leaves_164 rfl rfl ?_
            refine fw_getr 11 7 rfl dX6_leaves_165 ff_6_33 ly1_0 ⟨by decide, by decide⟩ rfl rfl (by decide) ?_
            refine fw_iload_n dX6_leaves_168 rfl rfl ?_
            refine fw_iaload dX6_leaves_169 ly1_7 ⟨by decide, by decide⟩ ⟨by omega, by omega⟩ ?_
            refine fw_iastore dX6_leaves_170 ly1_7 (by decide) ⟨by decide, by decide⟩ ⟨by omega, by omega⟩ ?_
            refine fw_aload_n dX6_leaves_171 rfl rfl ?_
            refine fw_getr 12 8 rfl dX6_leaves_172 ff_6_36 ly1_0 ⟨by decide, by decide⟩ rfl rfl (by decide) ?_
            refine fw_iload_n dX6_leaves_175 rfl rfl ?_
            refine fw_dup2 dX6_leaves_176 rfl rfl ?_
            refine fw_iaload dX6_leaves_177 ly1_8 ⟨by decide, by decide⟩ ⟨by omega, by omega⟩ ?_
            refine fw_iconst dX6_leaves_178 ⟨by decide, by decide⟩ ?_
            refine fw_iadd dX6_leaves_179 (by rw [fw_updne (by decide), h8 b hb4.1 hb4.2]; have := ab_cnt_le hwf h1 hb4.1 hb4.2; have := ab_cnt_0 O b k; have := hmk.2.2 b hb4.1 hb4.2; exact ⟨by omega, by omega⟩) ?_
            have h8n : ∀ (v : Int) p, 0 ≤ p → p < 4 → fw_upd (fw_upd M 7 b v) 8 b (fw_upd M 7 b v 8 b + 1) 8 p = ab_cnt O (k + 1) p := by
              intro v p a c
              rw [fw_updeq, fw_updne (by decide)]
              show _ = ab_cnt O k p + (if O k / 20 = p then 1 else 0)
              by_cases hp : p = b
              · rw [if_pos hp, hp, if_pos k5.symm, h8 b hb4.1 hb4.2]
              · rw [if_neg hp, if_neg (fun q => hp (by rw [k5]; exact q.symm)), Int.add_zero, h8 p a c]
            refine fw_iastore dX6_leaves_180 ly1_8 (by decide) ⟨by decide, by decide⟩ ⟨by omega, by omega⟩ ?_
            refine fw_aload_n dX6_leaves_181 rfl rfl ?_
            refine fw_aload_n dX6_leaves_182 rfl rfl ?_
            refine fw_getr 5 1 rfl dX6_leaves_183 ff_6_13 ly1_0 ⟨by decide, by decide⟩ rfl rfl (by decide) ?_
            refine fw_cV mX6_first [_] dX6_leaves_186 mv_X6_first lk_6_126 ⟨⟨by decide, by decide⟩, rfl, rfl, rfl, by decide, by decide⟩ ly1_0 ⟨by decide, by decide⟩ rfl rfl (Nat.le_of_ble_eq_true rfl) (sp_X6_first_1 _ _ (by rw [fw_updne (by decide), fw_updne (by decide), e0]; exact ⟨hmk.1, hmk.2.1⟩) (fun p a b => ⟨by rw [h8n _ p a b]; exact ab_cnt_0 O p (k + 1), by rw [fw_updne (by decide), fw_updne (by decide), e1]; exact (hmk.2.2 p a b).2.1⟩)) (fun r M1 L1 hp hM1 => ?_)
            obtain ⟨rfl, rfl, b2, rfl, hf2⟩ := hp
            refine fw_istore_n (ls2 := [_, _, _, _]) dX6_leaves_189 rfl (by decide) rfl ?_
            refine fw_goto 34 dX6_leaves_190 (by decide) ?_
            refine fw_take 2 ?_
            refine ih b2 (k + 1) _ (by omega) (by omega) (fun z a c => by rw [fw_updne c, fw_updne a]; exact hk z a c) (h8n _) (fun p a c => ?_) ?_
            · rw [fw_updne (show ¬ (7 : Int) = 8 by decide)]
              refine hFO _ ?_ p a c
              rw [if_neg (fun q => by omega)]
            · rw [fw_updne (show ¬ (1 : Int) = 8 by decide), fw_updne (show ¬ (1 : Int) = 7 by decide), e1, fw_updne (show ¬ (0 : Int) = 8 by decide), fw_updne (show ¬ (0 : Int) = 7 by decide), e0] at hf2
              have eG2 : ∀ v w, md_G (fw_upd (fw_upd M 7 b v) 8 b w) = md_G N := fun v w => md_G_of ((fw_updne (by decide)).trans ((fw_updne (by decide)).trans e2))
              rw [eG2] at hf2
              exact hf2
          · skip
            refine fw_aload_n dX6_leaves_140 rfl rfl ?_
            refine fw_getr 12 8 rfl dX6_leaves_141 ff_6_36 ly1_0 ⟨by decide, by decide⟩ rfl rfl (by decide) ?_
            refine fw_iload_n dX6_leaves_144 rfl rfl ?_
            refine fw_iaload dX6_leaves_145 ly1_8 ⟨by decide, by decide⟩ ⟨by omega, by omega⟩ ?_
            refine fw_aload_n dX6_leaves_146 rfl rfl ?_
            refine fw_getr 11 7 rfl dX6_leaves_147 ff_6_33 ly1_0 ⟨by decide, by decide⟩ rfl rfl (by decide) ?_
            refine fw_iload_n dX6_leaves_150 rfl rfl ?_
            refine fw_iaload dX6_leaves_151 ly1_7 ⟨by decide, by decide⟩ ⟨by omega, by omega⟩ ?_
            refine fw_icmp_ge 164 dX6_leaves_152 (by decide) (fun h152 => ?_) (fun h152 => ?_)
            · skip
              refine fw_aload_n dX6_leaves_164 rfl rfl ?_
              refine fw_getr 11 7 rfl dX6_leaves_165 ff_6_33 ly1_0 ⟨by decide, by decide⟩ rfl rfl (by decide) ?_
              refine fw_iload_n dX6_leaves_168 rfl rfl ?_
              refine fw_iaload dX6_leaves_169 ly1_7 ⟨by decide, by decide⟩ ⟨by omega, by omega⟩ ?_
              refine fw_iastore dX6_leaves_170 ly1_7 (by decide) ⟨by decide, by decide⟩ ⟨by omega, by omega⟩ ?_
              refine fw_aload_n dX6_leaves_171 rfl rfl ?_
              refine fw_getr 12 8 rfl dX6_leaves_172 ff_6_36 ly1_0 ⟨by decide, by decide⟩ rfl rfl (by decide) ?_
              refine fw_iload_n dX6_leaves_175 rfl rfl ?_
              refine fw_dup2 dX6_leaves_176 rfl rfl ?_
              refine fw_iaload dX6_leaves_177 ly1_8 ⟨by decide, by decide⟩ ⟨by omega, by omega⟩ ?_
              refine fw_iconst dX6_leaves_178 ⟨by decide, by decide⟩ ?_
              refine fw_iadd dX6_leaves_179 (by rw [fw_updne (by decide), h8 b hb4.1 hb4.2]; have := ab_cnt_le hwf h1 hb4.1 hb4.2; have := ab_cnt_0 O b k; have := hmk.2.2 b hb4.1 hb4.2; exact ⟨by omega, by omega⟩) ?_
              have h8n : ∀ (v : Int) p, 0 ≤ p → p < 4 → fw_upd (fw_upd M 7 b v) 8 b (fw_upd M 7 b v 8 b + 1) 8 p = ab_cnt O (k + 1) p := by
                intro v p a c
                rw [fw_updeq, fw_updne (by decide)]
                show _ = ab_cnt O k p + (if O k / 20 = p then 1 else 0)
                by_cases hp : p = b
                · rw [if_pos hp, hp, if_pos k5.symm, h8 b hb4.1 hb4.2]
                · rw [if_neg hp, if_neg (fun q => hp (by rw [k5]; exact q.symm)), Int.add_zero, h8 p a c]
              refine fw_iastore dX6_leaves_180 ly1_8 (by decide) ⟨by decide, by decide⟩ ⟨by omega, by omega⟩ ?_
              refine fw_aload_n dX6_leaves_181 rfl rfl ?_
              refine fw_aload_n dX6_leaves_182 rfl rfl ?_
              refine fw_getr 5 1 rfl dX6_leaves_183 ff_6_13 ly1_0 ⟨by decide, by decide⟩ rfl rfl (by decide) ?_
              refine fw_cV mX6_first [_] dX6_leaves_186 mv_X6_first lk_6_126 ⟨⟨by decide, by decide⟩, rfl, rfl, rfl, by decide, by decide⟩ ly1_0 ⟨by decide, by decide⟩ rfl rfl (Nat.le_of_ble_eq_true rfl) (sp_X6_first_1 _ _ (by rw [fw_updne (by decide), fw_updne (by decide), e0]; exact ⟨hmk.1, hmk.2.1⟩) (fun p a b => ⟨by rw [h8n _ p a b]; exact ab_cnt_0 O p (k + 1), by rw [fw_updne (by decide), fw_updne (by decide), e1]; exact (hmk.2.2 p a b).2.1⟩)) (fun r M1 L1 hp hM1 => ?_)
              obtain ⟨rfl, rfl, b2, rfl, hf2⟩ := hp
              refine fw_istore_n (ls2 := [_, _, _, _]) dX6_leaves_189 rfl (by decide) rfl ?_
              refine fw_goto 34 dX6_leaves_190 (by decide) ?_
              refine fw_take 2 ?_
              refine ih b2 (k + 1) _ (by omega) (by omega) (fun z a c => by rw [fw_updne c, fw_updne a]; exact hk z a c) (h8n _) (fun p a c => ?_) ?_
              · rw [fw_updne (show ¬ (7 : Int) = 8 by decide)]
                refine hFO _ ?_ p a c
                rw [if_neg (fun q => by omega)]
              · rw [fw_updne (show ¬ (1 : Int) = 8 by decide), fw_updne (show ¬ (1 : Int) = 7 by decide), e1, fw_updne (show ¬ (0 : Int) = 8 by decide), fw_updne (show ¬ (0 : Int) = 7 by decide), e0] at hf2
                have eG2 : ∀ v w, md_G (fw_upd (fw_upd M 7 b v) 8 b w) = md_G N := fun v w => md_G_of ((fw_updne (by decide)).trans ((fw_updne (by decide)).trans e2))
                rw [eG2] at hf2
                exact hf2
            · skip
              refine fw_aload_n dX6_leaves_155 rfl rfl ?_
              refine fw_getr 12 8 rfl dX6_leaves_156 ff_6_36 ly1_0 ⟨by decide, by decide⟩ rfl rfl (by decide) ?_
              refine fw_iload_n dX6_leaves_159 rfl rfl ?_
              refine fw_iaload dX6_leaves_160 ly1_8 ⟨by decide, by decide⟩ ⟨by omega, by omega⟩ ?_
              refine fw_goto 170 dX6_leaves_161 (by decide) ?_
              refine fw_iastore dX6_leaves_170 ly1_7 (by decide) ⟨by decide, by decide⟩ ⟨by omega, by omega⟩ ?_
              refine fw_aload_n dX6_leaves_171 rfl rfl ?_
              refine fw_getr 12 8 rfl dX6_leaves_172 ff_6_36 ly1_0 ⟨by decide, by decide⟩ rfl rfl (by decide) ?_
              refine fw_iload_n dX6_leaves_175 rfl rfl ?_
              refine fw_dup2 dX6_leaves_176 rfl rfl ?_
              refine fw_iaload dX6_leaves_177 ly1_8 ⟨by decide, by decide⟩ ⟨by omega, by omega⟩ ?_
              refine fw_iconst dX6_leaves_178 ⟨by decide, by decide⟩ ?_
              refine fw_iadd dX6_leaves_179 (by rw [fw_updne (by decide), h8 b hb4.1 hb4.2]; have := ab_cnt_le hwf h1 hb4.1 hb4.2; have := ab_cnt_0 O b k; have := hmk.2.2 b hb4.1 hb4.2; exact ⟨by omega, by omega⟩) ?_
              have h8n : ∀ (v : Int) p, 0 ≤ p → p < 4 → fw_upd (fw_upd M 7 b v) 8 b (fw_upd M 7 b v 8 b + 1) 8 p = ab_cnt O (k + 1) p := by
                intro v p a c
                rw [fw_updeq, fw_updne (by decide)]
                show _ = ab_cnt O k p + (if O k / 20 = p then 1 else 0)
                by_cases hp : p = b
                · rw [if_pos hp, hp, if_pos k5.symm, h8 b hb4.1 hb4.2]
                · rw [if_neg hp, if_neg (fun q => hp (by rw [k5]; exact q.symm)), Int.add_zero, h8 p a c]
              refine fw_iastore dX6_leaves_180 ly1_8 (by decide) ⟨by decide, by decide⟩ ⟨by omega, by omega⟩ ?_
              refine fw_aload_n dX6_leaves_181 rfl rfl ?_
              refine fw_aload_n dX6_leaves_182 rfl rfl ?_
              refine fw_getr 5 1 rfl dX6_leaves_183 ff_6_13 ly1_0 ⟨by decide, by decide⟩ rfl rfl (by decide) ?_
              refine fw_cV mX6_first [_] dX6_leaves_186 mv_X6_first lk_6_126 ⟨⟨by decide, by decide⟩, rfl, rfl, rfl, by decide, by decide⟩ ly1_0 ⟨by decide, by decide⟩ rfl rfl (Nat.le_of_ble_eq_true rfl) (sp_X6_first_1 _ _ (by rw [fw_updne (by decide), fw_updne (by decide), e0]; exact ⟨hmk.1, hmk.2.1⟩) (fun p a b => ⟨by rw [h8n _ p a b]; exact ab_cnt_0 O p (k + 1), by rw [fw_updne (by decide), fw_updne (by decide), e1]; exact (hmk.2.2 p a b).2.1⟩)) (fun r M1 L1 hp hM1 => ?_)
              obtain ⟨rfl, rfl, b2, rfl, hf2⟩ := hp
              refine fw_istore_n (ls2 := [_, _, _, _]) dX6_leaves_189 rfl (by decide) rfl ?_
              refine fw_goto 34 dX6_leaves_190 (by decide) ?_
              refine fw_take 2 ?_
              refine ih b2 (k + 1) _ (by omega) (by omega) (fun z a c => by rw [fw_updne c, fw_updne a]; exact hk z a c) (h8n _) (fun p a c => ?_) ?_
              · rw [fw_updne (show ¬ (7 : Int) = 8 by decide)]
                refine hFO _ ?_ p a c
                rw [if_pos ⟨by omega, by omega⟩]
              · rw [fw_updne (show ¬ (1 : Int) = 8 by decide), fw_updne (show ¬ (1 : Int) = 7 by decide), e1, fw_updne (show ¬ (0 : Int) = 8 by decide), fw_updne (show ¬ (0 : Int) = 7 by decide), e0] at hf2
                have eG2 : ∀ v w, md_G (fw_upd (fw_upd M 7 b v) 8 b w) = md_G N := fun v w => md_G_of ((fw_updne (by decide)).trans ((fw_updne (by decide)).trans e2))
                rw [eG2] at hf2
                exact hf2
