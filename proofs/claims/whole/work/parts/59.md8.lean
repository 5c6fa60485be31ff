theorem ab_TT_congr {n : Int} {mk : Int → Int} {G : fw_F} {O : Int → Int} {T : Int} (h : ab_wf n mk G O T) {v v' lf lf' : Int → Int} {ru : Int} (hv : ∀ p, 0 ≤ p → p < 4 → v p = v' p) (hl : ∀ p i, 0 ≤ p → p < 4 → 0 ≤ i → i < mk p → (i < lf p ↔ i < lf' p)) : ∀ j : Nat, (j : Int) ≤ T → ab_TT G O v lf ru j = ab_TT G O v' lf' ru j := by
  intro j
  induction j with
  | zero => intro _; rfl
  | succ j ih =>
    intro hj
    have hx := h.2.2.2.2.1 j (by omega) (by omega)
    have h0 := hx.1
    have h1 := hx.2.1
    have e := hl (O j / 20) (O j % 20) (by omega) (by omega) (by omega) hx.2.2
    rw [ab_TT, ab_TT, ih (by omega), hv (O j / 20) (by omega) (by omega)]
    by_cases q : O j % 20 < v' (O j / 20) ∧ O j % 20 < lf (O j / 20)
    · rw [if_pos q, if_pos ⟨q.1, e.mp q.2⟩]
    · rw [if_neg q, if_neg (fun z => q ⟨z.1, e.mpr z.2⟩)]
theorem md_T0 {M : fw_F} (h : ∀ u, 0 ≤ u → u < 12 → M 10 u = (if u = 0 then 1 else 0) ∧ M 11 u = (if u = 0 then 1 else 0) ∧ M 12 u = (if u = 0 then 2 else 0) ∧ M 13 u = 0 ∧ M 14 u = 0 ∧ M 17 u = 0) : md_T M ab_T0 := by
  intro u a b
  obtain ⟨q0, q1, q2, q3, q4, q5⟩ := h u a b
  by_cases hz : u = 0
  · subst hz
    rw [q0, q1, q2, q3, q4, q5]
    exact ⟨rfl, rfl, fun _ => rfl, rfl, rfl, rfl, fun r y hy => by simp [ab_T0] at hy⟩
  · rw [q0, q1, q2, q3, q4, q5]
    simp only [if_neg hz]
    refine ⟨?_, ?_, fun q => ?_, ?_, ?_, ?_, fun r y hy => by simp [ab_T0] at hy⟩
    · simp [ab_T0, hz]
    · simp [ab_T0, hz]
    · exact absurd (by simp [ab_T0, hz]) q
    · simp [ab_T0, hz]
    · simp [ab_T0, hz]
    · simp [ab_T0]
theorem md_P0 (M : fw_F) : md_P M ab_T0 0 := by
  have z : ∀ a : Int, 1 ≤ a → ab_T0.1 0 a = 0 := fun a h => by
    have : ¬ a = 0 := by omega
    simp [ab_T0, this]
  exact ⟨fun a a0 _ a2 => by rw [z a a0] at a2; omega, fun a b a0 _ _ _ ha _ => by rw [z a a0] at ha; omega⟩

set_option maxRecDepth 20000 in
set_option maxHeartbeats 4000000 in
theorem lp_X6_tells_10 (T : Int) (N : fw_F) (O : Int → Int) (L : fw_G) (hwf : ab_wf (N 0 2) (N 1) (md_G N) O T) (hap : ab_apok (N 6)) (hv : ∀ p, 0 ≤ p → p < 4 → 0 ≤ N 9 p ∧ N 9 p ≤ N 1 p) : ∀ (q : Nat) (t : Int) (M : fw_F), 12 - t < q → 0 ≤ t → t ≤ 12 → (∀ k, k < 7 ∨ k = 9 ∨ 19 < k → M k = N k) → (∀ p, 0 ≤ p → p < 4 → M 7 p = ab_FO (md_G N) O (N 6) T.toNat p) → (∀ p, 0 ≤ p → p < 4 → M 8 p = 0) → (∀ u, 0 ≤ u → u < t → M 10 u = (if u = 0 then 1 else 0) ∧ M 11 u = (if u = 0 then 1 else 0) ∧ M 12 u = (if u = 0 then 2 else 0) ∧ M 13 u = 0 ∧ M 14 u = 0 ∧ M 17 u = 0) → fw_D mX6_tells 10 [some (fw_r 0), some (fw_i t)] [] M L (fun r M2 L2 => r = none ∧ L2 = L ∧ (∀ k, k < 7 ∨ k = 9 ∨ 19 < k → M2 k = N k) ∧ md_T M2 (ab_TT (md_G N) O (N 9) (ab_LF (md_G N) O (N 6) T.toNat) (N 0 3) T.toNat) ∧ (∃ od, md_P M2 (ab_TT (md_G N) O (N 9) (ab_LF (md_G N) O (N 6) T.toNat) (N 0 3) T.toNat) od) ∧ M2 16 0 = 0 ∧ ab_lab (M2 11) (M2 13) (M2 14) (M2 15) (fw_and (N 0 3) 2) (M2 16)) := by
  intro q
  induction q with
  | zero => intro t M h0 h1 h2; omega
  | succ q ih =>
    intro t M h0 h1 h2 hk h7 h8 hu
    refine fw_iload_n dX6_tells_10 rfl rfl ?_
    refine fw_bipush dX6_tells_11 ⟨by decide, by decide⟩ (by decide) ?_
    refine fw_icmp_ge 88 dX6_tells_13 (by decide) (fun h13 => ?_) (fun h13 => ?_)
    · skip
      have e0 := hk 0 (by omega)
      have e9 := hk 9 (by omega)
      have hmk := hwf.1
      have hT80 := ab_T80 hwf
      refine fw_iconst dX6_tells_88 ⟨by decide, by decide⟩ ?_
      refine fw_istore_n (ls2 := [_, _]) dX6_tells_89 rfl (by decide) rfl ?_
      refine fw_aload_n dX6_tells_90 rfl rfl ?_
      refine fw_aload_n dX6_tells_91 rfl rfl ?_
      refine fw_getr 13 9 rfl dX6_tells_92 ff_6_39 ly1_0 ⟨by decide, by decide⟩ rfl rfl (by decide) ?_
      refine fw_cV mX6_first [_] dX6_tells_95 mv_X6_first lk_6_126 ⟨⟨by decide, by decide⟩, rfl, rfl, rfl, by decide, by decide⟩ ly1_0 ⟨by decide, by decide⟩ rfl rfl (Nat.le_of_ble_eq_true rfl) (sp_X6_first_9 _ _ (by rw [e0]; exact ⟨hmk.1, hmk.2.1⟩) (fun p a b => ⟨by rw [h8 p a b]; decide, by rw [e9]; have := (hv p a b).2; have := (hmk.2.2 p a b).2.1; omega⟩)) (fun r M1 L1 hp hM1 => ?_)
      obtain ⟨rfl, rfl, b, rfl, hf⟩ := hp
      refine fw_istore_n (ls2 := [_, _, _]) dX6_tells_98 rfl (by decide) rfl ?_
      rw [e9, e0, md_G_of (hk 2 (by omega))] at hf
      exact lp_X6_tells_99 T N O _ hwf hap hv 82 b 0 0 _ (by omega) (by omega) (by decide) (by decide) hk h7 (fun p a b => by rw [h8 p a b]; show (0 : Int) = min (N 9 p) 0; have := (hv p a b).1; omega) (md_T0 (fun u a b => hu u a (by omega))) (md_P0 _) hf
    · skip
      refine fw_aload_n dX6_tells_16 rfl rfl ?_
      refine fw_getr 14 10 rfl dX6_tells_17 ff_6_42 ly1_0 ⟨by decide, by decide⟩ rfl rfl (by decide) ?_
      refine fw_iload_n dX6_tells_20 rfl rfl ?_
      refine fw_iload_n dX6_tells_21 rfl rfl ?_
      refine fw_if_ne 29 dX6_tells_22 (by decide) (fun h22 => ?_) (fun h22 => ?_)
      · skip
        refine fw_iconst dX6_tells_29 ⟨by decide, by decide⟩ ?_
        refine fw_bastore dX6_tells_30 ly1_10 (by decide) ⟨by decide, by decide⟩ ⟨by omega, by omega⟩ (by omega) ?_
        refine fw_aload_n dX6_tells_31 rfl rfl ?_
        refine fw_getr 15 11 rfl dX6_tells_32 ff_6_46 ly1_0 ⟨by decide, by decide⟩ rfl rfl (by decide) ?_
        refine fw_iload_n dX6_tells_35 rfl rfl ?_
        refine fw_iload_n dX6_tells_36 rfl rfl ?_
        refine fw_if_ne 44 dX6_tells_37 (by decide) (fun h37 => ?_) (fun h37 => ?_)
        · skip
          refine fw_iconst dX6_tells_44 ⟨by decide, by decide⟩ ?_
          refine fw_bastore dX6_tells_45 ly1_11 (by decide) ⟨by decide, by decide⟩ ⟨by omega, by omega⟩ (by omega) ?_
          refine fw_aload_n dX6_tells_46 rfl rfl ?_
          refine fw_getr 16 12 rfl dX6_tells_47 ff_6_49 ly1_0 ⟨by decide, by decide⟩ rfl rfl (by decide) ?_
          refine fw_iload_n dX6_tells_50 rfl rfl ?_
          refine fw_iload_n dX6_tells_51 rfl rfl ?_
          refine fw_if_ne 59 dX6_tells_52 (by decide) (fun h52 => ?_) (fun h52 => ?_)
          · skip
            refine fw_iconst dX6_tells_59 ⟨by decide, by decide⟩ ?_
            refine fw_iastore dX6_tells_60 ly1_12 (by decide) ⟨by decide, by decide⟩ ⟨by omega, by omega⟩ ?_
            refine fw_aload_n dX6_tells_61 rfl rfl ?_
            refine fw_getr 17 13 rfl dX6_tells_62 ff_6_52 ly1_0 ⟨by decide, by decide⟩ rfl rfl (by decide) ?_
            refine fw_iload_n dX6_tells_65 rfl rfl ?_
            refine fw_iconst dX6_tells_66 ⟨by decide, by decide⟩ ?_
            refine fw_iastore dX6_tells_67 ly1_13 (by decide) ⟨by decide, by decide⟩ ⟨by omega, by omega⟩ ?_
            refine fw_aload_n dX6_tells_68 rfl rfl ?_
            refine fw_getr 18 14 rfl dX6_tells_69 ff_6_55 ly1_0 ⟨by decide, by decide⟩ rfl rfl (by decide) ?_
            refine fw_iload_n dX6_tells_72 rfl rfl ?_
            refine fw_iconst dX6_tells_73 ⟨by decide, by decide⟩ ?_
            refine fw_iastore dX6_tells_74 ly1_14 (by decide) ⟨by decide, by decide⟩ ⟨by omega, by omega⟩ ?_
            refine fw_aload_n dX6_tells_75 rfl rfl ?_
            refine fw_getr 21 17 rfl dX6_tells_76 ff_6_64 ly1_0 ⟨by decide, by decide⟩ rfl rfl (by decide) ?_
            refine fw_iload_n dX6_tells_79 rfl rfl ?_
            refine fw_iconst dX6_tells_80 ⟨by decide, by decide⟩ ?_
            refine fw_iastore dX6_tells_81 ly1_17 (by decide) ⟨by decide, by decide⟩ ⟨by omega, by omega⟩ ?_
            refine fw_iinc (ls2 := [_, _]) dX6_tells_82 rfl ⟨by omega, by omega⟩ (by decide) rfl ?_
            refine fw_goto 10 dX6_tells_85 (by decide) ?_
            refine ih (t + 1) _ (by omega) (by omega) (by omega) (fun k a => ?_) (fun p a b => ?_) (fun p a b => ?_) (fun u a b => ?_)
            · simp (disch := omega) only [fw_updne]; exact hk k a
            · simp (disch := decide) only [fw_updne]; exact h7 p a b
            · simp (disch := decide) only [fw_updne]; exact h8 p a b
            · simp (disch := decide) only [fw_updne, fw_updeq]
              by_cases hut : u = t
              · simp only [if_pos hut]; rw [if_neg (by omega), if_neg (by omega)]; simp
              · simp only [if_neg hut]; exact hu u a (by omega)
          · skip
            refine fw_iconst dX6_tells_55 ⟨by decide, by decide⟩ ?_
            refine fw_goto 60 dX6_tells_56 (by decide) ?_
            refine fw_iastore dX6_tells_60 ly1_12 (by decide) ⟨by decide, by decide⟩ ⟨by omega, by omega⟩ ?_
            refine fw_aload_n dX6_tells_61 rfl rfl ?_
            refine fw_getr 17 13 rfl dX6_tells_62 ff_6_52 ly1_0 ⟨by decide, by decide⟩ rfl rfl (by decide) ?_
            refine fw_iload_n dX6_tells_65 rfl rfl ?_
            refine fw_iconst dX6_tells_66 ⟨by decide, by decide⟩ ?_
            refine fw_iastore dX6_tells_67 ly1_13 (by decide) ⟨by decide, by decide⟩ ⟨by omega, by omega⟩ ?_
            refine fw_aload_n dX6_tells_68 rfl rfl ?_
            refine fw_getr 18 14 rfl dX6_tells_69 ff_6_55 ly1_0 ⟨by decide, by decide⟩ rfl rfl (by decide) ?_
            refine fw_iload_n dX6_tells_72 rfl rfl ?_
            refine fw_iconst dX6_tells_73 ⟨by decide, by decide⟩ ?_
            refine fw_iastore dX6_tells_74 ly1_14 (by decide) ⟨by decide, by decide⟩ ⟨by omega, by omega⟩ ?_
            refine fw_aload_n dX6_tells_75 rfl rfl ?_
            refine fw_getr 21 17 rfl dX6_tells_76 ff_6_64 ly1_0 ⟨by decide, by decide⟩ rfl rfl (by decide) ?_
            refine fw_iload_n dX6_tells_79 rfl rfl ?_
            refine fw_iconst dX6_tells_80 ⟨by decide, by decide⟩ ?_
            refine fw_iastore dX6_tells_81 ly1_17 (by decide) ⟨by decide, by decide⟩ ⟨by omega, by omega⟩ ?_
            refine fw_iinc (ls2 := [_, _]) dX6_tells_82 rfl ⟨by omega, by omega⟩ (by decide) rfl ?_
            refine fw_goto 10 dX6_tells_85 (by decide) ?_
            exfalso; omega
        · skip
          refine fw_iconst dX6_tells_40 ⟨by decide, by decide⟩ ?_
          refine fw_goto 45 dX6_tells_41 (by decide) ?_
          refine fw_bastore dX6_tells_45 ly1_11 (by decide) ⟨by decide, by decide⟩ ⟨by omega, by omega⟩ (by omega) ?_
          refine fw_aload_n dX6_tells_46 rfl rfl ?_
          refine fw_getr 16 12 rfl dX6_tells_47 ff_6_49 ly1_0 ⟨by decide, by decide⟩ rfl rfl (by decide) ?_
          refine fw_iload_n dX6_tells_50 rfl rfl ?_
          refine fw_iload_n dX6_tells_51 rfl rfl ?_
          refine fw_if_ne 59 dX6_tells_52 (by decide) (fun h52 => ?_) (fun h52 => ?_)
          · skip
            refine fw_iconst dX6_tells_59 ⟨by decide, by decide⟩ ?_
            refine fw_iastore dX6_tells_60 ly1_12 (by decide) ⟨by decide, by decide⟩ ⟨by omega, by omega⟩ ?_
            refine fw_aload_n dX6_tells_61 rfl rfl ?_
            refine fw_getr 17 13 rfl dX6_tells_62 ff_6_52 ly1_0 ⟨by decide, by decide⟩ rfl rfl (by decide) ?_
            refine fw_iload_n dX6_tells_65 rfl rfl ?_
            refine fw_iconst dX6_tells_66 ⟨by decide, by decide⟩ ?_
            refine fw_iastore dX6_tells_67 ly1_13 (by decide) ⟨by decide, by decide⟩ ⟨by omega, by omega⟩ ?_
            refine fw_aload_n dX6_tells_68 rfl rfl ?_
            refine fw_getr 18 14 rfl dX6_tells_69 ff_6_55 ly1_0 ⟨by decide, by decide⟩ rfl rfl (by decide) ?_
            refine fw_iload_n dX6_tells_72 rfl rfl ?_
            refine fw_iconst dX6_tells_73 ⟨by decide, by decide⟩ ?_
            refine fw_iastore dX6_tells_74 ly1_14 (by decide) ⟨by decide, by decide⟩ ⟨by omega, by omega⟩ ?_
            refine fw_aload_n dX6_tells_75 rfl rfl ?_
            refine fw_getr 21 17 rfl dX6_tells_76 ff_6_64 ly1_0 ⟨by decide, by decide⟩ rfl rfl (by decide) ?_
            refine fw_iload_n dX6_tells_79 rfl rfl ?_
            refine fw_iconst dX6_tells_80 ⟨by decide, by decide⟩ ?_
            refine fw_iastore dX6_tells_81 ly1_17 (by decide) ⟨by decide, by decide⟩ ⟨by omega, by omega⟩ ?_
            refine fw_iinc (ls2 := [_, _]) dX6_tells_82 rfl ⟨by omega, by omega⟩ (by decide) rfl ?_
            refine fw_goto 10 dX6_tells_85 (by decide) ?_
            exfalso; omega
          · skip
            refine fw_iconst dX6_tells_55 ⟨by decide, by decide⟩ ?_
            refine fw_goto 60 dX6_tells_56 (by decide) ?_
            refine fw_iastore dX6_tells_60 ly1_12 (by decide) ⟨by decide, by decide⟩ ⟨by omega, by omega⟩ ?_
            refine fw_aload_n dX6_tells_61 rfl rfl ?_
            refine fw_getr 17 13 rfl dX6_tells_62 ff_6_52 ly1_0 ⟨by decide, by decide⟩ rfl rfl (by decide) ?_
            refine fw_iload_n dX6_tells_65 rfl rfl ?_
            refine fw_iconst dX6_tells_66 ⟨by decide, by decide⟩ ?_
            refine fw_iastore dX6_tells_67 ly1_13 (by decide) ⟨by decide, by decide⟩ ⟨by omega, by omega⟩ ?_
            refine fw_aload_n dX6_tells_68 rfl rfl ?_
            refine fw_getr 18 14 rfl dX6_tells_69 ff_6_55 ly1_0 ⟨by decide, by decide⟩ rfl rfl (by decide) ?_
            refine fw_iload_n dX6_tells_72 rfl rfl ?_
            refine fw_iconst dX6_tells_73 ⟨by decide, by decide⟩ ?_
            refine fw_iastore dX6_tells_74 ly1_14 (by decide) ⟨by decide, by decide⟩ ⟨by omega, by omega⟩ ?_
            refine fw_aload_n dX6_tells_75 rfl rfl ?_
            refine fw_getr 21 17 rfl dX6_tells_76 ff_6_64 ly1_0 ⟨by decide, by decide⟩ rfl rfl (by decide) ?_
            refine fw_iload_n dX6_tells_79 rfl rfl ?_
            refine fw_iconst dX6_tells_80 ⟨by decide, by decide⟩ ?_
            refine fw_iastore dX6_tells_81 ly1_17 (by decide) ⟨by decide, by decide⟩ ⟨by omega, by omega⟩ ?_
            refine fw_iinc (ls2 := [_, _]) dX6_tells_82 rfl ⟨by omega, by omega⟩ (by decide) rfl ?_
            refine fw_goto 10 dX6_tells_85 (by decide) ?_
            exfalso; omega
      · skip
        refine fw_iconst dX6_tells_25 ⟨by decide, by decide⟩ ?_
        refine fw_goto 30 dX6_tells_26 (by decide) ?_
        refine fw_bastore dX6_tells_30 ly1_10 (by decide) ⟨by decide, by decide⟩ ⟨by omega, by omega⟩ (by omega) ?_
        refine fw_aload_n dX6_tells_31 rfl rfl ?_
        refine fw_getr 15 11 rfl dX6_tells_32 ff_6_46 ly1_0 ⟨by decide, by decide⟩ rfl rfl (by decide) ?_
        refine fw_iload_n dX6_tells_35 rfl rfl ?_
        refine fw_iload_n dX6_tells_36 rfl rfl ?_
        refine fw_if_ne 44 dX6_tells_37 (by decide) (fun h37 => ?_) (fun h37 => ?_)
        · skip
          refine fw_iconst dX6_tells_44 ⟨by decide, by decide⟩ ?_
          refine fw_bastore dX6_tells_45 ly1_11 (by decide) ⟨by decide, by decide⟩ ⟨by omega, by omega⟩ (by omega) ?_
          refine fw_aload_n dX6_tells_46 rfl rfl ?_
          refine fw_getr 16 12 rfl dX6_tells_47 ff_6_49 ly1_0 ⟨by decide, by decide⟩ rfl rfl (by decide) ?_
          refine fw_iload_n dX6_tells_50 rfl rfl ?_
          refine fw_iload_n dX6_tells_51 rfl rfl ?_
          refine fw_if_ne 59 dX6_tells_52 (by decide) (fun h52 => ?_) (fun h52 => ?_)
          · skip
            refine fw_iconst dX6_tells_59 ⟨by decide, by decide⟩ ?_
            refine fw_iastore dX6_tells_60 ly1_12 (by decide) ⟨by decide, by decide⟩ ⟨by omega, by omega⟩ ?_
            refine fw_aload_n dX6_tells_61 rfl rfl ?_
            refine fw_getr 17 13 rfl dX6_tells_62 ff_6_52 ly1_0 ⟨by decide, by decide⟩ rfl rfl (by decide) ?_
            refine fw_iload_n dX6_tells_65 rfl rfl ?_
            refine fw_iconst dX6_tells_66 ⟨by decide, by decide⟩ ?_
            refine fw_iastore dX6_tells_67 ly1_13 (by decide) ⟨by decide, by decide⟩ ⟨by omega, by omega⟩ ?_
            refine fw_aload_n dX6_tells_68 rfl rfl ?_
            refine fw_getr 18 14 rfl dX6_tells_69 ff_6_55 ly1_0 ⟨by decide, by decide⟩ rfl rfl (by decide) ?_
            refine fw_iload_n dX6_tells_72 rfl rfl ?_
            refine fw_iconst dX6_tells_73 ⟨by decide, by decide⟩ ?_
            refine fw_iastore dX6_tells_74 ly1_14 (by decide) ⟨by decide, by decide⟩ ⟨by omega, by omega⟩ ?_
            refine fw_aload_n dX6_tells_75 rfl rfl ?_
            refine fw_getr 21 17 rfl dX6_tells_76 ff_6_64 ly1_0 ⟨by decide, by decide⟩ rfl rfl (by decide) ?_
            refine fw_iload_n dX6_tells_79 rfl rfl ?_
            refine fw_iconst dX6_tells_80 ⟨by decide, by decide⟩ ?_
            refine fw_iastore dX6_tells_81 ly1_17 (by decide) ⟨by decide, by decide⟩ ⟨by omega, by omega⟩ ?_
            refine fw_iinc (ls2 := [_, _]) dX6_tells_82 rfl ⟨by omega, by omega⟩ (by decide) rfl ?_
            refine fw_goto 10 dX6_tells_85 (by decide) ?_
            exfalso; omega
          · skip
            refine fw_iconst dX6_tells_55 ⟨by decide, by decide⟩ ?_
            refine fw_goto 60 dX6_tells_56 (by decide) ?_
            refine fw_iastore dX6_tells_60 ly1_12 (by decide) ⟨by decide, by decide⟩ ⟨by omega, by omega⟩ ?_
            refine fw_aload_n dX6_tells_61 rfl rfl ?_
            refine fw_getr 17 13 rfl dX6_tells_62 ff_6_52 ly1_0 ⟨by decide, by decide⟩ rfl rfl (by decide) ?_
            refine fw_iload_n dX6_tells_65 rfl rfl ?_
            refine fw_iconst dX6_tells_66 ⟨by decide, by decide⟩ ?_
            refine fw_iastore dX6_tells_67 ly1_13 (by decide) ⟨by decide, by decide⟩ ⟨by omega, by omega⟩ ?_
            refine fw_aload_n dX6_tells_68 rfl rfl ?_
            refine fw_getr 18 14 rfl dX6_tells_69 ff_6_55 ly1_0 ⟨by decide, by decide⟩ rfl rfl (by decide) ?_
            refine fw_iload_n dX6_tells_72 rfl rfl ?_
            refine fw_iconst dX6_tells_73 ⟨by decide, by decide⟩ ?_
            refine fw_iastore dX6_tells_74 ly1_14 (by decide) ⟨by decide, by decide⟩ ⟨by omega, by omega⟩ ?_
            refine fw_aload_n dX6_tells_75 rfl rfl ?_
            refine fw_getr 21 17 rfl dX6_tells_76 ff_6_64 ly1_0 ⟨by decide, by decide⟩ rfl rfl (by decide) ?_
            refine fw_iload_n dX6_tells_79 rfl rfl ?_
            refine fw_iconst dX6_tells_80 ⟨by decide, by decide⟩ ?_
            refine fw_iastore dX6_tells_81 ly1_17 (by decide) ⟨by decide, by decide⟩ ⟨by omega, by omega⟩ ?_
            refine fw_iinc (ls2 := [_, _]) dX6_tells_82 rfl ⟨by omega, by omega⟩ (by decide) rfl ?_
            refine fw_goto 10 dX6_tells_85 (by decide) ?_
            exfalso; omega
        · skip
          refine fw_iconst dX6_tells_40 ⟨by decide, by decide⟩ ?_
          refine fw_goto 45 dX6_tells_41 (by decide) ?_
          refine fw_bastore dX6_tells_45 ly1_11 (by decide) ⟨by decide, by decide⟩ ⟨by omega, by omega⟩ (by omega) ?_
          refine fw_aload_n dX6_tells_46 rfl rfl ?_
          refine fw_getr 16 12 rfl dX6_tells_47 ff_6_49 ly1_0 ⟨by decide, by decide⟩ rfl rfl (by decide) ?_
          refine fw_iload_n dX6_tells_50 rfl rfl ?_
          refine fw_iload_n dX6_tells_51 rfl rfl ?_
          refine fw_if_ne 59 dX6_tells_52 (by decide) (fun h52 => ?_) (fun h52 => ?_)
          · skip
            refine fw_iconst dX6_tells_59 ⟨by decide, by decide⟩ ?_
            refine fw_iastore dX6_tells_60 ly1_12 (by decide) ⟨by decide, by decide⟩ ⟨by omega, by omega⟩ ?_
            refine fw_aload_n dX6_tells_61 rfl rfl ?_
            refine fw_getr 17 13 rfl dX6_tells_62 ff_6_52 ly1_0 ⟨by decide, by decide⟩ rfl rfl (by decide) ?_
            refine fw_iload_n dX6_tells_65 rfl rfl ?_
            refine fw_iconst dX6_tells_66 ⟨by decide, by decide⟩ ?_
            refine fw_iastore dX6_tells_67 ly1_13 (by decide) ⟨by decide, by decide⟩ ⟨by omega, by omega⟩ ?_
            refine fw_aload_n dX6_tells_68 rfl rfl ?_
            refine fw_getr 18 14 rfl dX6_tells_69 ff_6_55 ly1_0 ⟨by decide, by decide⟩ rfl rfl (by decide) ?_
            refine fw_iload_n dX6_tells_72 rfl rfl ?_
            refine fw_iconst dX6_tells_73 ⟨by decide, by decide⟩ ?_
            refine fw_iastore dX6_tells_74 ly1_14 (by decide) ⟨by decide, by decide⟩ ⟨by omega, by omega⟩ ?_
            refine fw_aload_n dX6_tells_75 rfl rfl ?_
            refine fw_getr 21 17 rfl dX6_tells_76 ff_6_64 ly1_0 ⟨by decide, by decide⟩ rfl rfl (by decide) ?_
            refine fw_iload_n dX6_tells_79 rfl rfl ?_
            refine fw_iconst dX6_tells_80 ⟨by decide, by decide⟩ ?_
            refine fw_iastore dX6_tells_81 ly1_17 (by decide) ⟨by decide, by decide⟩ ⟨by omega, by omega⟩ ?_
            refine fw_iinc (ls2 := [_, _]) dX6_tells_82 rfl ⟨by omega, by omega⟩ (by decide) rfl ?_
            refine fw_goto 10 dX6_tells_85 (by decide) ?_
            exfalso; omega
          · skip
            refine fw_iconst dX6_tells_55 ⟨by decide, by decide⟩ ?_
            refine fw_goto 60 dX6_tells_56 (by decide) ?_
            refine fw_iastore dX6_tells_60 ly1_12 (by decide) ⟨by decide, by decide⟩ ⟨by omega, by omega⟩ ?_
            refine fw_aload_n dX6_tells_61 rfl rfl ?_
            refine fw_getr 17 13 rfl dX6_tells_62 ff_6_52 ly1_0 ⟨by decide, by decide⟩ rfl rfl (by decide) ?_
            refine fw_iload_n dX6_tells_65 rfl rfl ?_
            refine fw_iconst dX6_tells_66 ⟨by decide, by decide⟩ ?_
            refine fw_iastore dX6_tells_67 ly1_13 (by decide) ⟨by decide, by decide⟩ ⟨by omega, by omega⟩ ?_
            refine fw_aload_n dX6_tells_68 rfl rfl ?_
            refine fw_getr 18 14 rfl dX6_tells_69 ff_6_55 ly1_0 ⟨by decide, by decide⟩ rfl rfl (by decide) ?_
            refine fw_iload_n dX6_tells_72 rfl rfl ?_
            refine fw_iconst dX6_tells_73 ⟨by decide, by decide⟩ ?_
            refine fw_iastore dX6_tells_74 ly1_14 (by decide) ⟨by decide, by decide⟩ ⟨by omega, by omega⟩ ?_
            refine fw_aload_n dX6_tells_75 rfl rfl ?_
            refine fw_getr 21 17 rfl dX6_tells_76 ff_6_64 ly1_0 ⟨by decide, by decide⟩ rfl rfl (by decide) ?_
            refine fw_iload_n dX6_tells_79 rfl rfl ?_
            refine fw_iconst dX6_tells_80 ⟨by decide, by decide⟩ ?_
            refine fw_iastore dX6_tells_81 ly1_17 (by decide) ⟨by decide, by decide⟩ ⟨by omega, by omega⟩ ?_
            refine fw_iinc (ls2 := [_, _]) dX6_tells_82 rfl ⟨by omega, by omega⟩ (by decide) rfl ?_
            refine fw_goto 10 dX6_tells_85 (by decide) ?_
            refine ih (t + 1) _ (by omega) (by omega) (by omega) (fun k a => ?_) (fun p a b => ?_) (fun p a b => ?_) (fun u a b => ?_)
            · simp (disch := omega) only [fw_updne]; exact hk k a
            · simp (disch := decide) only [fw_updne]; exact h7 p a b
            · simp (disch := decide) only [fw_updne]; exact h8 p a b
            · simp (disch := decide) only [fw_updne, fw_updeq]
              by_cases hut : u = t
              · simp only [if_pos hut]; rw [if_pos (by omega), if_pos (by omega)]; simp
              · simp only [if_neg hut]; exact hu u a (by omega)

set_option maxRecDepth 20000 in
set_option maxHeartbeats 4000000 in
theorem sp_X6_tells (T : Int) (N : fw_F) (O : Int → Int) (L : fw_G) (hwf : ab_wf (N 0 2) (N 1) (md_G N) O T) (hap : ab_apok (N 6)) (hv : ∀ p, 0 ≤ p → p < 4 → 0 ≤ N 9 p ∧ N 9 p ≤ N 1 p) : fw_SD mX6_tells [fw_r 0] N L (fun r M2 L2 => r = none ∧ L2 = L ∧ (∀ k, k < 7 ∨ k = 9 ∨ 19 < k → M2 k = N k) ∧ md_T M2 (ab_TT (md_G N) O (N 9) (ab_LF (md_G N) O (N 6) T.toNat) (N 0 3) T.toNat) ∧ (∃ od, md_P M2 (ab_TT (md_G N) O (N 9) (ab_LF (md_G N) O (N 6) T.toNat) (N 0 3) T.toNat) od) ∧ M2 16 0 = 0 ∧ ab_lab (M2 11) (M2 13) (M2 14) (M2 15) (fw_and (N 0 3) 2) (M2 16)) := by
  refine fw_SP_of pl_X6_tells (ls := [_]) rfl (Nat.le_of_ble_eq_true rfl) fun hA hM => ?_
  refine fw_aload_n dX6_tells_0 rfl rfl ?_
  refine fw_cV mX6_leaves [] dX6_tells_1 mv_X6_leaves lk_6_153 ⟨⟨by decide, by decide⟩, rfl, rfl, rfl, by decide, by decide⟩ ly1_0 ⟨by decide, by decide⟩ rfl rfl (Nat.le_of_ble_eq_true rfl) (sp_X6_leaves T N O L hwf hap) (fun r M1 L1 hp hM1 => ?_)
  obtain ⟨rfl, rfl, a1, a2⟩ := hp
  refine fw_aload_n dX6_tells_4 rfl rfl ?_
  refine fw_cV mX6_restarts [] dX6_tells_5 mv_X6_restarts lk_6_123 ⟨⟨by decide, by decide⟩, rfl, rfl, rfl, by decide, by decide⟩ ly1_0 ⟨by decide, by decide⟩ rfl rfl (Nat.le_of_ble_eq_true rfl) (sp_X6_restarts M1 L1) (fun r M1 L1 hp hM1 => ?_)
  rename_i M0 _ _
  obtain ⟨rfl, rfl, g1, g2⟩ := hp
  refine fw_iconst dX6_tells_8 ⟨by decide, by decide⟩ ?_
  refine fw_istore_n (ls2 := [_, _]) dX6_tells_9 rfl (by decide) rfl ?_
  exact lp_X6_tells_10 T N O _ hwf hap hv 13 0 _ (by decide) (by decide) (by decide) (fun k a => (g1 k (by omega)).trans (a1 k (by omega) (by omega))) (fun p a b => by rw [g1 7 (by decide)]; exact a2 p a b) g2 (fun u a b => by omega)

set_option maxRecDepth 20000 in
set_option maxHeartbeats 4000000 in
theorem sp_X6_tellsNow (T : Int) (N : fw_F) (O : Int → Int) (L : fw_G) (hwf : ab_wf (N 0 2) (N 1) (md_G N) O T) (hap : ab_apok (N 6)) (m : Int) (hm : 0 ≤ m ∧ m < 4) (hv : ∀ p, 0 ≤ p → p < 4 → 0 ≤ N 4 (4 * m + p) ∧ N 4 (4 * m + p) ≤ N 1 p) : fw_SD mX6_tellsNow [fw_r 0, fw_i m] N L (fun r M2 L2 => r = none ∧ L2 = L ∧ (∀ k, k < 7 ∨ 19 < k → M2 k = N k) ∧ md_T M2 (ab_TT (md_G N) O (fun p => N 4 (4 * m + p)) (ab_LF (md_G N) O (N 6) T.toNat) (N 0 3) T.toNat) ∧ (∃ od, md_P M2 (ab_TT (md_G N) O (fun p => N 4 (4 * m + p)) (ab_LF (md_G N) O (N 6) T.toNat) (N 0 3) T.toNat) od) ∧ M2 16 0 = 0 ∧ ab_lab (M2 11) (M2 13) (M2 14) (M2 15) (fw_and (N 0 3) 2) (M2 16)) := by
  refine fw_SP_of pl_X6_tellsNow (ls := [_, _]) rfl (Nat.le_of_ble_eq_true rfl) fun hA hM => ?_
  refine fw_iconst dX6_tellsNow_0 ⟨by decide, by decide⟩ ?_
  refine fw_istore_n (ls2 := [_, _, _]) dX6_tellsNow_1 rfl (by decide) rfl ?_
  refine fw_iload_n dX6_tellsNow_2 rfl rfl ?_
  refine fw_iconst dX6_tellsNow_3 ⟨by decide, by decide⟩ ?_
  refine fw_icmp_ge 29 dX6_tellsNow_4 (by decide) (fun h4 => ?_) (fun h4 => ?_)
  · skip
    exfalso; omega
  · skip
    refine fw_aload_n dX6_tellsNow_7 rfl rfl ?_
    refine fw_getr 13 9 rfl dX6_tellsNow_8 ff_6_39 ly1_0 ⟨by decide, by decide⟩ rfl rfl (by decide) ?_
    refine fw_iload_n dX6_tellsNow_11 rfl rfl ?_
    refine fw_aload_n dX6_tellsNow_12 rfl rfl ?_
    refine fw_getr 8 4 rfl dX6_tellsNow_13 ff_6_24 ly1_0 ⟨by decide, by decide⟩ rfl rfl (by decide) ?_
    refine fw_iconst dX6_tellsNow_16 ⟨by decide, by decide⟩ ?_
    refine fw_iload_n dX6_tellsNow_17 rfl rfl ?_
    refine fw_imul dX6_tellsNow_18 ⟨by omega, by omega⟩ ?_
    refine fw_iload_n dX6_tellsNow_19 rfl rfl ?_
    refine fw_iadd dX6_tellsNow_20 ⟨by omega, by omega⟩ ?_
    refine fw_iaload dX6_tellsNow_21 ly1_4 ⟨by decide, by decide⟩ ⟨by omega, by omega⟩ ?_
    refine fw_iastore dX6_tellsNow_22 ly1_9 (by decide) ⟨by decide, by decide⟩ ⟨by omega, by omega⟩ ?_
    refine fw_iincv (ls2 := [_, _, _]) (1) dX6_tellsNow_23 rfl (by decide) ⟨by decide, by decide⟩ (by decide) rfl ?_
    refine fw_goto 2 dX6_tellsNow_26 (by decide) ?_
    refine fw_iload_n dX6_tellsNow_2 rfl rfl ?_
    refine fw_iconst dX6_tellsNow_3 ⟨by decide, by decide⟩ ?_
    refine fw_icmp_ge 29 dX6_tellsNow_4 (by decide) (fun h4 => ?_) (fun h4 => ?_)
    · skip
      exfalso; omega
    · skip
      refine fw_aload_n dX6_tellsNow_7 rfl rfl ?_
      refine fw_getr 13 9 rfl dX6_tellsNow_8 ff_6_39 ly1_0 ⟨by decide, by decide⟩ rfl rfl (by decide) ?_
      refine fw_iload_n dX6_tellsNow_11 rfl rfl ?_
      refine fw_aload_n dX6_tellsNow_12 rfl rfl ?_
      refine fw_getr 8 4 rfl dX6_tellsNow_13 ff_6_24 ly1_0 ⟨by decide, by decide⟩ rfl rfl (by decide) ?_
      refine fw_iconst dX6_tellsNow_16 ⟨by decide, by decide⟩ ?_
      refine fw_iload_n dX6_tellsNow_17 rfl rfl ?_
      refine fw_imul dX6_tellsNow_18 ⟨by omega, by omega⟩ ?_
      refine fw_iload_n dX6_tellsNow_19 rfl rfl ?_
      refine fw_iadd dX6_tellsNow_20 ⟨by omega, by omega⟩ ?_
      refine fw_iaload dX6_tellsNow_21 ly1_4 ⟨by decide, by decide⟩ ⟨by omega, by omega⟩ ?_
      refine fw_iastore dX6_tellsNow_22 ly1_9 (by decide) ⟨by decide, by decide⟩ ⟨by omega, by omega⟩ ?_
      refine fw_iincv (ls2 := [_, _, _]) (2) dX6_tellsNow_23 rfl (by decide) ⟨by decide, by decide⟩ (by decide) rfl ?_
      refine fw_goto 2 dX6_tellsNow_26 (by decide) ?_
      refine fw_iload_n dX6_tellsNow_2 rfl rfl ?_
      refine fw_iconst dX6_tellsNow_3 ⟨by decide, by decide⟩ ?_
      refine fw_icmp_ge 29 dX6_tellsNow_4 (by decide) (fun h4 => ?_) (fun h4 => ?_)
      · skip
        exfalso; omega
      · skip
        refine fw_aload_n dX6_tellsNow_7 rfl rfl ?_
        refine fw_getr 13 9 rfl dX6_tellsNow_8 ff_6_39 ly1_0 ⟨by decide, by decide⟩ rfl rfl (by decide) ?_
        refine fw_iload_n dX6_tellsNow_11 rfl rfl ?_
        refine fw_aload_n dX6_tellsNow_12 rfl rfl ?_
        refine fw_getr 8 4 rfl dX6_tellsNow_13 ff_6_24 ly1_0 ⟨by decide, by decide⟩ rfl rfl (by decide) ?_
        refine fw_iconst dX6_tellsNow_16 ⟨by decide, by decide⟩ ?_
        refine fw_iload_n dX6_tellsNow_17 rfl rfl ?_
        refine fw_imul dX6_tellsNow_18 ⟨by omega, by omega⟩ ?_
        refine fw_iload_n dX6_tellsNow_19 rfl rfl ?_
        refine fw_iadd dX6_tellsNow_20 ⟨by omega, by omega⟩ ?_
        refine fw_iaload dX6_tellsNow_21 ly1_4 ⟨by decide, by decide⟩ ⟨by omega, by omega⟩ ?_
        refine fw_iastore dX6_tellsNow_22 ly1_9 (by decide) ⟨by decide, by decide⟩ ⟨by omega, by omega⟩ ?_
        refine fw_iincv (ls2 := [_, _, _]) (3) dX6_tellsNow_23 rfl (by decide) ⟨by decide, by decide⟩ (by decide) rfl ?_
        refine fw_goto 2 dX6_tellsNow_26 (by decide) ?_
        refine fw_iload_n dX6_tellsNow_2 rfl rfl ?_
        refine fw_iconst dX6_tellsNow_3 ⟨by decide, by decide⟩ ?_
        refine fw_icmp_ge 29 dX6_tellsNow_4 (by decide) (fun h4 => ?_) (fun h4 => ?_)
        · skip
          exfalso; omega
        · skip
          refine fw_aload_n dX6_tellsNow_7 rfl rfl ?_
          refine fw_getr 13 9 rfl dX6_tellsNow_8 ff_6_39 ly1_0 ⟨by decide, by decide⟩ rfl rfl (by decide) ?_
          refine fw_iload_n dX6_tellsNow_11 rfl rfl ?_
          refine fw_aload_n dX6_tellsNow_12 rfl rfl ?_
          refine fw_getr 8 4 rfl dX6_tellsNow_13 ff_6_24 ly1_0 ⟨by decide, by decide⟩ rfl rfl (by decide) ?_
          refine fw_iconst dX6_tellsNow_16 ⟨by decide, by decide⟩ ?_
          refine fw_iload_n dX6_tellsNow_17 rfl rfl ?_
          refine fw_imul dX6_tellsNow_18 ⟨by omega, by omega⟩ ?_
          refine fw_iload_n dX6_tellsNow_19 rfl rfl ?_
          refine fw_iadd dX6_tellsNow_20 ⟨by omega, by omega⟩ ?_
          refine fw_iaload dX6_tellsNow_21 ly1_4 ⟨by decide, by decide⟩ ⟨by omega, by omega⟩ ?_
          refine fw_iastore dX6_tellsNow_22 ly1_9 (by decide) ⟨by decide, by decide⟩ ⟨by omega, by omega⟩ ?_
          refine fw_iincv (ls2 := [_, _, _]) (4) dX6_tellsNow_23 rfl (by decide) ⟨by decide, by decide⟩ (by decide) rfl ?_
          refine fw_goto 2 dX6_tellsNow_26 (by decide) ?_
          refine fw_iload_n dX6_tellsNow_2 rfl rfl ?_
          refine fw_iconst dX6_tellsNow_3 ⟨by decide, by decide⟩ ?_
          refine fw_icmp_ge 29 dX6_tellsNow_4 (by decide) (fun h4 => ?_) (fun h4 => ?_)
          · skip
            have hfr : ∀ k, ¬ k = 9 → (fw_upd (fw_upd (fw_upd (fw_upd N 9 0 (N 4 (4 * m + 0))) 9 1 ((fw_upd N 9 0 (N 4 (4 * m + 0))) 4 (4 * m + 1))) 9 2 ((fw_upd (fw_upd N 9 0 (N 4 (4 * m + 0))) 9 1 ((fw_upd N 9 0 (N 4 (4 * m + 0))) 4 (4 * m + 1))) 4 (4 * m + 2))) 9 3 ((fw_upd (fw_upd (fw_upd N 9 0 (N 4 (4 * m + 0))) 9 1 ((fw_upd N 9 0 (N 4 (4 * m + 0))) 4 (4 * m + 1))) 9 2 ((fw_upd (fw_upd N 9 0 (N 4 (4 * m + 0))) 9 1 ((fw_upd N 9 0 (N 4 (4 * m + 0))) 4 (4 * m + 1))) 4 (4 * m + 2))) 4 (4 * m + 3))) k = N k := fun k a => by simp only [fw_updne a]
            have h9 : ∀ p, 0 ≤ p → p < 4 → (fw_upd (fw_upd (fw_upd (fw_upd N 9 0 (N 4 (4 * m + 0))) 9 1 ((fw_upd N 9 0 (N 4 (4 * m + 0))) 4 (4 * m + 1))) 9 2 ((fw_upd (fw_upd N 9 0 (N 4 (4 * m + 0))) 9 1 ((fw_upd N 9 0 (N 4 (4 * m + 0))) 4 (4 * m + 1))) 4 (4 * m + 2))) 9 3 ((fw_upd (fw_upd (fw_upd N 9 0 (N 4 (4 * m + 0))) 9 1 ((fw_upd N 9 0 (N 4 (4 * m + 0))) 4 (4 * m + 1))) 9 2 ((fw_upd (fw_upd N 9 0 (N 4 (4 * m + 0))) 9 1 ((fw_upd N 9 0 (N 4 (4 * m + 0))) 4 (4 * m + 1))) 4 (4 * m + 2))) 4 (4 * m + 3))) 9 p = N 4 (4 * m + p) := fun p a b => by rcases (show p = 0 ∨ p = 1 ∨ p = 2 ∨ p = 3 by omega) with rfl | rfl | rfl | rfl <;> simp [fw_upd]
            refine fw_aload_n dX6_tellsNow_29 rfl rfl ?_
            refine fw_cV mX6_tells [] dX6_tellsNow_30 mv_X6_tells lk_6_173 ⟨⟨by decide, by decide⟩, rfl, rfl, rfl, by decide, by decide⟩ ly1_0 ⟨by decide, by decide⟩ rfl rfl (Nat.le_of_ble_eq_true rfl) (sp_X6_tells T _ O L (by rw [hfr 0 (by decide), hfr 1 (by decide), md_G_of (hfr 2 (by decide))]; exact hwf) (by rw [hfr 6 (by decide)]; exact hap) (fun p a b => by rw [h9 p a b, hfr 1 (by decide)]; exact hv p a b)) (fun r M1 L1 hp hM1 => ?_)
            obtain ⟨rfl, rfl, g1, g2, g3, g4, g5⟩ := hp
            rw [hfr 0 (by decide), hfr 6 (by decide), md_G_of (hfr 2 (by decide))] at g2 g3
            rw [hfr 0 (by decide)] at g5
            have hT80 := ab_T80 hwf
            have eS := ab_TT_congr hwf (v := (fw_upd (fw_upd (fw_upd (fw_upd N 9 0 (N 4 (4 * m + 0))) 9 1 ((fw_upd N 9 0 (N 4 (4 * m + 0))) 4 (4 * m + 1))) 9 2 ((fw_upd (fw_upd N 9 0 (N 4 (4 * m + 0))) 9 1 ((fw_upd N 9 0 (N 4 (4 * m + 0))) 4 (4 * m + 1))) 4 (4 * m + 2))) 9 3 ((fw_upd (fw_upd (fw_upd N 9 0 (N 4 (4 * m + 0))) 9 1 ((fw_upd N 9 0 (N 4 (4 * m + 0))) 4 (4 * m + 1))) 9 2 ((fw_upd (fw_upd N 9 0 (N 4 (4 * m + 0))) 9 1 ((fw_upd N 9 0 (N 4 (4 * m + 0))) 4 (4 * m + 1))) 4 (4 * m + 2))) 4 (4 * m + 3))) 9) (v' := fun p => N 4 (4 * m + p)) (lf := ab_LF (md_G N) O (N 6) T.toNat) (lf' := ab_LF (md_G N) O (N 6) T.toNat) (ru := N 0 3) h9 (fun _ _ _ _ _ _ => Iff.rfl) T.toNat (by omega)
            rw [eS] at g2 g3
            refine fw_vret dX6_tellsNow_33 ⟨rfl, rfl, rfl⟩ ?_
            exact ⟨rfl, rfl, fun k a => (g1 k (by omega)).trans (hfr k (by omega)), g2, g3, g4, g5⟩
          · skip
            exfalso; omega

set_option maxRecDepth 20000 in
set_option maxHeartbeats 4000000 in
theorem sp_X6_tellsOf (T : Int) (N : fw_F) (O : Int → Int) (L : fw_G) (hwf : ab_wf (N 0 2) (N 1) (md_G N) O T) (hap : ab_apok (N 6)) (m : Int) (hm : 0 ≤ m ∧ m < 4) (d : Int) (hd : 0 ≤ d ∧ d < 30) (hv : ∀ p, 0 ≤ p → p < 4 → 0 ≤ (if d = N 0 4 then N 4 (4 * m + p) else N 5 (16 * d + 4 * m + p)) ∧ (if d = N 0 4 then N 4 (4 * m + p) else N 5 (16 * d + 4 * m + p)) ≤ N 1 p) : fw_SD mX6_tellsOf [fw_r 0, fw_i m, fw_i d] N L (fun r M2 L2 => r = none ∧ L2 = L ∧ (∀ k, k < 7 ∨ 19 < k → M2 k = N k) ∧ md_T M2 (ab_TT (md_G N) O (fun p => (if d = N 0 4 then N 4 (4 * m + p) else N 5 (16 * d + 4 * m + p))) (ab_LF (md_G N) O (N 6) T.toNat) (N 0 3) T.toNat) ∧ (∃ od, md_P M2 (ab_TT (md_G N) O (fun p => (if d = N 0 4 then N 4 (4 * m + p) else N 5 (16 * d + 4 * m + p))) (ab_LF (md_G N) O (N 6) T.toNat) (N 0 3) T.toNat) od) ∧ M2 16 0 = 0 ∧ ab_lab (M2 11) (M2 13) (M2 14) (M2 15) (fw_and (N 0 3) 2) (M2 16)) := by
  refine fw_SP_of pl_X6_tellsOf (ls := [_, _, _]) rfl (Nat.le_of_ble_eq_true rfl) fun hA hM => ?_
  refine fw_iload_n dX6_tellsOf_0 rfl rfl ?_
  refine fw_aload_n dX6_tellsOf_1 rfl rfl ?_
  refine fw_geti 4 rfl dX6_tellsOf_2 ff_6_109 ly1_0 ⟨by decide, by decide⟩ rfl ?_
  refine fw_icmp_ne 16 dX6_tellsOf_5 (by decide) (fun h5 => ?_) (fun h5 => ?_)
  · skip
    refine fw_iconst dX6_tellsOf_16 ⟨by decide, by decide⟩ ?_
    refine fw_istore_n (ls2 := [_, _, _, _]) dX6_tellsOf_17 rfl (by decide) rfl ?_
    refine fw_iload_n dX6_tellsOf_18 rfl rfl ?_
    refine fw_iconst dX6_tellsOf_19 ⟨by decide, by decide⟩ ?_
    refine fw_icmp_ge 50 dX6_tellsOf_20 (by decide) (fun h20 => ?_) (fun h20 => ?_)
    · skip
      exfalso; omega
    · skip
      refine fw_aload_n dX6_tellsOf_23 rfl rfl ?_
      refine fw_getr 13 9 rfl dX6_tellsOf_24 ff_6_39 ly1_0 ⟨by decide, by decide⟩ rfl rfl (by decide) ?_
      refine fw_iload_n dX6_tellsOf_27 rfl rfl ?_
      refine fw_aload_n dX6_tellsOf_28 rfl rfl ?_
      refine fw_getr 9 5 rfl dX6_tellsOf_29 ff_6_27 ly1_0 ⟨by decide, by decide⟩ rfl rfl (by decide) ?_
      refine fw_bipush dX6_tellsOf_32 ⟨by decide, by decide⟩ (by decide) ?_
      refine fw_iload_n dX6_tellsOf_34 rfl rfl ?_
      refine fw_imul dX6_tellsOf_35 ⟨by omega, by omega⟩ ?_
      refine fw_iconst dX6_tellsOf_36 ⟨by decide, by decide⟩ ?_
      refine fw_iload_n dX6_tellsOf_37 rfl rfl ?_
      refine fw_imul dX6_tellsOf_38 ⟨by omega, by omega⟩ ?_
      refine fw_iadd dX6_tellsOf_39 ⟨by omega, by omega⟩ ?_
      refine fw_iload_n dX6_tellsOf_40 rfl rfl ?_
      refine fw_iadd dX6_tellsOf_41 ⟨by omega, by omega⟩ ?_
      refine fw_iaload dX6_tellsOf_42 ly1_5 ⟨by decide, by decide⟩ ⟨by omega, by omega⟩ ?_
      refine fw_iastore dX6_tellsOf_43 ly1_9 (by decide) ⟨by decide, by decide⟩ ⟨by omega, by omega⟩ ?_
      refine fw_iincv (ls2 := [_, _, _, _]) (1) dX6_tellsOf_44 rfl (by decide) ⟨by decide, by decide⟩ (by decide) rfl ?_
      refine fw_goto 18 dX6_tellsOf_47 (by decide) ?_
      refine fw_iload_n dX6_tellsOf_18 rfl rfl ?_
      refine fw_iconst dX6_tellsOf_19 ⟨by decide, by decide⟩ ?_
      refine fw_icmp_ge 50 dX6_tellsOf_20 (by decide) (fun h20 => ?_) (fun h20 => ?_)
      · skip
        exfalso; omega
      · skip
        refine fw_aload_n dX6_tellsOf_23 rfl rfl ?_
        refine fw_getr 13 9 rfl dX6_tellsOf_24 ff_6_39 ly1_0 ⟨by decide, by decide⟩ rfl rfl (by decide) ?_
        refine fw_iload_n dX6_tellsOf_27 rfl rfl ?_
        refine fw_aload_n dX6_tellsOf_28 rfl rfl ?_
        refine fw_getr 9 5 rfl dX6_tellsOf_29 ff_6_27 ly1_0 ⟨by decide, by decide⟩ rfl rfl (by decide) ?_
        refine fw_bipush dX6_tellsOf_32 ⟨by decide, by decide⟩ (by decide) ?_
        refine fw_iload_n dX6_tellsOf_34 rfl rfl ?_
        refine fw_imul dX6_tellsOf_35 ⟨by omega, by omega⟩ ?_
        refine fw_iconst dX6_tellsOf_36 ⟨by decide, by decide⟩ ?_
        refine fw_iload_n dX6_tellsOf_37 rfl rfl ?_
        refine fw_imul dX6_tellsOf_38 ⟨by omega, by omega⟩ ?_
        refine fw_iadd dX6_tellsOf_39 ⟨by omega, by omega⟩ ?_
        refine fw_iload_n dX6_tellsOf_40 rfl rfl ?_
        refine fw_iadd dX6_tellsOf_41 ⟨by omega, by omega⟩ ?_
        refine fw_iaload dX6_tellsOf_42 ly1_5 ⟨by decide, by decide⟩ ⟨by omega, by omega⟩ ?_
        refine fw_iastore dX6_tellsOf_43 ly1_9 (by decide) ⟨by decide, by decide⟩ ⟨by omega, by omega⟩ ?_
        refine fw_iincv (ls2 := [_, _, _, _]) (2) dX6_tellsOf_44 rfl (by decide) ⟨by decide, by decide⟩ (by decide) rfl ?_
        refine fw_goto 18 dX6_tellsOf_47 (by decide) ?_
        refine fw_iload_n dX6_tellsOf_18 rfl rfl ?_
        refine fw_iconst dX6_tellsOf_19 ⟨by decide, by decide⟩ ?_
        refine fw_icmp_ge 50 dX6_tellsOf_20 (by decide) (fun h20 => ?_) (fun h20 => ?_)
        · skip
          exfalso; omega
        · skip
          refine fw_aload_n dX6_tellsOf_23 rfl rfl ?_
          refine fw_getr 13 9 rfl dX6_tellsOf_24 ff_6_39 ly1_0 ⟨by decide, by decide⟩ rfl rfl (by decide) ?_
          refine fw_iload_n dX6_tellsOf_27 rfl rfl ?_
          refine fw_aload_n dX6_tellsOf_28 rfl rfl ?_
          refine fw_getr 9 5 rfl dX6_tellsOf_29 ff_6_27 ly1_0 ⟨by decide, by decide⟩ rfl rfl (by decide) ?_
          refine fw_bipush dX6_tellsOf_32 ⟨by decide, by decide⟩ (by decide) ?_
          refine fw_iload_n dX6_tellsOf_34 rfl rfl ?_
          refine fw_imul dX6_tellsOf_35 ⟨by omega, by omega⟩ ?_
          refine fw_iconst dX6_tellsOf_36 ⟨by decide, by decide⟩ ?_
          refine fw_iload_n dX6_tellsOf_37 rfl rfl ?_
          refine fw_imul dX6_tellsOf_38 ⟨by omega, by omega⟩ ?_
          refine fw_iadd dX6_tellsOf_39 ⟨by omega, by omega⟩ ?_
          refine fw_iload_n dX6_tellsOf_40 rfl rfl ?_
          refine fw_iadd dX6_tellsOf_41 ⟨by omega, by omega⟩ ?_
          refine fw_iaload dX6_tellsOf_42 ly1_5 ⟨by decide, by decide⟩ ⟨by omega, by omega⟩ ?_
          refine fw_iastore dX6_tellsOf_43 ly1_9 (by decide) ⟨by decide, by decide⟩ ⟨by omega, by omega⟩ ?_
          refine fw_iincv (ls2 := [_, _, _, _]) (3) dX6_tellsOf_44 rfl (by decide) ⟨by decide, by decide⟩ (by decide) rfl ?_
          refine fw_goto 18 dX6_tellsOf_47 (by decide) ?_
          refine fw_iload_n dX6_tellsOf_18 rfl rfl ?_
          refine fw_iconst dX6_tellsOf_19 ⟨by decide, by decide⟩ ?_
          refine fw_icmp_ge 50 dX6_tellsOf_20 (by decide) (fun h20 => ?_) (fun h20 => ?_)
          · skip
            exfalso; omega
          · skip
            refine fw_aload_n dX6_tellsOf_23 rfl rfl ?_
            refine fw_getr 13 9 rfl dX6_tellsOf_24 ff_6_39 ly1_0 ⟨by decide, by decide⟩ rfl rfl (by decide) ?_
            refine fw_iload_n dX6_tellsOf_27 rfl rfl ?_
            refine fw_aload_n dX6_tellsOf_28 rfl rfl ?_
            refine fw_getr 9 5 rfl dX6_tellsOf_29 ff_6_27 ly1_0 ⟨by decide, by decide⟩ rfl rfl (by decide) ?_
            refine fw_bipush dX6_tellsOf_32 ⟨by decide, by decide⟩ (by decide) ?_
            refine fw_iload_n dX6_tellsOf_34 rfl rfl ?_
            refine fw_imul dX6_tellsOf_35 ⟨by omega, by omega⟩ ?_
            refine fw_iconst dX6_tellsOf_36 ⟨by decide, by decide⟩ ?_
            refine fw_iload_n dX6_tellsOf_37 rfl rfl ?_
            refine fw_imul dX6_tellsOf_38 ⟨by omega, by omega⟩ ?_
            refine fw_iadd dX6_tellsOf_39 ⟨by omega, by omega⟩ ?_
            refine fw_iload_n dX6_tellsOf_40 rfl rfl ?_
            refine fw_iadd dX6_tellsOf_41 ⟨by omega, by omega⟩ ?_
            refine fw_iaload dX6_tellsOf_42 ly1_5 ⟨by decide, by decide⟩ ⟨by omega, by omega⟩ ?_
            refine fw_iastore dX6_tellsOf_43 ly1_9 (by decide) ⟨by decide, by decide⟩ ⟨by omega, by omega⟩ ?_
            refine fw_iincv (ls2 := [_, _, _, _]) (4) dX6_tellsOf_44 rfl (by decide) ⟨by decide, by decide⟩ (by decide) rfl ?_
            refine fw_goto 18 dX6_tellsOf_47 (by decide) ?_
            refine fw_iload_n dX6_tellsOf_18 rfl rfl ?_
            refine fw_iconst dX6_tellsOf_19 ⟨by decide, by decide⟩ ?_
            refine fw_icmp_ge 50 dX6_tellsOf_20 (by decide) (fun h20 => ?_) (fun h20 => ?_)
            · skip
              simp only [if_neg h5] at hv ⊢
              have hfr : ∀ k, ¬ k = 9 → (fw_upd (fw_upd (fw_upd (fw_upd N 9 0 (N 5 (16 * d + 4 * m + 0))) 9 1 ((fw_upd N 9 0 (N 5 (16 * d + 4 * m + 0))) 5 (16 * d + 4 * m + 1))) 9 2 ((fw_upd (fw_upd N 9 0 (N 5 (16 * d + 4 * m + 0))) 9 1 ((fw_upd N 9 0 (N 5 (16 * d + 4 * m + 0))) 5 (16 * d + 4 * m + 1))) 5 (16 * d + 4 * m + 2))) 9 3 ((fw_upd (fw_upd (fw_upd N 9 0 (N 5 (16 * d + 4 * m + 0))) 9 1 ((fw_upd N 9 0 (N 5 (16 * d + 4 * m + 0))) 5 (16 * d + 4 * m + 1))) 9 2 ((fw_upd (fw_upd N 9 0 (N 5 (16 * d + 4 * m + 0))) 9 1 ((fw_upd N 9 0 (N 5 (16 * d + 4 * m + 0))) 5 (16 * d + 4 * m + 1))) 5 (16 * d + 4 * m + 2))) 5 (16 * d + 4 * m + 3))) k = N k := fun k a => by simp only [fw_updne a]
              have h9 : ∀ p, 0 ≤ p → p < 4 → (fw_upd (fw_upd (fw_upd (fw_upd N 9 0 (N 5 (16 * d + 4 * m + 0))) 9 1 ((fw_upd N 9 0 (N 5 (16 * d + 4 * m + 0))) 5 (16 * d + 4 * m + 1))) 9 2 ((fw_upd (fw_upd N 9 0 (N 5 (16 * d + 4 * m + 0))) 9 1 ((fw_upd N 9 0 (N 5 (16 * d + 4 * m + 0))) 5 (16 * d + 4 * m + 1))) 5 (16 * d + 4 * m + 2))) 9 3 ((fw_upd (fw_upd (fw_upd N 9 0 (N 5 (16 * d + 4 * m + 0))) 9 1 ((fw_upd N 9 0 (N 5 (16 * d + 4 * m + 0))) 5 (16 * d + 4 * m + 1))) 9 2 ((fw_upd (fw_upd N 9 0 (N 5 (16 * d + 4 * m + 0))) 9 1 ((fw_upd N 9 0 (N 5 (16 * d + 4 * m + 0))) 5 (16 * d + 4 * m + 1))) 5 (16 * d + 4 * m + 2))) 5 (16 * d + 4 * m + 3))) 9 p = N 5 (16 * d + 4 * m + p) := fun p a b => by rcases (show p = 0 ∨ p = 1 ∨ p = 2 ∨ p = 3 by omega) with rfl | rfl | rfl | rfl <;> simp [fw_upd]
              refine fw_aload_n dX6_tellsOf_50 rfl rfl ?_
              refine fw_cV mX6_tells [] dX6_tellsOf_51 mv_X6_tells lk_6_173 ⟨⟨by decide, by decide⟩, rfl, rfl, rfl, by decide, by decide⟩ ly1_0 ⟨by decide, by decide⟩ rfl rfl (Nat.le_of_ble_eq_true rfl) (sp_X6_tells T _ O L (by rw [hfr 0 (by decide), hfr 1 (by decide), md_G_of (hfr 2 (by decide))]; exact hwf) (by rw [hfr 6 (by decide)]; exact hap) (fun p a b => by rw [h9 p a b, hfr 1 (by decide)]; exact hv p a b)) (fun r M1 L1 hp hM1 => ?_)
              obtain ⟨rfl, rfl, g1, g2, g3, g4, g5⟩ := hp
              rw [hfr 0 (by decide), hfr 6 (by decide), md_G_of (hfr 2 (by decide))] at g2 g3
              rw [hfr 0 (by decide)] at g5
              have hT80 := ab_T80 hwf
              have eS := ab_TT_congr hwf (v := (fw_upd (fw_upd (fw_upd (fw_upd N 9 0 (N 5 (16 * d + 4 * m + 0))) 9 1 ((fw_upd N 9 0 (N 5 (16 * d + 4 * m + 0))) 5 (16 * d + 4 * m + 1))) 9 2 ((fw_upd (fw_upd N 9 0 (N 5 (16 * d + 4 * m + 0))) 9 1 ((fw_upd N 9 0 (N 5 (16 * d + 4 * m + 0))) 5 (16 * d + 4 * m + 1))) 5 (16 * d + 4 * m + 2))) 9 3 ((fw_upd (fw_upd (fw_upd N 9 0 (N 5 (16 * d + 4 * m + 0))) 9 1 ((fw_upd N 9 0 (N 5 (16 * d + 4 * m + 0))) 5 (16 * d + 4 * m + 1))) 9 2 ((fw_upd (fw_upd N 9 0 (N 5 (16 * d + 4 * m + 0))) 9 1 ((fw_upd N 9 0 (N 5 (16 * d + 4 * m + 0))) 5 (16 * d + 4 * m + 1))) 5 (16 * d + 4 * m + 2))) 5 (16 * d + 4 * m + 3))) 9) (v' := fun p => N 5 (16 * d + 4 * m + p)) (lf := ab_LF (md_G N) O (N 6) T.toNat) (lf' := ab_LF (md_G N) O (N 6) T.toNat) (ru := N 0 3) h9 (fun _ _ _ _ _ _ => Iff.rfl) T.toNat (by omega)
              rw [eS] at g2 g3
              refine fw_vret dX6_tellsOf_54 ⟨rfl, rfl, rfl⟩ ?_
              exact ⟨rfl, rfl, fun k a => (g1 k (by omega)).trans (hfr k (by omega)), g2, g3, g4, g5⟩
            · skip
              exfalso; omega
  · skip
    refine fw_aload_n dX6_tellsOf_8 rfl rfl ?_
    refine fw_iload_n dX6_tellsOf_9 rfl rfl ?_
    simp only [if_pos h5] at hv ⊢
    refine fw_cV mX6_tellsNow [_] dX6_tellsOf_10 mv_X6_tellsNow lk_6_176 ⟨⟨by decide, by decide⟩, rfl, rfl, rfl, by decide, by decide⟩ ly1_0 ⟨by decide, by decide⟩ rfl rfl (Nat.le_of_ble_eq_true rfl) (sp_X6_tellsNow T N O L hwf hap m hm hv) (fun r M1 L1 hp hM1 => ?_)
    obtain ⟨rfl, rfl, g1, g2, g3, g4, g5⟩ := hp
    refine fw_goto 54 dX6_tellsOf_13 (by decide) ?_
    refine fw_vret dX6_tellsOf_54 ⟨rfl, rfl, rfl⟩ ?_
    exact ⟨rfl, rfl, g1, g2, g3, g4, g5⟩
