set_option maxRecDepth 20000 in
set_option maxHeartbeats 4000000 in
theorem sp_X6_leaves (T : Int) (N : fw_F) (O : Int → Int) (L : fw_G) (hwf : ab_wf (N 0 2) (N 1) (md_G N) O T) (hap : ab_apok (N 6)) : fw_SD mX6_leaves [fw_r 0] N L (fun r M2 L2 => r = none ∧ L2 = L ∧ (∀ k, ¬ k = 7 → ¬ k = 8 → M2 k = N k) ∧ ∀ p, 0 ≤ p → p < 4 → M2 7 p = ab_FO (md_G N) O (N 6) T.toNat p) := by
  refine fw_SP_of pl_X6_leaves (ls := [_]) rfl (Nat.le_of_ble_eq_true rfl) fun hA hM => ?_
  refine fw_aload_n dX6_leaves_0 rfl rfl ?_
  refine fw_cV mX6_restarts [] dX6_leaves_1 mv_X6_restarts lk_6_123 ⟨⟨by decide, by decide⟩, rfl, rfl, rfl, by decide, by decide⟩ ly1_0 ⟨by decide, by decide⟩ rfl rfl (Nat.le_of_ble_eq_true rfl) (sp_X6_restarts _ _) (fun r M1 L1 hp hM1 => ?_)
  obtain ⟨rfl, rfl, g1, g2⟩ := hp
  refine fw_iconst dX6_leaves_4 ⟨by decide, by decide⟩ ?_
  refine fw_istore_n (ls2 := [_, _]) dX6_leaves_5 rfl (by decide) rfl ?_
  refine fw_iload_n dX6_leaves_6 rfl rfl ?_
  refine fw_iconst dX6_leaves_7 ⟨by decide, by decide⟩ ?_
  refine fw_icmp_ge 25 dX6_leaves_8 (by decide) (fun h8 => ?_) (fun h8 => ?_)
  · skip
    exfalso; omega
  · skip
    refine fw_aload_n dX6_leaves_11 rfl rfl ?_
    refine fw_getr 11 7 rfl dX6_leaves_12 ff_6_33 ly1_0 ⟨by decide, by decide⟩ rfl rfl (by decide) ?_
    refine fw_iload_n dX6_leaves_15 rfl rfl ?_
    refine fw_bipush dX6_leaves_16 ⟨by decide, by decide⟩ (by decide) ?_
    refine fw_iastore dX6_leaves_18 ly1_7 (by decide) ⟨by decide, by decide⟩ ⟨by omega, by omega⟩ ?_
    refine fw_iincv (ls2 := [_, _]) (1) dX6_leaves_19 rfl (by decide) ⟨by decide, by decide⟩ (by decide) rfl ?_
    refine fw_goto 6 dX6_leaves_22 (by decide) ?_
    refine fw_iload_n dX6_leaves_6 rfl rfl ?_
    refine fw_iconst dX6_leaves_7 ⟨by decide, by decide⟩ ?_
    refine fw_icmp_ge 25 dX6_leaves_8 (by decide) (fun h8 => ?_) (fun h8 => ?_)
    · skip
      exfalso; omega
    · skip
      refine fw_aload_n dX6_leaves_11 rfl rfl ?_
      refine fw_getr 11 7 rfl dX6_leaves_12 ff_6_33 ly1_0 ⟨by decide, by decide⟩ rfl rfl (by decide) ?_
      refine fw_iload_n dX6_leaves_15 rfl rfl ?_
      refine fw_bipush dX6_leaves_16 ⟨by decide, by decide⟩ (by decide) ?_
      refine fw_iastore dX6_leaves_18 ly1_7 (by decide) ⟨by decide, by decide⟩ ⟨by omega, by omega⟩ ?_
      refine fw_iincv (ls2 := [_, _]) (2) dX6_leaves_19 rfl (by decide) ⟨by decide, by decide⟩ (by decide) rfl ?_
      refine fw_goto 6 dX6_leaves_22 (by decide) ?_
      refine fw_iload_n dX6_leaves_6 rfl rfl ?_
      refine fw_iconst dX6_leaves_7 ⟨by decide, by decide⟩ ?_
      refine fw_icmp_ge 25 dX6_leaves_8 (by decide) (fun h8 => ?_) (fun h8 => ?_)
      · skip
        exfalso; omega
      · skip
        refine fw_aload_n dX6_leaves_11 rfl rfl ?_
        refine fw_getr 11 7 rfl dX6_leaves_12 ff_6_33 ly1_0 ⟨by decide, by decide⟩ rfl rfl (by decide) ?_
        refine fw_iload_n dX6_leaves_15 rfl rfl ?_
        refine fw_bipush dX6_leaves_16 ⟨by decide, by decide⟩ (by decide) ?_
        refine fw_iastore dX6_leaves_18 ly1_7 (by decide) ⟨by decide, by decide⟩ ⟨by omega, by omega⟩ ?_
        refine fw_iincv (ls2 := [_, _]) (3) dX6_leaves_19 rfl (by decide) ⟨by decide, by decide⟩ (by decide) rfl ?_
        refine fw_goto 6 dX6_leaves_22 (by decide) ?_
        refine fw_iload_n dX6_leaves_6 rfl rfl ?_
        refine fw_iconst dX6_leaves_7 ⟨by decide, by decide⟩ ?_
        refine fw_icmp_ge 25 dX6_leaves_8 (by decide) (fun h8 => ?_) (fun h8 => ?_)
        · skip
          exfalso; omega
        · skip
          refine fw_aload_n dX6_leaves_11 rfl rfl ?_
          refine fw_getr 11 7 rfl dX6_leaves_12 ff_6_33 ly1_0 ⟨by decide, by decide⟩ rfl rfl (by decide) ?_
          refine fw_iload_n dX6_leaves_15 rfl rfl ?_
          refine fw_bipush dX6_leaves_16 ⟨by decide, by decide⟩ (by decide) ?_
          refine fw_iastore dX6_leaves_18 ly1_7 (by decide) ⟨by decide, by decide⟩ ⟨by omega, by omega⟩ ?_
          refine fw_iincv (ls2 := [_, _]) (4) dX6_leaves_19 rfl (by decide) ⟨by decide, by decide⟩ (by decide) rfl ?_
          refine fw_goto 6 dX6_leaves_22 (by decide) ?_
          refine fw_iload_n dX6_leaves_6 rfl rfl ?_
          refine fw_iconst dX6_leaves_7 ⟨by decide, by decide⟩ ?_
          refine fw_icmp_ge 25 dX6_leaves_8 (by decide) (fun h8 => ?_) (fun h8 => ?_)
          · skip
            have hmk := hwf.1
            have hfr : ∀ k, ¬ k = 7 → ¬ k = 8 → fw_upd (fw_upd (fw_upd (fw_upd M1 7 0 20) 7 1 20) 7 2 20) 7 3 20 k = N k := fun k a b => by simp only [fw_updne a]; exact g1 k b
            have h8 : ∀ p, 0 ≤ p → p < 4 → fw_upd (fw_upd (fw_upd (fw_upd M1 7 0 20) 7 1 20) 7 2 20) 7 3 20 8 p = 0 := fun p a b => by simp (disch := decide) only [fw_updne]; exact g2 p a b
            have h7 : ∀ p, 0 ≤ p → p < 4 → fw_upd (fw_upd (fw_upd (fw_upd M1 7 0 20) 7 1 20) 7 2 20) 7 3 20 7 p = 20 := fun p a b => by rcases (show p = 0 ∨ p = 1 ∨ p = 2 ∨ p = 3 by omega) with rfl | rfl | rfl | rfl <;> simp [fw_upd]
            refine fw_aload_n dX6_leaves_25 rfl rfl ?_
            refine fw_aload_n dX6_leaves_26 rfl rfl ?_
            refine fw_getr 5 1 rfl dX6_leaves_27 ff_6_13 ly1_0 ⟨by decide, by decide⟩ rfl rfl (by decide) ?_
            refine fw_cV mX6_first [_] dX6_leaves_30 mv_X6_first lk_6_126 ⟨⟨by decide, by decide⟩, rfl, rfl, rfl, by decide, by decide⟩ ly1_0 ⟨by decide, by decide⟩ rfl rfl (Nat.le_of_ble_eq_true rfl) (sp_X6_first_1 _ _ (by rw [hfr 0 (by decide) (by decide)]; exact ⟨hmk.1, hmk.2.1⟩) (fun p a b => ⟨by rw [h8 p a b]; decide, by rw [hfr 1 (by decide) (by decide)]; exact (hmk.2.2 p a b).2.1⟩)) (fun r M1 L1 hp hM1 => ?_)
            obtain ⟨rfl, rfl, b, rfl, hf⟩ := hp
            refine fw_istore_n (ls2 := [_, _]) dX6_leaves_33 rfl (by decide) rfl ?_
            have hT80 := ab_T80 hwf
            rw [hfr 1 (by decide) (by decide), hfr 0 (by decide) (by decide), md_G_of (hfr 2 (by decide) (by decide))] at hf
            refine lp_X6_leaves T N O _ hwf hap 82 b 0 _ (by omega) (by omega) hfr (fun p a b => by rw [h8 p a b]; rfl) (fun p a b => ?_) hf
            rw [h7 p a b]
            have := ab_LF_ok hwf hap 0 (by omega) p a b
            unfold ab_FO
            rw [if_neg (by show ¬ _ < (0 : Int); omega)]
          · skip
            exfalso; omega

theorem md_inj {M : fw_F} {S : ab_S} {G : fw_F} {O : Int → Int} {j : Nat} {od : Int} (hT : md_T M S) (hi : ab_ti G O j S) (hP : md_P M S od) : (∀ t, ab_th (M 11) t → 0 ≤ M 14 t ∧ M 14 t ≤ 9) ∧ (∀ a b, ab_th (M 11) a → ab_th (M 11) b → M 15 a = M 15 b → a = b) ∧ (∀ t, ab_th (M 11) t → S.1 0 t = 1) := by
  have md : ∀ t, ab_th (M 11) t → S.1 0 t = 1 := by
    intro t ht
    have h1 := hT t (by have := ht.1; omega) ht.2.1
    have h2 := hi.1 t (by have := ht.1; omega) ht.2.1
    unfold ab_tr at h2
    have := ht.2.2
    omega
  refine ⟨fun t ht => ?_, fun a b ha hb e => ?_, md⟩
  · have h1 := hT t (by have := ht.1; omega) ht.2.1
    have h2 := hi.1 t (by have := ht.1; omega) ht.2.1
    unfold ab_tr at h2
    rw [h1.2.2.2.2.1]
    exact h2.2.2.2.2
  · have a1 := hi.2.2.2.1 a ha.1 ha.2.1 (md a ha)
    have b1 := hi.2.2.2.1 b hb.1 hb.2.1 (md b hb)
    have p1 := hP.2 a b ha.1 ha.2.1 hb.1 hb.2.1 (md a ha) (md b hb)
    have p2 := hP.2 b a hb.1 hb.2.1 ha.1 ha.2.1 (md b hb) (md a ha)
    have e5 : S.1 5 a = S.1 5 b := by
      rcases Int.lt_trichotomy (S.1 5 a) (S.1 5 b) with q | q | q
      · have := p1.mpr q; omega
      · exact q
      · have := p2.mpr q; omega
    rw [← a1.2.2, ← b1.2.2, e5]

set_option maxRecDepth 20000 in
set_option maxHeartbeats 4000000 in
theorem lp_X6_tells_99 (T : Int) (N : fw_F) (O : Int → Int) (L : fw_G) (hwf : ab_wf (N 0 2) (N 1) (md_G N) O T) (hap : ab_apok (N 6)) (hv : ∀ p, 0 ≤ p → p < 4 → 0 ≤ N 9 p ∧ N 9 p ≤ N 1 p) : ∀ (q : Nat) (b : Int) (j : Nat) (od : Int) (M : fw_F), T - j < q → (j : Int) ≤ T → 0 ≤ od → od ≤ j → (∀ k, k < 7 ∨ k = 9 ∨ 19 < k → M k = N k) → (∀ p, 0 ≤ p → p < 4 → M 7 p = ab_FO (md_G N) O (N 6) T.toNat p) → (∀ p, 0 ≤ p → p < 4 → M 8 p = min (N 9 p) (ab_cnt O j p)) → md_T M (ab_TT (md_G N) O (N 9) (ab_LF (md_G N) O (N 6) T.toNat) (N 0 3) j) → md_P M (ab_TT (md_G N) O (N 9) (ab_LF (md_G N) O (N 6) T.toNat) (N 0 3) j) od → ab_fs (M 8) (N 9) (md_G N) (N 0 2) b → fw_D mX6_tells 99 [some (fw_r 0), some (fw_i od), some (fw_i b)] [] M L (fun r M2 L2 => r = none ∧ L2 = L ∧ (∀ k, k < 7 ∨ k = 9 ∨ 19 < k → M2 k = N k) ∧ md_T M2 (ab_TT (md_G N) O (N 9) (ab_LF (md_G N) O (N 6) T.toNat) (N 0 3) T.toNat) ∧ (∃ od, md_P M2 (ab_TT (md_G N) O (N 9) (ab_LF (md_G N) O (N 6) T.toNat) (N 0 3) T.toNat) od) ∧ M2 16 0 = 0 ∧ ab_lab (M2 11) (M2 13) (M2 14) (M2 15) (fw_and (N 0 3) 2) (M2 16)) := by
  intro q
  induction q with
  | zero => intro b j od M h0 h1; omega
  | succ q ih =>
    intro b j od M h0 h1 ho1 ho2 hk h7 h8 hT hP hf
    have e0 := hk 0 (by omega)
    have e1 := hk 1 (by omega)
    have e2 := hk 2 (by omega)
    have e9 := hk 9 (by omega)
    have eG := md_G_of e2
    have hT80 := ab_T80 hwf
    have hmk := hwf.1
    have hmk1 := hmk.1
    have hmk2 := hmk.2.1
    have hfst := ab_first hwf h1 hv h8 hf
    refine fw_iload_n dX6_tells_99 rfl rfl ?_
    refine fw_bipush dX6_tells_100 ⟨by decide, by decide⟩ (by decide) ?_
    refine fw_icmp_eq 157 dX6_tells_102 (by decide) (fun h102 => ?_) (fun h102 => ?_)
    · skip
      have htj := ab_ti_TT hwf (N 9) (ab_LF (md_G N) O (N 6) T.toNat) (N 0 3) j h1
      have hI := md_inj hT htj hP
      have f2 : ∀ k : Nat, j ≤ k → (k : Int) < T → ¬ O k % 20 < N 9 (O k / 20) := by
        rcases hfst with ⟨f1, f2⟩ | ⟨k, k1, k2, k3, k4, k5, k6⟩
        · exact f2
        · have := (hwf.2.2.2.2.1 k (by omega) k2).1; exfalso; omega
      refine fw_aload_n dX6_tells_157 rfl rfl ?_
      refine fw_cV mX6_names [] dX6_tells_158 mv_X6_names lk_6_160 ⟨⟨by decide, by decide⟩, rfl, rfl, rfl, by decide, by decide⟩ ly1_0 ⟨by decide, by decide⟩ rfl rfl (Nat.le_of_ble_eq_true rfl) (sp_X6_names M L hI.1 hI.2.1) (fun r M1 L1 hp hM1 => ?_)
      obtain ⟨rfl, rfl, g1, g2, g3⟩ := hp
      refine fw_vret dX6_tells_161 ⟨rfl, rfl, rfl⟩ ?_
      have eT : ab_TT (md_G N) O (N 9) (ab_LF (md_G N) O (N 6) T.toNat) (N 0 3) T.toNat = ab_TT (md_G N) O (N 9) (ab_LF (md_G N) O (N 6) T.toNat) (N 0 3) j := ab_TT_skip T.toNat (by omega) (fun i a b => f2 i a (by omega))
      rw [e0] at g3
      refine ⟨rfl, rfl, fun z a => (g1 z (by omega)).trans (hk z a), ?_, ⟨od, ?_⟩, ?_, ?_⟩
      · rw [eT]; intro t a c; rw [g1 10 (by decide), g1 11 (by decide), g1 12 (by decide), g1 13 (by decide), g1 14 (by decide), g1 17 (by decide), g1 18 (by decide)]; exact hT t a c
      · rw [eT]; exact md_P_same hP (by omega) (g1 15 (by decide)) (fun _ _ _ => rfl) (fun _ _ _ => rfl)
      · rw [g2, (hT 0 (by decide) (by decide)).2.2.2.2.1]; exact htj.2.1.2.2.2
      · rw [g1 11 (by decide), g1 13 (by decide), g1 14 (by decide), g1 15 (by decide)]; exact g3
    · skip
      rcases hfst with ⟨f1, f2⟩ | ⟨k, k1, k2, k3, k4, k5, k6⟩
      · exact absurd f1 h102
      have hx := hwf.2.2.2.2.1 k (by omega) k2
      have hx0 := hx.1
      have hx1 := hx.2.1
      have hx2 := hx.2.2
      have hb4 : 0 ≤ b ∧ b < 4 := by omega
      have hTTk : ab_TT (md_G N) O (N 9) (ab_LF (md_G N) O (N 6) T.toNat) (N 0 3) k = ab_TT (md_G N) O (N 9) (ab_LF (md_G N) O (N 6) T.toNat) (N 0 3) j := ab_TT_skip k k1 k4
      have hTk : md_T M (ab_TT (md_G N) O (N 9) (ab_LF (md_G N) O (N 6) T.toNat) (N 0 3) k) := by rw [hTTk]; exact hT
      have hPk : md_P M (ab_TT (md_G N) O (N 9) (ab_LF (md_G N) O (N 6) T.toNat) (N 0 3) k) od := by rw [hTTk]; exact hP
      have htk := ab_ti_TT hwf (N 9) (ab_LF (md_G N) O (N 6) T.toNat) (N 0 3) k (by omega)
      have h7b := h7 b hb4.1 hb4.2
      have hFL := ab_FO_LF hwf hap (p := b) (i := O k % 20) hb4.1 hb4.2 (by rw [k5]; exact hx2)
      have hst : ab_TT (md_G N) O (N 9) (ab_LF (md_G N) O (N 6) T.toNat) (N 0 3) (k + 1) = if O k % 20 < N 9 (O k / 20) ∧ O k % 20 < ab_LF (md_G N) O (N 6) T.toNat (O k / 20) then ab_ap (md_G N) (N 0 3) (O k) k (ab_TT (md_G N) O (N 9) (ab_LF (md_G N) O (N 6) T.toNat) (N 0 3) k) else ab_TT (md_G N) O (N 9) (ab_LF (md_G N) O (N 6) T.toNat) (N 0 3) k := rfl
      refine fw_aload_n dX6_tells_105 rfl rfl ?_
      refine fw_getr 12 8 rfl dX6_tells_106 ff_6_36 ly1_0 ⟨by decide, by decide⟩ rfl rfl (by decide) ?_
      refine fw_iload_n dX6_tells_109 rfl rfl ?_
      refine fw_iaload dX6_tells_110 ly1_8 ⟨by decide, by decide⟩ ⟨by omega, by omega⟩ ?_
      refine fw_aload_n dX6_tells_111 rfl rfl ?_
      refine fw_getr 11 7 rfl dX6_tells_112 ff_6_33 ly1_0 ⟨by decide, by decide⟩ rfl rfl (by decide) ?_
      refine fw_iload_n dX6_tells_115 rfl rfl ?_
      refine fw_iaload dX6_tells_116 ly1_7 ⟨by decide, by decide⟩ ⟨by omega, by omega⟩ ?_
      rw [k6, h7b]
      refine fw_icmp_ge 132 dX6_tells_117 (by decide) (fun h117 => ?_) (fun h117 => ?_)
      · skip
        have gfr : ∀ z, z < 7 ∨ z = 9 ∨ 19 < z → M z = N z := hk
        have g0 := gfr 0 (by omega)
        have g9 := gfr 9 (by omega)
        have gg2 := gfr 2 (by omega)
        have g7 : M 7 = M 7 := rfl
        have gm8 : M 8 = M 8 := rfl
        have hst := hst.trans (if_neg (fun z => by have := hFL.mpr (by rw [k5]; exact z.2); omega))
        refine fw_iinc (ls2 := [_, _, _]) dX6_tells_132 rfl ⟨by omega, by omega⟩ (by decide) rfl ?_
        refine fw_aload_n dX6_tells_135 rfl rfl ?_
        refine fw_getr 12 8 rfl dX6_tells_136 ff_6_36 ly1_0 ⟨by decide, by decide⟩ rfl rfl (by decide) ?_
        refine fw_iload_n dX6_tells_139 rfl rfl ?_
        refine fw_dup2 dX6_tells_140 rfl rfl ?_
        refine fw_iaload dX6_tells_141 ly1_8 ⟨by decide, by decide⟩ ⟨by omega, by omega⟩ ?_
        refine fw_iconst dX6_tells_142 ⟨by decide, by decide⟩ ?_
        refine fw_iadd dX6_tells_143 (by rw [gm8, k6]; exact ⟨by omega, by omega⟩) ?_
        have h8n : ∀ p, 0 ≤ p → p < 4 → fw_upd M 8 b (M 8 b + 1) 8 p = min (N 9 p) (ab_cnt O (k + 1) p) := by
          intro p a c
          rw [fw_updeq, gm8]
          have hs8 := ab_cnt_skip hwf k (v := N 9) k1 (by omega) k4 p
          show _ = min (N 9 p) (ab_cnt O k p + (if O k / 20 = p then 1 else 0))
          have c1 := ab_cnt_at hwf k2
          by_cases hp : p = b
          · rw [if_pos hp, hp, if_pos k5.symm, k6]
            rw [← k5] at c1 k3
            omega
          · rw [if_neg hp, if_neg (fun q => hp (by rw [k5]; exact q.symm)), Int.add_zero, h8 p a c, hs8]
        refine fw_iastore dX6_tells_144 ly1_8 (by decide) ⟨by decide, by decide⟩ ⟨by omega, by omega⟩ ?_
        refine fw_aload_n dX6_tells_145 rfl rfl ?_
        refine fw_aload_n dX6_tells_146 rfl rfl ?_
        refine fw_getr 13 9 rfl dX6_tells_147 ff_6_39 ly1_0 ⟨by decide, by decide⟩ rfl rfl (by decide) ?_
        refine fw_cV mX6_first [_] dX6_tells_150 mv_X6_first lk_6_126 ⟨⟨by decide, by decide⟩, rfl, rfl, rfl, by decide, by decide⟩ ly1_0 ⟨by decide, by decide⟩ rfl rfl (Nat.le_of_ble_eq_true rfl) (sp_X6_first_9 _ _ (by rw [fw_updne (by decide), g0]; exact ⟨hmk1, hmk2⟩) (fun p a b => ⟨by rw [h8n p a b]; have := ab_cnt_0 O p (k + 1); have := (hv p a b).1; omega, by rw [fw_updne (by decide), g9]; have := (hv p a b).2; have := (hmk.2.2 p a b).2.1; omega⟩)) (fun r M1 L1 hp hM1 => ?_)
        obtain ⟨rfl, rfl, b2, rfl, hf2⟩ := hp
        refine fw_istore_n (ls2 := [_, _, _]) dX6_tells_153 rfl (by decide) rfl ?_
        refine fw_goto 99 dX6_tells_154 (by decide) ?_
        refine ih b2 (k + 1) (od + 1) _ (by omega) (by omega) (by omega) (by omega) (fun z a => by rw [fw_updne (by omega)]; exact gfr z a) (fun p a c => by rw [fw_updne (by decide), g7]; exact h7 p a c) h8n ?_ ?_ ?_
        · rw [hst]; intro t a c; rw [fw_updne (show ¬ (10 : Int) = 8 by decide), fw_updne (show ¬ (11 : Int) = 8 by decide), fw_updne (show ¬ (12 : Int) = 8 by decide), fw_updne (show ¬ (13 : Int) = 8 by decide), fw_updne (show ¬ (14 : Int) = 8 by decide), fw_updne (show ¬ (17 : Int) = 8 by decide), fw_updne (show ¬ (18 : Int) = 8 by decide)]; exact hTk t a c
        · rw [hst]; exact md_P_same hPk (by omega) (fw_updne (by decide)) (fun _ _ _ => rfl) (fun _ _ _ => rfl)
        · rw [fw_updne (show ¬ (9 : Int) = 8 by decide), g9, fw_updne (show ¬ (0 : Int) = 8 by decide), g0, md_G_of ((fw_updne (show ¬ (2 : Int) = 8 by decide)).trans gg2)] at hf2; exact hf2
      · skip
        refine fw_aload_n dX6_tells_120 rfl rfl ?_
        refine fw_iload_n dX6_tells_121 rfl rfl ?_
        refine fw_aload_n dX6_tells_122 rfl rfl ?_
        refine fw_getr 12 8 rfl dX6_tells_123 ff_6_36 ly1_0 ⟨by decide, by decide⟩ rfl rfl (by decide) ?_
        refine fw_iload_n dX6_tells_126 rfl rfl ?_
        refine fw_iaload dX6_tells_127 ly1_8 ⟨by decide, by decide⟩ ⟨by omega, by omega⟩ ?_
        refine fw_iload_n dX6_tells_128 rfl rfl ?_
        rw [k6]
        refine fw_cV mX6_does [_, _, _] dX6_tells_129 mv_X6_does lk_6_156 ⟨⟨by decide, by decide⟩, rfl, rfl, rfl, by decide, by decide⟩ ly1_0 ⟨by decide, by decide⟩ rfl rfl (Nat.le_of_ble_eq_true rfl) (by have h9 := sp_X6_does k (N 0 2) T M O (N 1) _ L (by rw [eG]; exact hwf) k2 (by rw [eG]; exact htk) hTk b (O k % 20) od (by omega) hb4 (by omega) (by omega) hPk; rw [eG, e0] at h9; exact h9) (fun r M1 L1 hp hM1 => ?_)
        obtain ⟨rfl, rfl, g1, g2, g3⟩ := hp
        have gfr : ∀ z, z < 7 ∨ z = 9 ∨ 19 < z → M1 z = N z := fun z a => (g3 z (by omega)).trans (hk z a)
        have g0 := gfr 0 (by omega)
        have g9 := gfr 9 (by omega)
        have gg2 := gfr 2 (by omega)
        have g7 : M1 7 = M 7 := g3 7 (by omega)
        have gm8 : M1 8 = M 8 := g3 8 (by omega)
        have hst := hst.trans (if_pos ⟨k3, by rw [← k5]; exact hFL.mp (by omega)⟩)
        refine fw_iinc (ls2 := [_, _, _]) dX6_tells_132 rfl ⟨by omega, by omega⟩ (by decide) rfl ?_
        refine fw_aload_n dX6_tells_135 rfl rfl ?_
        refine fw_getr 12 8 rfl dX6_tells_136 ff_6_36 ly1_0 ⟨by decide, by decide⟩ rfl rfl (by decide) ?_
        refine fw_iload_n dX6_tells_139 rfl rfl ?_
        refine fw_dup2 dX6_tells_140 rfl rfl ?_
        refine fw_iaload dX6_tells_141 ly1_8 ⟨by decide, by decide⟩ ⟨by omega, by omega⟩ ?_
        refine fw_iconst dX6_tells_142 ⟨by decide, by decide⟩ ?_
        refine fw_iadd dX6_tells_143 (by rw [gm8, k6]; exact ⟨by omega, by omega⟩) ?_
        have h8n : ∀ p, 0 ≤ p → p < 4 → fw_upd M1 8 b (M1 8 b + 1) 8 p = min (N 9 p) (ab_cnt O (k + 1) p) := by
          intro p a c
          rw [fw_updeq, gm8]
          have hs8 := ab_cnt_skip hwf k (v := N 9) k1 (by omega) k4 p
          show _ = min (N 9 p) (ab_cnt O k p + (if O k / 20 = p then 1 else 0))
          have c1 := ab_cnt_at hwf k2
          by_cases hp : p = b
          · rw [if_pos hp, hp, if_pos k5.symm, k6]
            rw [← k5] at c1 k3
            omega
          · rw [if_neg hp, if_neg (fun q => hp (by rw [k5]; exact q.symm)), Int.add_zero, h8 p a c, hs8]
        refine fw_iastore dX6_tells_144 ly1_8 (by decide) ⟨by decide, by decide⟩ ⟨by omega, by omega⟩ ?_
        refine fw_aload_n dX6_tells_145 rfl rfl ?_
        refine fw_aload_n dX6_tells_146 rfl rfl ?_
        refine fw_getr 13 9 rfl dX6_tells_147 ff_6_39 ly1_0 ⟨by decide, by decide⟩ rfl rfl (by decide) ?_
        refine fw_cV mX6_first [_] dX6_tells_150 mv_X6_first lk_6_126 ⟨⟨by decide, by decide⟩, rfl, rfl, rfl, by decide, by decide⟩ ly1_0 ⟨by decide, by decide⟩ rfl rfl (Nat.le_of_ble_eq_true rfl) (sp_X6_first_9 _ _ (by rw [fw_updne (by decide), g0]; exact ⟨hmk1, hmk2⟩) (fun p a b => ⟨by rw [h8n p a b]; have := ab_cnt_0 O p (k + 1); have := (hv p a b).1; omega, by rw [fw_updne (by decide), g9]; have := (hv p a b).2; have := (hmk.2.2 p a b).2.1; omega⟩)) (fun r M1 L1 hp hM1 => ?_)
        obtain ⟨rfl, rfl, b2, rfl, hf2⟩ := hp
        refine fw_istore_n (ls2 := [_, _, _]) dX6_tells_153 rfl (by decide) rfl ?_
        refine fw_goto 99 dX6_tells_154 (by decide) ?_
        refine ih b2 (k + 1) (od + 1) _ (by omega) (by omega) (by omega) (by omega) (fun z a => by rw [fw_updne (by omega)]; exact gfr z a) (fun p a c => by rw [fw_updne (by decide), g7]; exact h7 p a c) h8n ?_ ?_ ?_
        · rw [hst]; intro t a c; rw [fw_updne (show ¬ (10 : Int) = 8 by decide), fw_updne (show ¬ (11 : Int) = 8 by decide), fw_updne (show ¬ (12 : Int) = 8 by decide), fw_updne (show ¬ (13 : Int) = 8 by decide), fw_updne (show ¬ (14 : Int) = 8 by decide), fw_updne (show ¬ (17 : Int) = 8 by decide), fw_updne (show ¬ (18 : Int) = 8 by decide)]; exact g1 t a c
        · rw [hst]; exact md_P_same g2 (by omega) (fw_updne (by decide)) (fun _ _ _ => rfl) (fun _ _ _ => rfl)
        · rw [fw_updne (show ¬ (9 : Int) = 8 by decide), g9, fw_updne (show ¬ (0 : Int) = 8 by decide), g0, md_G_of ((fw_updne (show ¬ (2 : Int) = 8 by decide)).trans gg2)] at hf2; exact hf2
