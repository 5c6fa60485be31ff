theorem ab_sm_4 {f : Int → Int} {n : Int} (h0 : 1 ≤ n ∧ n ≤ 4) (h : ∀ p, n ≤ p → p < 4 → f p = 0) : ab_sm f n.toNat = f 0 + f 1 + f 2 + f 3 := by
  rcases (show n = 1 ∨ n = 2 ∨ n = 3 ∨ n = 4 by omega) with rfl | rfl | rfl | rfl
  · have a1 := h 1 (by omega) (by omega)
    have a2 := h 2 (by omega) (by omega)
    have a3 := h 3 (by omega) (by omega)
    show 0 + f 0 = _
    omega
  · have a2 := h 2 (by omega) (by omega)
    have a3 := h 3 (by omega) (by omega)
    show 0 + f 0 + f 1 = _
    omega
  · have a3 := h 3 (by omega) (by omega)
    show 0 + f 0 + f 1 + f 2 = _
    omega
  · show 0 + f 0 + f 1 + f 2 + f 3 = _
    omega
theorem ab_FO_max {n : Int} {mk : Int → Int} {G : fw_F} {O : Int → Int} {T : Int} {ap : Int → Int} (h : ab_wf n mk G O T) (ha : ab_apok ap) {p k : Int} (h0 : 0 ≤ p) (h1 : p < 4) (hk : k ≤ mk p) : max 0 (k - ab_FO G O ap T.toNat p) = max 0 (k - ab_LF G O ap T.toNat p) := by
  have hf := ab_FO_LF h ha h0 h1 (i := ab_LF G O ap T.toNat p)
  have hl := ab_FO_LF h ha h0 h1 (i := ab_FO G O ap T.toNat p)
  rcases Int.lt_trichotomy (ab_LF G O ap T.toNat p) (ab_FO G O ap T.toNat p) with c | c | c
  · have : mk p ≤ ab_LF G O ap T.toNat p := by
      rcases Int.lt_or_le (ab_LF G O ap T.toNat p) (mk p) with q | q
      · have := (hf q).mp c; omega
      · exact q
    omega
  · rw [c]
  · have : mk p ≤ ab_FO G O ap T.toNat p := by
      rcases Int.lt_or_le (ab_FO G O ap T.toNat p) (mk p) with q | q
      · have := (hl q).mpr c; omega
      · exact q
    omega
def an_change (n km m i w v0 v1 v2 v3 v4 v5 : Int) : Int := if ¬ ((0 ≤ m ∧ m < n) ∧ (0 ≤ i ∧ i < km) ∧ (0 ≤ w ∧ w ≤ 5)) then -1 else if w = 0 then v0 else if w = 1 then v1 else if w = 2 then v2 else if w = 3 then v3 else if w = 4 then v4 else v5

set_option maxRecDepth 20000 in
set_option maxHeartbeats 4000000 in
theorem sp_X5_change (M N : fw_F) (L K : fw_G) (hR : Rel M L N K) (m i w : Int) : fw_SC mX5_change [fw_r 0, fw_i m, fw_i i, fw_i w] M L (fun r M2 L2 => r = some (fw_i (an_change (N 0 2) (N 1 m) m i w (md_G N (m * 20 + i) 0) (md_G N (m * 20 + i) 1) (md_G N (m * 20 + i) 4) (md_G N (m * 20 + i) 6 + md_G N (m * 20 + i) 7 + md_G N (m * 20 + i) 8 + md_G N (m * 20 + i) 9) (md_G N (m * 20 + i) 5) (if ab_LF (md_G N) (M 3) (N 6) (M 1 6).toNat m ≤ i then 1 else 0))) ∧ Rel M2 L2 N K) := by
  refine fw_SP_of pl_X5_change (ls := [_, _, _, _]) rfl (Nat.le_of_ble_eq_true rfl) fun hA hM => ?_
  obtain ⟨ha1, ha2, ha3, ha4, ha5, ha6⟩ := hR.1
  have hn1 := hR.2.1.1.1.1
  have hn2 := hR.2.1.1.1.2.1
  refine fw_aload_n dX5_change_0 rfl rfl ?_
  refine fw_iload_n dX5_change_1 rfl rfl ?_
  refine fw_pV mX5_isMachine [_] dX5_change_2 mv_X5_isMachine lk_5_62 ⟨⟨by decide, by decide⟩, rfl, rfl, rfl, by decide, by decide⟩ ly0_0 ⟨by decide, by decide⟩ rfl rfl (Nat.le_of_ble_eq_true rfl) (sp_X5_isMachine _ _ _) ?_
  refine fw_bifeq 25 dX5_change_5 (by decide) (fun h5 => ?_) (fun h5 => ?_)
  · skip
    refine fw_iconst dX5_change_25 ⟨by decide, by decide⟩ ?_
    exact fw_iret dX5_change_26 ⟨rfl, rfl, rfl⟩ (⟨(by congr 2; unfold an_change; (repeat' split) <;> omega), hR⟩)
  · skip
    refine fw_iload_n dX5_change_8 rfl rfl ?_
    refine fw_if_lt 25 dX5_change_9 (by decide) (fun h9 => ?_) (fun h9 => ?_)
    · skip
      refine fw_iconst dX5_change_25 ⟨by decide, by decide⟩ ?_
      exact fw_iret dX5_change_26 ⟨rfl, rfl, rfl⟩ (⟨(by congr 2; unfold an_change; (repeat' split) <;> omega), hR⟩)
    · skip
      refine fw_iload_n dX5_change_12 rfl rfl ?_
      refine fw_aload_n dX5_change_13 rfl rfl ?_
      refine fw_getr 0 1 rfl dX5_change_14 ff_5_12 ly0_0 ⟨by decide, by decide⟩ rfl rfl (by decide) ?_
      refine fw_getr 2 4 rfl dX5_change_17 ff_5_138 ly0_1 ⟨by decide, by decide⟩ rfl rfl (by decide) ?_
      refine fw_iload_n dX5_change_20 rfl rfl ?_
      refine fw_iaload dX5_change_21 ly0_4 ⟨by decide, by decide⟩ ⟨by omega, by omega⟩ ?_
      have hmk := hR.2.1.2.2.2 m (by omega) (by omega)
      have hm20 := (hR.2.1.1.1.2.2 m (by omega) (by omega)).2.1
      rw [hmk]
      refine fw_icmp_lt 27 dX5_change_22 (by decide) (fun h22 => ?_) (fun h22 => ?_)
      · skip
        have hlv : ab_lv (N 1) (m * 20 + i) := by
          refine ⟨by omega, by omega, ?_⟩
          rw [show (m * 20 + i) % 20 = i by omega, show (m * 20 + i) / 20 = m by omega]; omega
        have hx := hR.2.1.2.1 _ hlv
        obtain ⟨⟨x1, x2, x3, x4, x5, x6⟩, x7, x8, x9, x10⟩ := hx
        rw [show (m * 20 + i) / 20 = m by omega] at x1
        rw [show (m * 20 + i) % 20 = i by omega] at x2
        have y0 := x10 0 (by decide) (by decide)
        have y1 := x10 1 (by decide) (by decide)
        have y2 := x10 2 (by decide) (by decide)
        have y3 := x10 3 (by decide) (by decide)
        have hgr := (hR.2.1.1.2.2.1 _ hlv).2.1
        have hl7 := (hR.2.2.2.1.2 m (by omega) (by omega)).2
        refine fw_aload_n dX5_change_27 rfl rfl ?_
        refine fw_getr 0 1 rfl dX5_change_28 ff_5_12 ly0_0 ⟨by decide, by decide⟩ rfl rfl (by decide) ?_
        refine fw_iload_n dX5_change_31 rfl rfl ?_
        refine fw_iload_n dX5_change_32 rfl rfl ?_
        refine fw_pV mX1_changeOf [_, _] dX5_change_33 mv_X1_changeOf lk_5_141 ⟨⟨by decide, by decide⟩, rfl, rfl, rfl, by decide, by decide⟩ ly0_1 ⟨by decide, by decide⟩ rfl rfl (Nat.le_of_ble_eq_true rfl) (sp_X1_changeOf _ _ _ _ (by omega) (by omega)) ?_
        refine fw_astore (ls2 := [_, _, _, _, _]) dX5_change_36 (by decide) rfl ?_
        refine fw_iload_n dX5_change_38 rfl rfl ?_
        by_cases h39 : w < 0 ∨ 5 < w
        · refine fw_tblOut 124 dX5_change_39 h39 (by decide) ?_
          refine fw_iconst dX5_change_124 ⟨by decide, by decide⟩ ?_
          exact fw_iret dX5_change_125 ⟨rfl, rfl, rfl⟩ (⟨(by congr 2; unfold an_change; (repeat' split) <;> omega), hR⟩)
        · rcases (show w = 0 ∨ w = 1 ∨ w = 2 ∨ w = 3 ∨ w = 4 ∨ w = 5 by omega) with h39 | h39 | h39 | h39 | h39 | h39
          · refine fw_tblIn 76 dX5_change_39 (by omega) (by omega) (by rw [h39]; rfl) (by decide) ?_
            refine fw_aload dX5_change_76 rfl ?_
            refine fw_geti 3 rfl dX5_change_78 ff_5_145 (ly_ch (by omega) (by omega) (by omega)) ⟨by omega, by omega⟩ rfl ?_
            exact fw_iret dX5_change_81 ⟨rfl, rfl, rfl⟩ (⟨(by congr 2; unfold an_change; (repeat' split) <;> omega), hR⟩)
          · refine fw_tblIn 82 dX5_change_39 (by omega) (by omega) (by rw [h39]; rfl) (by decide) ?_
            refine fw_aload dX5_change_82 rfl ?_
            refine fw_geti 4 rfl dX5_change_84 ff_5_148 (ly_ch (by omega) (by omega) (by omega)) ⟨by omega, by omega⟩ rfl ?_
            exact fw_iret dX5_change_87 ⟨rfl, rfl, rfl⟩ (⟨(by congr 2; unfold an_change; (repeat' split) <;> omega), hR⟩)
          · refine fw_tblIn 88 dX5_change_39 (by omega) (by omega) (by rw [h39]; rfl) (by decide) ?_
            refine fw_aload dX5_change_88 rfl ?_
            refine fw_geti 5 rfl dX5_change_90 ff_5_151 (ly_ch (by omega) (by omega) (by omega)) ⟨by omega, by omega⟩ rfl ?_
            exact fw_iret dX5_change_93 ⟨rfl, rfl, rfl⟩ (⟨(by congr 2; unfold an_change; (repeat' split) <;> omega), hR⟩)
          · refine fw_tblIn 94 dX5_change_39 (by omega) (by omega) (by rw [h39]; rfl) (by decide) ?_
            refine fw_aload dX5_change_94 rfl ?_
            refine fw_pV mX0_groundSize [] dX5_change_96 mv_X0_groundSize lk_5_154 ⟨⟨by decide, by decide⟩, rfl, rfl, rfl, by decide, by decide⟩ (ly_ch (by omega) (by omega) (by omega)) ⟨by omega, by omega⟩ rfl rfl (Nat.le_of_ble_eq_true rfl) (sp_X0_groundSize _ _ _ (by omega) (fun p a b => by rw [x10 p a b]; have h9 := hgr p a b; have h8 := (hR.2.1.1.1.2.2 p a b).2.1; omega)) ?_
            exact fw_iret dX5_change_99 ⟨rfl, rfl, rfl⟩ (⟨by rw [y0, y1, y2, y3]; congr 2; unfold an_change; (repeat' split) <;> first | omega | rfl, hR⟩)
          · refine fw_tblIn 100 dX5_change_39 (by omega) (by omega) (by rw [h39]; rfl) (by decide) ?_
            refine fw_aload dX5_change_100 rfl ?_
            refine fw_geti 6 rfl dX5_change_102 ff_5_158 (ly_ch (by omega) (by omega) (by omega)) ⟨by omega, by omega⟩ rfl ?_
            exact fw_iret dX5_change_105 ⟨rfl, rfl, rfl⟩ (⟨(by congr 2; unfold an_change; (repeat' split) <;> omega), hR⟩)
          · refine fw_tblIn 106 dX5_change_39 (by omega) (by omega) (by rw [h39]; rfl) (by decide) ?_
            refine fw_aload_n dX5_change_106 rfl rfl ?_
            refine fw_getr 0 1 rfl dX5_change_107 ff_5_12 ly0_0 ⟨by decide, by decide⟩ rfl rfl (by decide) ?_
            refine fw_aload dX5_change_110 rfl ?_
            refine fw_pV mX1_isLeftOut [_] dX5_change_112 mv_X1_isLeftOut lk_5_161 ⟨⟨by decide, by decide⟩, rfl, rfl, rfl, by decide, by decide⟩ ly0_1 ⟨by decide, by decide⟩ rfl rfl (Nat.le_of_ble_eq_true rfl) (sp_X1_isLeftOut _ _ _ (by omega) (by rw [x1]; omega)) ?_
            rw [x1, x2, hl7]
            refine fw_bifeq 122 dX5_change_115 (by decide) (fun h115 => ?_) (fun h115 => ?_)
            · skip
              refine fw_iconst dX5_change_122 ⟨by decide, by decide⟩ ?_
              exact fw_iret dX5_change_123 ⟨rfl, rfl, rfl⟩ (⟨(by congr 2; unfold an_change; (repeat' split) <;> omega), hR⟩)
            · skip
              refine fw_iconst dX5_change_118 ⟨by decide, by decide⟩ ?_
              refine fw_goto 123 dX5_change_119 (by decide) ?_
              exact fw_iret dX5_change_123 ⟨rfl, rfl, rfl⟩ (⟨(by congr 2; unfold an_change; (repeat' split) <;> omega), hR⟩)
      · skip
        refine fw_iconst dX5_change_25 ⟨by decide, by decide⟩ ?_
        exact fw_iret dX5_change_26 ⟨rfl, rfl, rfl⟩ (⟨(by congr 2; unfold an_change; (repeat' split) <;> omega), hR⟩)

set_option maxRecDepth 20000 in
set_option maxHeartbeats 4000000 in
theorem pm_X6_change (M N : fw_F) (L K : fw_G) (hR : Rel M L N K) (m i w : Int) : fw_D mX6_change 5 [some (fw_r 0), some (fw_i m), some (fw_i i), some (fw_i w)] [] N K (fun r N2 K2 => r = some (fw_i (an_change (N 0 2) (N 1 m) m i w (md_G N (m * 20 + i) 0) (md_G N (m * 20 + i) 1) (md_G N (m * 20 + i) 4) (md_G N (m * 20 + i) 6 + md_G N (m * 20 + i) 7 + md_G N (m * 20 + i) 8 + md_G N (m * 20 + i) 9) (md_G N (m * 20 + i) 5) (if ab_LF (md_G N) (M 3) (N 6) (M 1 6).toNat m ≤ i then 1 else 0))) ∧ rl_mq N K N2 K2) := by
  obtain ⟨ha1, ha2, ha3, ha4, ha5, ha6⟩ := hR.1
  have hn1 := hR.2.1.1.1.1
  have hn2 := hR.2.1.1.1.2.1
  refine fw_aload_n dX6_change_5 rfl rfl ?_
  refine fw_iload_n dX6_change_6 rfl rfl ?_
  refine fw_pV mX6_isMachine [_] dX6_change_7 mv_X6_isMachine lk_6_179 ⟨⟨by decide, by decide⟩, rfl, rfl, rfl, by decide, by decide⟩ ly1_0 ⟨by decide, by decide⟩ rfl rfl (Nat.le_of_ble_eq_true rfl) (sp_X6_isMachine _ _ _ (by omega)) ?_
  refine fw_bifeq 38 dX6_change_10 (by decide) (fun h10 => ?_) (fun h10 => ?_)
  · skip
    refine fw_iconst dX6_change_38 ⟨by decide, by decide⟩ ?_
    exact fw_iret dX6_change_39 ⟨rfl, rfl, rfl⟩ (⟨(by congr 2; unfold an_change; (repeat' split) <;> omega), rl_mq_rf N K⟩)
  · skip
    have hmk0 := hR.2.1.1.1.2.2 m (by omega) (by omega)
    refine fw_iload_n dX6_change_13 rfl rfl ?_
    refine fw_iconst dX6_change_14 ⟨by decide, by decide⟩ ?_
    refine fw_aload_n dX6_change_15 rfl rfl ?_
    refine fw_getr 5 1 rfl dX6_change_16 ff_6_13 ly1_0 ⟨by decide, by decide⟩ rfl rfl (by decide) ?_
    refine fw_iload_n dX6_change_19 rfl rfl ?_
    refine fw_iaload dX6_change_20 ly1_1 ⟨by decide, by decide⟩ ⟨by omega, by omega⟩ ?_
    refine fw_iconst dX6_change_21 ⟨by decide, by decide⟩ ?_
    refine fw_isub dX6_change_22 ⟨by omega, by omega⟩ ?_
    refine fw_pS mX6_in [_, _, _] dX6_change_23 mv_X6_in lk_6_115 ⟨⟨by decide, by decide⟩, rfl, rfl, rfl, by decide, by decide⟩ rfl rfl (Nat.le_of_ble_eq_true rfl) (sp_X6_in _ _ _ _ _) ?_
    refine fw_bifeq 38 dX6_change_26 (by decide) (fun h26 => ?_) (fun h26 => ?_)
    · skip
      refine fw_iconst dX6_change_38 ⟨by decide, by decide⟩ ?_
      exact fw_iret dX6_change_39 ⟨rfl, rfl, rfl⟩ (⟨(by congr 2; unfold an_change; (repeat' split) <;> omega), rl_mq_rf N K⟩)
    · skip
      refine fw_iload_n dX6_change_29 rfl rfl ?_
      refine fw_iconst dX6_change_30 ⟨by decide, by decide⟩ ?_
      refine fw_iconst dX6_change_31 ⟨by decide, by decide⟩ ?_
      refine fw_pS mX6_in [_, _, _] dX6_change_32 mv_X6_in lk_6_115 ⟨⟨by decide, by decide⟩, rfl, rfl, rfl, by decide, by decide⟩ rfl rfl (Nat.le_of_ble_eq_true rfl) (sp_X6_in _ _ _ _ _) ?_
      refine fw_bifne 40 dX6_change_35 (by decide) (fun h35 => ?_) (fun h35 => ?_)
      · skip
        refine fw_iload_n dX6_change_40 rfl rfl ?_
        refine fw_iload_n dX6_change_41 rfl rfl ?_
        refine fw_pS mX6_changeAt [_, _] dX6_change_42 mv_X6_changeAt lk_6_119 ⟨⟨by decide, by decide⟩, rfl, rfl, rfl, by decide, by decide⟩ rfl rfl (Nat.le_of_ble_eq_true rfl) (sp_X6_changeAt _ _ _ _ (by omega) (by omega)) ?_
        rw [show 20 * m + i = (m * 20 + i) by omega]
        have f0 : N 2 (12 * (m * 20 + i)) = md_G N (m * 20 + i) 0 := md_G0 N _
        have f1 : N 2 (12 * (m * 20 + i) + 1) = md_G N (m * 20 + i) 1 := rfl
        have f4 : N 2 (12 * (m * 20 + i) + 4) = md_G N (m * 20 + i) 4 := rfl
        have f5 : N 2 (12 * (m * 20 + i) + 5) = md_G N (m * 20 + i) 5 := rfl
        have hlv : ab_lv (N 1) (m * 20 + i) := by
          refine ⟨by omega, by omega, ?_⟩
          rw [show (m * 20 + i) % 20 = i by omega, show (m * 20 + i) / 20 = m by omega]; omega
        have hgr := (hR.2.1.1.2.2.1 _ hlv).2.1
        have k0 := hgr 0 (by decide) (by decide)
        have k1 := hgr 1 (by decide) (by decide)
        have k2 := hgr 2 (by decide) (by decide)
        have k3 := hgr 3 (by decide) (by decide)
        have k0b := (hR.2.1.1.1.2.2 0 (by decide) (by decide)).2.1
        have k1b := (hR.2.1.1.1.2.2 1 (by decide) (by decide)).2.1
        have k2b := (hR.2.1.1.1.2.2 2 (by decide) (by decide)).2.1
        have k3b := (hR.2.1.1.1.2.2 3 (by decide) (by decide)).2.1
        have z0 : N 2 (12 * (m * 20 + i) + 6) = md_G N (m * 20 + i) (6 + 0) := rfl
        have z1 : N 2 (12 * (m * 20 + i) + 7) = md_G N (m * 20 + i) (6 + 1) := rfl
        have z2 : N 2 (12 * (m * 20 + i) + 8) = md_G N (m * 20 + i) (6 + 2) := rfl
        have z3 : N 2 (12 * (m * 20 + i) + 9) = md_G N (m * 20 + i) (6 + 3) := rfl
        have hfo := ab_FO_LF hR.2.1.1 hR.2.2.2.1.1 (show 0 ≤ m by omega) (show m < 4 by omega) (i := i) (by omega)
        refine fw_istore (ls2 := [_, _, _, _, _]) dX6_change_45 (by decide) rfl ?_
        refine fw_iload_n dX6_change_47 rfl rfl ?_
        refine fw_iconst dX6_change_48 ⟨by decide, by decide⟩ ?_
        refine fw_icmp_ne 96 dX6_change_49 (by decide) (fun h49 => ?_) (fun h49 => ?_)
        · skip
          refine fw_iload_n dX6_change_96 rfl rfl ?_
          refine fw_iconst dX6_change_97 ⟨by decide, by decide⟩ ?_
          refine fw_icmp_ne 121 dX6_change_98 (by decide) (fun h98 => ?_) (fun h98 => ?_)
          · skip
            refine fw_iload_n dX6_change_121 rfl rfl ?_
            refine fw_iconst dX6_change_122 ⟨by decide, by decide⟩ ?_
            refine fw_icmp_ge 138 dX6_change_123 (by decide) (fun h123 => ?_) (fun h123 => ?_)
            · skip
              refine fw_iload_n dX6_change_138 rfl rfl ?_
              refine fw_iconst dX6_change_139 ⟨by decide, by decide⟩ ?_
              refine fw_icmp_ne 155 dX6_change_140 (by decide) (fun h140 => ?_) (fun h140 => ?_)
              · skip
                refine fw_aload_n dX6_change_155 rfl rfl ?_
                refine fw_getr 6 2 rfl dX6_change_156 ff_6_17 ly1_0 ⟨by decide, by decide⟩ rfl rfl (by decide) ?_
                refine fw_iload dX6_change_159 rfl ?_
                refine fw_iconst dX6_change_161 ⟨by decide, by decide⟩ ?_
                refine fw_iadd dX6_change_162 ⟨by omega, by omega⟩ ?_
                refine fw_iaload dX6_change_163 ly1_2 ⟨by decide, by decide⟩ ⟨by omega, by omega⟩ ?_
                exact fw_iret dX6_change_164 ⟨rfl, rfl, rfl⟩ (⟨(by congr 2; unfold an_change; (repeat' split) <;> omega), rl_mq_rf N K⟩)
              · skip
                refine fw_aload_n dX6_change_143 rfl rfl ?_
                refine fw_getr 6 2 rfl dX6_change_144 ff_6_17 ly1_0 ⟨by decide, by decide⟩ rfl rfl (by decide) ?_
                refine fw_iload dX6_change_147 rfl ?_
                refine fw_iconst dX6_change_149 ⟨by decide, by decide⟩ ?_
                refine fw_iadd dX6_change_150 ⟨by omega, by omega⟩ ?_
                refine fw_iaload dX6_change_151 ly1_2 ⟨by decide, by decide⟩ ⟨by omega, by omega⟩ ?_
                refine fw_goto 164 dX6_change_152 (by decide) ?_
                exact fw_iret dX6_change_164 ⟨rfl, rfl, rfl⟩ (⟨(by congr 2; unfold an_change; (repeat' split) <;> omega), rl_mq_rf N K⟩)
            · skip
              refine fw_aload_n dX6_change_126 rfl rfl ?_
              refine fw_getr 6 2 rfl dX6_change_127 ff_6_17 ly1_0 ⟨by decide, by decide⟩ rfl rfl (by decide) ?_
              refine fw_iload dX6_change_130 rfl ?_
              refine fw_iload_n dX6_change_132 rfl rfl ?_
              refine fw_iadd dX6_change_133 ⟨by omega, by omega⟩ ?_
              refine fw_iaload dX6_change_134 ly1_2 ⟨by decide, by decide⟩ ⟨by omega, by omega⟩ ?_
              refine fw_goto 164 dX6_change_135 (by decide) ?_
              refine fw_iret dX6_change_164 ⟨rfl, rfl, rfl⟩ ?_
              rcases (show w = 0 ∨ w = 1 by omega) with rfl | rfl
              · exact ⟨by rw [Int.add_zero]; congr 2; unfold an_change; (repeat' split) <;> omega, rl_mq_rf N K⟩
              · exact ⟨(by congr 2; unfold an_change; (repeat' split) <;> omega), rl_mq_rf N K⟩
          · skip
            refine fw_aload_n dX6_change_101 rfl rfl ?_
            refine fw_cV mX6_leaves [] dX6_change_102 mv_X6_leaves lk_6_153 ⟨⟨by decide, by decide⟩, rfl, rfl, rfl, by decide, by decide⟩ ly1_0 ⟨by decide, by decide⟩ rfl rfl (Nat.le_of_ble_eq_true rfl) (sp_X6_leaves (M 1 6) N (M 3) K hR.2.1.1 hR.2.2.2.1.1) (fun r M1 L1 hp hM1 => ?_)
            obtain ⟨rfl, rfl, g1, g2⟩ := hp
            refine fw_iload_n dX6_change_105 rfl rfl ?_
            refine fw_aload_n dX6_change_106 rfl rfl ?_
            refine fw_getr 11 7 rfl dX6_change_107 ff_6_33 ly1_0 ⟨by decide, by decide⟩ rfl rfl (by decide) ?_
            refine fw_iload_n dX6_change_110 rfl rfl ?_
            refine fw_iaload dX6_change_111 ly1_7 ⟨by decide, by decide⟩ ⟨by omega, by omega⟩ ?_
            rw [g2 m (by omega) (by omega)]
            refine fw_icmp_lt 119 dX6_change_112 (by decide) (fun h112 => ?_) (fun h112 => ?_)
            · skip
              refine fw_iconst dX6_change_119 ⟨by decide, by decide⟩ ?_
              exact fw_iret dX6_change_120 ⟨rfl, rfl, rfl⟩ (⟨(by congr 2; unfold an_change; (repeat' split) <;> omega), rl_mq_of (fun k a => g1 k (by omega) (by omega))⟩)
            · skip
              refine fw_iconst dX6_change_115 ⟨by decide, by decide⟩ ?_
              refine fw_goto 120 dX6_change_116 (by decide) ?_
              exact fw_iret dX6_change_120 ⟨rfl, rfl, rfl⟩ (⟨(by congr 2; unfold an_change; (repeat' split) <;> omega), rl_mq_of (fun k a => g1 k (by omega) (by omega))⟩)
        · skip
          refine fw_aload_n dX6_change_52 rfl rfl ?_
          refine fw_getr 6 2 rfl dX6_change_53 ff_6_17 ly1_0 ⟨by decide, by decide⟩ rfl rfl (by decide) ?_
          refine fw_iload dX6_change_56 rfl ?_
          refine fw_bipush dX6_change_58 ⟨by decide, by decide⟩ (by decide) ?_
          refine fw_iadd dX6_change_60 ⟨by omega, by omega⟩ ?_
          refine fw_iaload dX6_change_61 ly1_2 ⟨by decide, by decide⟩ ⟨by omega, by omega⟩ ?_
          refine fw_aload_n dX6_change_62 rfl rfl ?_
          refine fw_getr 6 2 rfl dX6_change_63 ff_6_17 ly1_0 ⟨by decide, by decide⟩ rfl rfl (by decide) ?_
          refine fw_iload dX6_change_66 rfl ?_
          refine fw_bipush dX6_change_68 ⟨by decide, by decide⟩ (by decide) ?_
          refine fw_iadd dX6_change_70 ⟨by omega, by omega⟩ ?_
          refine fw_iaload dX6_change_71 ly1_2 ⟨by decide, by decide⟩ ⟨by omega, by omega⟩ ?_
          refine fw_iadd dX6_change_72 (by rw [z0, z1]; exact ⟨by omega, by omega⟩) ?_
          refine fw_aload_n dX6_change_73 rfl rfl ?_
          refine fw_getr 6 2 rfl dX6_change_74 ff_6_17 ly1_0 ⟨by decide, by decide⟩ rfl rfl (by decide) ?_
          refine fw_iload dX6_change_77 rfl ?_
          refine fw_bipush dX6_change_79 ⟨by decide, by decide⟩ (by decide) ?_
          refine fw_iadd dX6_change_81 ⟨by omega, by omega⟩ ?_
          refine fw_iaload dX6_change_82 ly1_2 ⟨by decide, by decide⟩ ⟨by omega, by omega⟩ ?_
          refine fw_iadd dX6_change_83 (by rw [z0, z1, z2]; exact ⟨by omega, by omega⟩) ?_
          refine fw_aload_n dX6_change_84 rfl rfl ?_
          refine fw_getr 6 2 rfl dX6_change_85 ff_6_17 ly1_0 ⟨by decide, by decide⟩ rfl rfl (by decide) ?_
          refine fw_iload dX6_change_88 rfl ?_
          refine fw_bipush dX6_change_90 ⟨by decide, by decide⟩ (by decide) ?_
          refine fw_iadd dX6_change_92 ⟨by omega, by omega⟩ ?_
          refine fw_iaload dX6_change_93 ly1_2 ⟨by decide, by decide⟩ ⟨by omega, by omega⟩ ?_
          refine fw_iadd dX6_change_94 (by rw [z0, z1, z2, z3]; exact ⟨by omega, by omega⟩) ?_
          exact fw_iret dX6_change_95 ⟨rfl, rfl, rfl⟩ (⟨by rw [z0, z1, z2, z3]; congr 2; unfold an_change; (repeat' split) <;> first | omega | rfl, rl_mq_rf N K⟩)
      · skip
        refine fw_iconst dX6_change_38 ⟨by decide, by decide⟩ ?_
        exact fw_iret dX6_change_39 ⟨rfl, rfl, rfl⟩ (⟨(by congr 2; unfold an_change; (repeat' split) <;> omega), rl_mq_rf N K⟩)

set_option maxRecDepth 20000 in
set_option maxHeartbeats 4000000 in
theorem sp_X6_change (M N : fw_F) (L K : fw_G) (hR : Rel M L (fw_upd N 0 0 0) K) (m i w : Int) : fw_SD mX6_change [fw_r 0, fw_i m, fw_i i, fw_i w] N K (fun r N2 K2 => r = some (fw_i (an_change ((fw_upd N 0 0 0) 0 2) ((fw_upd N 0 0 0) 1 m) m i w (md_G (fw_upd N 0 0 0) (m * 20 + i) 0) (md_G (fw_upd N 0 0 0) (m * 20 + i) 1) (md_G (fw_upd N 0 0 0) (m * 20 + i) 4) (md_G (fw_upd N 0 0 0) (m * 20 + i) 6 + md_G (fw_upd N 0 0 0) (m * 20 + i) 7 + md_G (fw_upd N 0 0 0) (m * 20 + i) 8 + md_G (fw_upd N 0 0 0) (m * 20 + i) 9) (md_G (fw_upd N 0 0 0) (m * 20 + i) 5) (if ab_LF (md_G (fw_upd N 0 0 0)) (M 3) ((fw_upd N 0 0 0) 6) (M 1 6).toNat m ≤ i then 1 else 0))) ∧ rl_mq (fw_upd N 0 0 0) K N2 K2) := by
  refine fw_SP_of pl_X6_change (ls := [_, _, _, _]) rfl (Nat.le_of_ble_eq_true rfl) fun hA hM => ?_
  refine fw_aload_n dX6_change_0 rfl rfl ?_
  refine fw_iconst dX6_change_1 ⟨by decide, by decide⟩ ?_
  refine fw_puti 0 rfl dX6_change_2 fp_6_106 ly1_0 (by decide) ⟨by decide, by decide⟩ rfl ?_
  exact pm_X6_change M (fw_upd N 0 0 0) L K hR m i w

def an_abs (x : Int) : Int := if 0 ≤ x then x else -x
def an_differ (n a b v : Int) : Int := if ¬ ((0 ≤ a ∧ a < n) ∧ (0 ≤ b ∧ b < n)) then -1 else v
theorem an_differ_ok {n a b v : Int} (h : (0 ≤ a ∧ a < n) ∧ (0 ≤ b ∧ b < n)) : an_differ n a b v = v := if_neg (fun z => z h)

set_option maxRecDepth 20000 in
set_option maxHeartbeats 4000000 in
theorem sp_X5_differ (M N : fw_F) (L K : fw_G) (hR : Rel M L N K) (a b : Int) : fw_SC mX5_differ [fw_r 0, fw_i a, fw_i b] M L (fun r M2 L2 => r = some (fw_i (an_differ (N 0 2) a b (an_abs (N 4 (4 * a + 0) - N 4 (4 * b + 0)) + an_abs (N 4 (4 * a + 1) - N 4 (4 * b + 1)) + an_abs (N 4 (4 * a + 2) - N 4 (4 * b + 2)) + an_abs (N 4 (4 * a + 3) - N 4 (4 * b + 3))))) ∧ Rel M2 L2 N K) := by
  refine fw_SP_of pl_X5_differ (ls := [_, _, _]) rfl (Nat.le_of_ble_eq_true rfl) fun hA hM => ?_
  obtain ⟨ha1, ha2, ha3, ha4, ha5, ha6⟩ := hR.1
  have hn1 := hR.2.1.1.1.1
  have hn2 := hR.2.1.1.1.2.1
  refine fw_aload_n dX5_differ_0 rfl rfl ?_
  refine fw_iload_n dX5_differ_1 rfl rfl ?_
  refine fw_pV mX5_isMachine [_] dX5_differ_2 mv_X5_isMachine lk_5_62 ⟨⟨by decide, by decide⟩, rfl, rfl, rfl, by decide, by decide⟩ ly0_0 ⟨by decide, by decide⟩ rfl rfl (Nat.le_of_ble_eq_true rfl) (sp_X5_isMachine _ _ _) ?_
  refine fw_bifeq 16 dX5_differ_5 (by decide) (fun h5 => ?_) (fun h5 => ?_)
  · skip
    refine fw_iconst dX5_differ_16 ⟨by decide, by decide⟩ ?_
    exact fw_iret dX5_differ_17 ⟨rfl, rfl, rfl⟩ (⟨(by congr 2; unfold an_differ; (repeat' split) <;> omega), hR⟩)
  · skip
    refine fw_aload_n dX5_differ_8 rfl rfl ?_
    refine fw_iload_n dX5_differ_9 rfl rfl ?_
    refine fw_pV mX5_isMachine [_] dX5_differ_10 mv_X5_isMachine lk_5_62 ⟨⟨by decide, by decide⟩, rfl, rfl, rfl, by decide, by decide⟩ ly0_0 ⟨by decide, by decide⟩ rfl rfl (Nat.le_of_ble_eq_true rfl) (sp_X5_isMachine _ _ _) ?_
    refine fw_bifne 18 dX5_differ_13 (by decide) (fun h13 => ?_) (fun h13 => ?_)
    · skip
      have qa0 := hR.2.2.1.1 (N 0 4) a 0 (by omega) (by omega) (by omega) (by omega) (by decide) (by decide)
      have qa1 := hR.2.2.1.1 (N 0 4) a 1 (by omega) (by omega) (by omega) (by omega) (by decide) (by decide)
      have qa2 := hR.2.2.1.1 (N 0 4) a 2 (by omega) (by omega) (by omega) (by omega) (by decide) (by decide)
      have qa3 := hR.2.2.1.1 (N 0 4) a 3 (by omega) (by omega) (by omega) (by omega) (by decide) (by decide)
      simp only [rl_kn_now] at qa0 qa1 qa2 qa3
      rw [← ha4] at qa0 qa1 qa2 qa3
      have qb0 := hR.2.2.1.1 (N 0 4) b 0 (by omega) (by omega) (by omega) (by omega) (by decide) (by decide)
      have qb1 := hR.2.2.1.1 (N 0 4) b 1 (by omega) (by omega) (by omega) (by omega) (by decide) (by decide)
      have qb2 := hR.2.2.1.1 (N 0 4) b 2 (by omega) (by omega) (by omega) (by omega) (by decide) (by decide)
      have qb3 := hR.2.2.1.1 (N 0 4) b 3 (by omega) (by omega) (by omega) (by omega) (by decide) (by decide)
      simp only [rl_kn_now] at qb0 qb1 qb2 qb3
      rw [← ha4] at qb0 qb1 qb2 qb3
      have mk0 := hR.2.1.1.1.2.2 0 (by decide) (by decide)
      have mk1 := hR.2.1.1.1.2.2 1 (by decide) (by decide)
      have mk2 := hR.2.1.1.1.2.2 2 (by decide) (by decide)
      have mk3 := hR.2.1.1.1.2.2 3 (by decide) (by decide)
      refine fw_iconst dX5_differ_18 ⟨by decide, by decide⟩ ?_
      refine fw_istore_n (ls2 := [_, _, _, _]) dX5_differ_19 rfl (by decide) rfl ?_
      refine fw_iconst dX5_differ_20 ⟨by decide, by decide⟩ ?_
      refine fw_istore (ls2 := [_, _, _, _, _]) dX5_differ_21 (by decide) rfl ?_
      refine fw_iload dX5_differ_23 rfl ?_
      refine fw_iconst dX5_differ_25 ⟨by decide, by decide⟩ ?_
      refine fw_icmp_ge 76 dX5_differ_26 (by decide) (fun h26 => ?_) (fun h26 => ?_)
      · skip
        exfalso; omega
      · skip
        refine fw_iload_n dX5_differ_29 rfl rfl ?_
        refine fw_aload_n dX5_differ_30 rfl rfl ?_
        refine fw_getr 0 1 rfl dX5_differ_31 ff_5_12 ly0_0 ⟨by decide, by decide⟩ rfl rfl (by decide) ?_
        refine fw_aload_n dX5_differ_34 rfl rfl ?_
        refine fw_getr 0 1 rfl dX5_differ_35 ff_5_12 ly0_0 ⟨by decide, by decide⟩ rfl rfl (by decide) ?_
        refine fw_geti 7 rfl dX5_differ_38 ff_5_214 ly0_1 ⟨by decide, by decide⟩ rfl ?_
        refine fw_iload_n dX5_differ_41 rfl rfl ?_
        refine fw_iload dX5_differ_42 rfl ?_
        refine fw_pV mX1_knownOf [_, _, _] dX5_differ_44 mv_X1_knownOf lk_5_217 ⟨⟨by decide, by decide⟩, rfl, rfl, rfl, by decide, by decide⟩ ly0_1 ⟨by decide, by decide⟩ rfl rfl (Nat.le_of_ble_eq_true rfl) (sp_X1_knownOf _ _ _ _ _ (by omega) (by omega) (by omega)) ?_
        refine fw_aload_n dX5_differ_47 rfl rfl ?_
        refine fw_getr 0 1 rfl dX5_differ_48 ff_5_12 ly0_0 ⟨by decide, by decide⟩ rfl rfl (by decide) ?_
        refine fw_aload_n dX5_differ_51 rfl rfl ?_
        refine fw_getr 0 1 rfl dX5_differ_52 ff_5_12 ly0_0 ⟨by decide, by decide⟩ rfl rfl (by decide) ?_
        refine fw_geti 7 rfl dX5_differ_55 ff_5_214 ly0_1 ⟨by decide, by decide⟩ rfl ?_
        refine fw_iload_n dX5_differ_58 rfl rfl ?_
        refine fw_iload dX5_differ_59 rfl ?_
        refine fw_pV mX1_knownOf [_, _, _] dX5_differ_61 mv_X1_knownOf lk_5_217 ⟨⟨by decide, by decide⟩, rfl, rfl, rfl, by decide, by decide⟩ ly0_1 ⟨by decide, by decide⟩ rfl rfl (Nat.le_of_ble_eq_true rfl) (sp_X1_knownOf _ _ _ _ _ (by omega) (by omega) (by omega)) ?_
        refine fw_isub dX5_differ_64 ⟨by omega, by omega⟩ ?_
        refine fw_abs dX5_differ_65 lk_5_220 lw_abs ⟨by decide, Nat.le_of_ble_eq_true rfl, by decide, by decide⟩ (by omega) ?_
        refine fw_iadd dX5_differ_68 ⟨by (repeat' split) <;> omega, by (repeat' split) <;> omega⟩ ?_
        refine fw_istore_n (ls2 := [_, _, _, _, _]) dX5_differ_69 rfl (by decide) rfl ?_
        refine fw_iincv (ls2 := [_, _, _, _, _]) (1) dX5_differ_70 rfl (by decide) ⟨by decide, by decide⟩ (by decide) rfl ?_
        refine fw_goto 23 dX5_differ_73 (by decide) ?_
        refine fw_iload dX5_differ_23 rfl ?_
        refine fw_iconst dX5_differ_25 ⟨by decide, by decide⟩ ?_
        refine fw_icmp_ge 76 dX5_differ_26 (by decide) (fun h26 => ?_) (fun h26 => ?_)
        · skip
          exfalso; omega
        · skip
          refine fw_iload_n dX5_differ_29 rfl rfl ?_
          refine fw_aload_n dX5_differ_30 rfl rfl ?_
          refine fw_getr 0 1 rfl dX5_differ_31 ff_5_12 ly0_0 ⟨by decide, by decide⟩ rfl rfl (by decide) ?_
          refine fw_aload_n dX5_differ_34 rfl rfl ?_
          refine fw_getr 0 1 rfl dX5_differ_35 ff_5_12 ly0_0 ⟨by decide, by decide⟩ rfl rfl (by decide) ?_
          refine fw_geti 7 rfl dX5_differ_38 ff_5_214 ly0_1 ⟨by decide, by decide⟩ rfl ?_
          refine fw_iload_n dX5_differ_41 rfl rfl ?_
          refine fw_iload dX5_differ_42 rfl ?_
          refine fw_pV mX1_knownOf [_, _, _] dX5_differ_44 mv_X1_knownOf lk_5_217 ⟨⟨by decide, by decide⟩, rfl, rfl, rfl, by decide, by decide⟩ ly0_1 ⟨by decide, by decide⟩ rfl rfl (Nat.le_of_ble_eq_true rfl) (sp_X1_knownOf _ _ _ _ _ (by omega) (by omega) (by omega)) ?_
          refine fw_aload_n dX5_differ_47 rfl rfl ?_
          refine fw_getr 0 1 rfl dX5_differ_48 ff_5_12 ly0_0 ⟨by decide, by decide⟩ rfl rfl (by decide) ?_
          refine fw_aload_n dX5_differ_51 rfl rfl ?_
          refine fw_getr 0 1 rfl dX5_differ_52 ff_5_12 ly0_0 ⟨by decide, by decide⟩ rfl rfl (by decide) ?_
          refine fw_geti 7 rfl dX5_differ_55 ff_5_214 ly0_1 ⟨by decide, by decide⟩ rfl ?_
          refine fw_iload_n dX5_differ_58 rfl rfl ?_
          refine fw_iload dX5_differ_59 rfl ?_
          refine fw_pV mX1_knownOf [_, _, _] dX5_differ_61 mv_X1_knownOf lk_5_217 ⟨⟨by decide, by decide⟩, rfl, rfl, rfl, by decide, by decide⟩ ly0_1 ⟨by decide, by decide⟩ rfl rfl (Nat.le_of_ble_eq_true rfl) (sp_X1_knownOf _ _ _ _ _ (by omega) (by omega) (by omega)) ?_
          refine fw_isub dX5_differ_64 ⟨by omega, by omega⟩ ?_
          refine fw_abs dX5_differ_65 lk_5_220 lw_abs ⟨by decide, Nat.le_of_ble_eq_true rfl, by decide, by decide⟩ (by omega) ?_
          refine fw_iadd dX5_differ_68 ⟨by (repeat' split) <;> omega, by (repeat' split) <;> omega⟩ ?_
          refine fw_istore_n (ls2 := [_, _, _, _, _]) dX5_differ_69 rfl (by decide) rfl ?_
          refine fw_iincv (ls2 := [_, _, _, _, _]) (2) dX5_differ_70 rfl (by decide) ⟨by decide, by decide⟩ (by decide) rfl ?_
          refine fw_goto 23 dX5_differ_73 (by decide) ?_
          refine fw_iload dX5_differ_23 rfl ?_
          refine fw_iconst dX5_differ_25 ⟨by decide, by decide⟩ ?_
          refine fw_icmp_ge 76 dX5_differ_26 (by decide) (fun h26 => ?_) (fun h26 => ?_)
          · skip
            exfalso; omega
          · skip
            refine fw_iload_n dX5_differ_29 rfl rfl ?_
            refine fw_aload_n dX5_differ_30 rfl rfl ?_
            refine fw_getr 0 1 rfl dX5_differ_31 ff_5_12 ly0_0 ⟨by decide, by decide⟩ rfl rfl (by decide) ?_
            refine fw_aload_n dX5_differ_34 rfl rfl ?_
            refine fw_getr 0 1 rfl dX5_differ_35 ff_5_12 ly0_0 ⟨by decide, by decide⟩ rfl rfl (by decide) ?_
            refine fw_geti 7 rfl dX5_differ_38 ff_5_214 ly0_1 ⟨by decide, by decide⟩ rfl ?_
            refine fw_iload_n dX5_differ_41 rfl rfl ?_
            refine fw_iload dX5_differ_42 rfl ?_
            refine fw_pV mX1_knownOf [_, _, _] dX5_differ_44 mv_X1_knownOf lk_5_217 ⟨⟨by decide, by decide⟩, rfl, rfl, rfl, by decide, by decide⟩ ly0_1 ⟨by decide, by decide⟩ rfl rfl (Nat.le_of_ble_eq_true rfl) (sp_X1_knownOf _ _ _ _ _ (by omega) (by omega) (by omega)) ?_
            refine fw_aload_n dX5_differ_47 rfl rfl ?_
            refine fw_getr 0 1 rfl dX5_differ_48 ff_5_12 ly0_0 ⟨by decide, by decide⟩ rfl rfl (by decide) ?_
            refine fw_aload_n dX5_differ_51 rfl rfl ?_
            refine fw_getr 0 1 rfl dX5_differ_52 ff_5_12 ly0_0 ⟨by decide, by decide⟩ rfl rfl (by decide) ?_
            refine fw_geti 7 rfl dX5_differ_55 ff_5_214 ly0_1 ⟨by decide, by decide⟩ rfl ?_
            refine fw_iload_n dX5_differ_58 rfl rfl ?_
            refine fw_iload dX5_differ_59 rfl ?_
            refine fw_pV mX1_knownOf [_, _, _] dX5_differ_61 mv_X1_knownOf lk_5_217 ⟨⟨by decide, by decide⟩, rfl, rfl, rfl, by decide, by decide⟩ ly0_1 ⟨by decide, by decide⟩ rfl rfl (Nat.le_of_ble_eq_true rfl) (sp_X1_knownOf _ _ _ _ _ (by omega) (by omega) (by omega)) ?_
            refine fw_isub dX5_differ_64 ⟨by omega, by omega⟩ ?_
            refine fw_abs dX5_differ_65 lk_5_220 lw_abs ⟨by decide, Nat.le_of_ble_eq_true rfl, by decide, by decide⟩ (by omega) ?_
            refine fw_iadd dX5_differ_68 ⟨by (repeat' split) <;> omega, by (repeat' split) <;> omega⟩ ?_
            refine fw_istore_n (ls2 := [_, _, _, _, _]) dX5_differ_69 rfl (by decide) rfl ?_
            refine fw_iincv (ls2 := [_, _, _, _, _]) (3) dX5_differ_70 rfl (by decide) ⟨by decide, by decide⟩ (by decide) rfl ?_
            refine fw_goto 23 dX5_differ_73 (by decide) ?_
            refine fw_iload dX5_differ_23 rfl ?_
            refine fw_iconst dX5_differ_25 ⟨by decide, by decide⟩ ?_
            refine fw_icmp_ge 76 dX5_differ_26 (by decide) (fun h26 => ?_) (fun h26 => ?_)
            · skip
              exfalso; omega
            · skip
              refine fw_iload_n dX5_differ_29 rfl rfl ?_
              refine fw_aload_n dX5_differ_30 rfl rfl ?_
              refine fw_getr 0 1 rfl dX5_differ_31 ff_5_12 ly0_0 ⟨by decide, by decide⟩ rfl rfl (by decide) ?_
              refine fw_aload_n dX5_differ_34 rfl rfl ?_
              refine fw_getr 0 1 rfl dX5_differ_35 ff_5_12 ly0_0 ⟨by decide, by decide⟩ rfl rfl (by decide) ?_
              refine fw_geti 7 rfl dX5_differ_38 ff_5_214 ly0_1 ⟨by decide, by decide⟩ rfl ?_
              refine fw_iload_n dX5_differ_41 rfl rfl ?_
              refine fw_iload dX5_differ_42 rfl ?_
              refine fw_pV mX1_knownOf [_, _, _] dX5_differ_44 mv_X1_knownOf lk_5_217 ⟨⟨by decide, by decide⟩, rfl, rfl, rfl, by decide, by decide⟩ ly0_1 ⟨by decide, by decide⟩ rfl rfl (Nat.le_of_ble_eq_true rfl) (sp_X1_knownOf _ _ _ _ _ (by omega) (by omega) (by omega)) ?_
              refine fw_aload_n dX5_differ_47 rfl rfl ?_
              refine fw_getr 0 1 rfl dX5_differ_48 ff_5_12 ly0_0 ⟨by decide, by decide⟩ rfl rfl (by decide) ?_
              refine fw_aload_n dX5_differ_51 rfl rfl ?_
              refine fw_getr 0 1 rfl dX5_differ_52 ff_5_12 ly0_0 ⟨by decide, by decide⟩ rfl rfl (by decide) ?_
              refine fw_geti 7 rfl dX5_differ_55 ff_5_214 ly0_1 ⟨by decide, by decide⟩ rfl ?_
              refine fw_iload_n dX5_differ_58 rfl rfl ?_
              refine fw_iload dX5_differ_59 rfl ?_
              refine fw_pV mX1_knownOf [_, _, _] dX5_differ_61 mv_X1_knownOf lk_5_217 ⟨⟨by decide, by decide⟩, rfl, rfl, rfl, by decide, by decide⟩ ly0_1 ⟨by decide, by decide⟩ rfl rfl (Nat.le_of_ble_eq_true rfl) (sp_X1_knownOf _ _ _ _ _ (by omega) (by omega) (by omega)) ?_
              refine fw_isub dX5_differ_64 ⟨by omega, by omega⟩ ?_
              refine fw_abs dX5_differ_65 lk_5_220 lw_abs ⟨by decide, Nat.le_of_ble_eq_true rfl, by decide, by decide⟩ (by omega) ?_
              refine fw_iadd dX5_differ_68 ⟨by (repeat' split) <;> omega, by (repeat' split) <;> omega⟩ ?_
              refine fw_istore_n (ls2 := [_, _, _, _, _]) dX5_differ_69 rfl (by decide) rfl ?_
              refine fw_iincv (ls2 := [_, _, _, _, _]) (4) dX5_differ_70 rfl (by decide) ⟨by decide, by decide⟩ (by decide) rfl ?_
              refine fw_goto 23 dX5_differ_73 (by decide) ?_
              refine fw_iload dX5_differ_23 rfl ?_
              refine fw_iconst dX5_differ_25 ⟨by decide, by decide⟩ ?_
              refine fw_icmp_ge 76 dX5_differ_26 (by decide) (fun h26 => ?_) (fun h26 => ?_)
              · skip
                refine fw_iload_n dX5_differ_76 rfl rfl ?_
                refine fw_iret dX5_differ_77 ⟨rfl, rfl, rfl⟩ ?_
                refine ⟨?_, hR⟩
                congr 2
                rw [an_differ_ok (by omega)]
                unfold an_abs
                rw [qa0.1, qa1.1, qa2.1, qa3.1, qb0.1, qb1.1, qb2.1, qb3.1]
                omega
              · skip
                exfalso; omega
    · skip
      refine fw_iconst dX5_differ_16 ⟨by decide, by decide⟩ ?_
      exact fw_iret dX5_differ_17 ⟨rfl, rfl, rfl⟩ (⟨(by congr 2; unfold an_differ; (repeat' split) <;> omega), hR⟩)

set_option maxRecDepth 20000 in
set_option maxHeartbeats 4000000 in
theorem lp_X6_differ (M N : fw_F) (L K : fw_G) (hR : Rel M L N K) (a b : Int) (ha : 0 ≤ a ∧ a < N 0 2) (hb : 0 ≤ b ∧ b < N 0 2) (hn : 1 ≤ N 0 2 ∧ N 0 2 ≤ 4) (hk : ∀ u p, 0 ≤ u → u < 4 → 0 ≤ p → p < 4 → 0 ≤ N 4 (4 * u + p) ∧ N 4 (4 * u + p) ≤ N 1 p) (hm : ∀ p, 0 ≤ p → p < 4 → N 1 p ≤ 20 ∧ (N 0 2 ≤ p → N 1 p = 0)) : ∀ (q : Nat) (c p : Int), N 0 2 - p < q → 0 ≤ p → p ≤ N 0 2 → c = ab_sm (fun p => an_abs (N 4 (4 * a + p) - N 4 (4 * b + p))) p.toNat → fw_D mX6_differ 28 [some (fw_r 0), some (fw_i a), some (fw_i b), some (fw_i c), some (fw_i p)] [] N K (fun r N2 K2 => r = some (fw_i (an_differ (N 0 2) a b (an_abs (N 4 (4 * a + 0) - N 4 (4 * b + 0)) + an_abs (N 4 (4 * a + 1) - N 4 (4 * b + 1)) + an_abs (N 4 (4 * a + 2) - N 4 (4 * b + 2)) + an_abs (N 4 (4 * a + 3) - N 4 (4 * b + 3))))) ∧ rl_mq N K N2 K2) := by
  intro q
  induction q with
  | zero => intro c p h0 h1 h2; omega
  | succ q ih =>
    intro c p h0 h1 h2 h3
    have hr := ab_sm_rng (f := (fun p => an_abs (N 4 (4 * a + p) - N 4 (4 * b + p)))) (a := 0) (b := 20) p.toNat (fun j x y => by have h7 := hk a j (by omega) (by omega) x (by omega); have h8 := hk b j (by omega) (by omega) x (by omega); have h9 := hm j x (by omega); show 0 ≤ an_abs (N 4 (4 * a + j) - N 4 (4 * b + j)) ∧ an_abs (N 4 (4 * a + j) - N 4 (4 * b + j)) ≤ 20; unfold an_abs; split <;> omega)
    refine fw_iload dX6_differ_28 rfl ?_
    refine fw_aload_n dX6_differ_30 rfl rfl ?_
    refine fw_geti 2 rfl dX6_differ_31 ff_6_7 ly1_0 ⟨by decide, by decide⟩ rfl ?_
    refine fw_icmp_ge 84 dX6_differ_34 (by decide) (fun h34 => ?_) (fun h34 => ?_)
    · skip
      refine fw_iload_n dX6_differ_84 rfl rfl ?_
      refine fw_iret dX6_differ_85 ⟨rfl, rfl, rfl⟩ ?_
      refine ⟨?_, rl_mq_rf N K⟩
      rw [h3, show p = N 0 2 by omega, ab_sm_4 hn (fun u u0 u1 => ?_)]
      · congr 2; unfold an_differ; rw [if_neg (by omega)]
      · have h7 := hk a u (by omega) (by omega) (by omega) u1
        have h8 := hk b u (by omega) (by omega) (by omega) u1
        have h9 := (hm u (by omega) u1).2 u0
        show an_abs (N 4 (4 * a + u) - N 4 (4 * b + u)) = 0
        unfold an_abs
        split <;> omega
    · skip
      have h7 := hk a p (by omega) (by omega) h1 (by omega)
      have h8 := hk b p (by omega) (by omega) h1 (by omega)
      have h9 := hm p h1 (by omega)
      have hs := ab_sm_s (fun p => an_abs (N 4 (4 * a + p) - N 4 (4 * b + p))) h1
      refine fw_aload_n dX6_differ_37 rfl rfl ?_
      refine fw_getr 8 4 rfl dX6_differ_38 ff_6_24 ly1_0 ⟨by decide, by decide⟩ rfl rfl (by decide) ?_
      refine fw_iconst dX6_differ_41 ⟨by decide, by decide⟩ ?_
      refine fw_iload_n dX6_differ_42 rfl rfl ?_
      refine fw_imul dX6_differ_43 ⟨by omega, by omega⟩ ?_
      refine fw_iload dX6_differ_44 rfl ?_
      refine fw_iadd dX6_differ_46 ⟨by omega, by omega⟩ ?_
      refine fw_iaload dX6_differ_47 ly1_4 ⟨by decide, by decide⟩ ⟨by omega, by omega⟩ ?_
      refine fw_aload_n dX6_differ_48 rfl rfl ?_
      refine fw_getr 8 4 rfl dX6_differ_49 ff_6_24 ly1_0 ⟨by decide, by decide⟩ rfl rfl (by decide) ?_
      refine fw_iconst dX6_differ_52 ⟨by decide, by decide⟩ ?_
      refine fw_iload_n dX6_differ_53 rfl rfl ?_
      refine fw_imul dX6_differ_54 ⟨by omega, by omega⟩ ?_
      refine fw_iload dX6_differ_55 rfl ?_
      refine fw_iadd dX6_differ_57 ⟨by omega, by omega⟩ ?_
      refine fw_iaload dX6_differ_58 ly1_4 ⟨by decide, by decide⟩ ⟨by omega, by omega⟩ ?_
      refine fw_isub dX6_differ_59 ⟨by omega, by omega⟩ ?_
      refine fw_istore (ls2 := [_, _, _, _, _, _]) dX6_differ_60 (by decide) rfl ?_
      refine fw_iload_n dX6_differ_62 rfl rfl ?_
      refine fw_iload dX6_differ_63 rfl ?_
      refine fw_if_ge 74 dX6_differ_65 (by decide) (fun h65 => ?_) (fun h65 => ?_)
      · skip
        refine fw_iload dX6_differ_74 rfl ?_
        refine fw_iadd dX6_differ_76 ⟨by omega, by omega⟩ ?_
        refine fw_istore_n (ls2 := [_, _, _, _, _, _]) dX6_differ_77 rfl (by decide) rfl ?_
        refine fw_iinc (ls2 := [_, _, _, _, _, _]) dX6_differ_78 rfl ⟨by omega, by omega⟩ (by decide) rfl ?_
        refine fw_goto 28 dX6_differ_81 (by decide) ?_
        refine fw_take 5 ?_
        refine ih _ (p + 1) (by omega) (by omega) (by omega) ?_
        rw [hs, h3]
        show _ = _ + an_abs (N 4 (4 * a + p) - N 4 (4 * b + p))
        unfold an_abs
        rw [if_pos (by omega)]
      · skip
        refine fw_iload dX6_differ_68 rfl ?_
        refine fw_ineg dX6_differ_70 ⟨by omega, by omega⟩ ?_
        refine fw_goto 76 dX6_differ_71 (by decide) ?_
        refine fw_iadd dX6_differ_76 ⟨by omega, by omega⟩ ?_
        refine fw_istore_n (ls2 := [_, _, _, _, _, _]) dX6_differ_77 rfl (by decide) rfl ?_
        refine fw_iinc (ls2 := [_, _, _, _, _, _]) dX6_differ_78 rfl ⟨by omega, by omega⟩ (by decide) rfl ?_
        refine fw_goto 28 dX6_differ_81 (by decide) ?_
        refine fw_take 5 ?_
        refine ih _ (p + 1) (by omega) (by omega) (by omega) ?_
        rw [hs, h3]
        show _ = _ + an_abs (N 4 (4 * a + p) - N 4 (4 * b + p))
        unfold an_abs
        rw [if_neg (by omega)]

theorem rl_now {M N : fw_F} {L K : fw_G} (hR : Rel M L N K) : ∀ u p, 0 ≤ u → u < 4 → 0 ≤ p → p < 4 → 0 ≤ N 4 (4 * u + p) ∧ N 4 (4 * u + p) ≤ N 1 p := fun u p a b c d => by
  have h := (hR.2.2.1.1 (N 0 4) u p hR.1.2.2.2.2.1.1 (Int.le_refl _) a b c d).2
  simp only [rl_kn_now] at h
  exact h
theorem rl_mk {M N : fw_F} {L K : fw_G} (hR : Rel M L N K) : ∀ p, 0 ≤ p → p < 4 → N 1 p ≤ 20 ∧ (N 0 2 ≤ p → N 1 p = 0) := fun p a b => (hR.2.1.1.1.2.2 p a b).2

set_option maxRecDepth 20000 in
set_option maxHeartbeats 4000000 in
theorem pm_X6_differ (M N : fw_F) (L K : fw_G) (hR : Rel M L N K) (a b : Int) : fw_D mX6_differ 5 [some (fw_r 0), some (fw_i a), some (fw_i b)] [] N K (fun r N2 K2 => r = some (fw_i (an_differ (N 0 2) a b (an_abs (N 4 (4 * a + 0) - N 4 (4 * b + 0)) + an_abs (N 4 (4 * a + 1) - N 4 (4 * b + 1)) + an_abs (N 4 (4 * a + 2) - N 4 (4 * b + 2)) + an_abs (N 4 (4 * a + 3) - N 4 (4 * b + 3))))) ∧ rl_mq N K N2 K2) := by
  obtain ⟨ha1, ha2, ha3, ha4, ha5, ha6⟩ := hR.1
  have hn1 := hR.2.1.1.1.1
  have hn2 := hR.2.1.1.1.2.1
  refine fw_aload_n dX6_differ_5 rfl rfl ?_
  refine fw_iload_n dX6_differ_6 rfl rfl ?_
  refine fw_pV mX6_isMachine [_] dX6_differ_7 mv_X6_isMachine lk_6_179 ⟨⟨by decide, by decide⟩, rfl, rfl, rfl, by decide, by decide⟩ ly1_0 ⟨by decide, by decide⟩ rfl rfl (Nat.le_of_ble_eq_true rfl) (sp_X6_isMachine _ _ _ (by omega)) ?_
  refine fw_bifeq 21 dX6_differ_10 (by decide) (fun h10 => ?_) (fun h10 => ?_)
  · skip
    refine fw_iconst dX6_differ_21 ⟨by decide, by decide⟩ ?_
    exact fw_iret dX6_differ_22 ⟨rfl, rfl, rfl⟩ (⟨(by congr 2; unfold an_differ; (repeat' split) <;> omega), rl_mq_rf N K⟩)
  · skip
    refine fw_aload_n dX6_differ_13 rfl rfl ?_
    refine fw_iload_n dX6_differ_14 rfl rfl ?_
    refine fw_pV mX6_isMachine [_] dX6_differ_15 mv_X6_isMachine lk_6_179 ⟨⟨by decide, by decide⟩, rfl, rfl, rfl, by decide, by decide⟩ ly1_0 ⟨by decide, by decide⟩ rfl rfl (Nat.le_of_ble_eq_true rfl) (sp_X6_isMachine _ _ _ (by omega)) ?_
    refine fw_bifne 23 dX6_differ_18 (by decide) (fun h18 => ?_) (fun h18 => ?_)
    · skip
      refine fw_iconst dX6_differ_23 ⟨by decide, by decide⟩ ?_
      refine fw_istore_n (ls2 := [_, _, _, _]) dX6_differ_24 rfl (by decide) rfl ?_
      refine fw_iconst dX6_differ_25 ⟨by decide, by decide⟩ ?_
      refine fw_istore (ls2 := [_, _, _, _, _]) dX6_differ_26 (by decide) rfl ?_
      exact lp_X6_differ M N L K hR a b (by omega) (by omega) (by omega) (rl_now hR) (rl_mk hR) 5 0 0 (by omega) (by decide) (by omega) rfl
    · skip
      refine fw_iconst dX6_differ_21 ⟨by decide, by decide⟩ ?_
      exact fw_iret dX6_differ_22 ⟨rfl, rfl, rfl⟩ (⟨(by congr 2; unfold an_differ; (repeat' split) <;> omega), rl_mq_rf N K⟩)

set_option maxRecDepth 20000 in
set_option maxHeartbeats 4000000 in
theorem sp_X6_differ (M N : fw_F) (L K : fw_G) (hR : Rel M L (fw_upd N 0 0 0) K) (a b : Int) : fw_SD mX6_differ [fw_r 0, fw_i a, fw_i b] N K (fun r N2 K2 => r = some (fw_i (an_differ ((fw_upd N 0 0 0) 0 2) a b (an_abs ((fw_upd N 0 0 0) 4 (4 * a + 0) - (fw_upd N 0 0 0) 4 (4 * b + 0)) + an_abs ((fw_upd N 0 0 0) 4 (4 * a + 1) - (fw_upd N 0 0 0) 4 (4 * b + 1)) + an_abs ((fw_upd N 0 0 0) 4 (4 * a + 2) - (fw_upd N 0 0 0) 4 (4 * b + 2)) + an_abs ((fw_upd N 0 0 0) 4 (4 * a + 3) - (fw_upd N 0 0 0) 4 (4 * b + 3))))) ∧ rl_mq (fw_upd N 0 0 0) K N2 K2) := by
  refine fw_SP_of pl_X6_differ (ls := [_, _, _]) rfl (Nat.le_of_ble_eq_true rfl) fun hA hM => ?_
  refine fw_aload_n dX6_differ_0 rfl rfl ?_
  refine fw_iconst dX6_differ_1 ⟨by decide, by decide⟩ ?_
  refine fw_puti 0 rfl dX6_differ_2 fp_6_106 ly1_0 (by decide) ⟨by decide, by decide⟩ rfl ?_
  exact pm_X6_differ M (fw_upd N 0 0 0) L K hR a b

def an_taken (n m v : Int) : Int := if ¬ (0 ≤ m ∧ m < n) then -1 else v

set_option maxRecDepth 20000 in
set_option maxHeartbeats 4000000 in
theorem sp_X5_taken (M N : fw_F) (L K : fw_G) (hR : Rel M L N K) (m : Int) : fw_SC mX5_taken [fw_r 0, fw_i m] M L (fun r M2 L2 => r = some (fw_i (an_taken (N 0 2) m (max 0 (N 4 (4 * m + 0) - ab_LF (md_G N) (M 3) (N 6) (M 1 6).toNat 0) + max 0 (N 4 (4 * m + 1) - ab_LF (md_G N) (M 3) (N 6) (M 1 6).toNat 1) + max 0 (N 4 (4 * m + 2) - ab_LF (md_G N) (M 3) (N 6) (M 1 6).toNat 2) + max 0 (N 4 (4 * m + 3) - ab_LF (md_G N) (M 3) (N 6) (M 1 6).toNat 3)))) ∧ Rel M2 L2 N K) := by
  refine fw_SP_of pl_X5_taken (ls := [_, _]) rfl (Nat.le_of_ble_eq_true rfl) fun hA hM => ?_
  obtain ⟨ha1, ha2, ha3, ha4, ha5, ha6⟩ := hR.1
  have hn1 := hR.2.1.1.1.1
  have hn2 := hR.2.1.1.1.2.1
  refine fw_aload_n dX5_taken_0 rfl rfl ?_
  refine fw_iload_n dX5_taken_1 rfl rfl ?_
  refine fw_pV mX5_isMachine [_] dX5_taken_2 mv_X5_isMachine lk_5_62 ⟨⟨by decide, by decide⟩, rfl, rfl, rfl, by decide, by decide⟩ ly0_0 ⟨by decide, by decide⟩ rfl rfl (Nat.le_of_ble_eq_true rfl) (sp_X5_isMachine _ _ _) ?_
  refine fw_bifne 10 dX5_taken_5 (by decide) (fun h5 => ?_) (fun h5 => ?_)
  · skip
    have qa0 := hR.2.2.1.1 (N 0 4) m 0 (by omega) (by omega) (by omega) (by omega) (by decide) (by decide)
    have qa1 := hR.2.2.1.1 (N 0 4) m 1 (by omega) (by omega) (by omega) (by omega) (by decide) (by decide)
    have qa2 := hR.2.2.1.1 (N 0 4) m 2 (by omega) (by omega) (by omega) (by omega) (by decide) (by decide)
    have qa3 := hR.2.2.1.1 (N 0 4) m 3 (by omega) (by omega) (by omega) (by omega) (by decide) (by decide)
    simp only [rl_kn_now] at qa0 qa1 qa2 qa3
    rw [← ha4] at qa0 qa1 qa2 qa3
    have qo0 := (hR.2.2.2.1.2 0 (by decide) (by decide)).2
    have qo1 := (hR.2.2.2.1.2 1 (by decide) (by decide)).2
    have qo2 := (hR.2.2.2.1.2 2 (by decide) (by decide)).2
    have qo3 := (hR.2.2.2.1.2 3 (by decide) (by decide)).2
    have mk0 := hR.2.1.1.1.2.2 0 (by decide) (by decide)
    have mk1 := hR.2.1.1.1.2.2 1 (by decide) (by decide)
    have mk2 := hR.2.1.1.1.2.2 2 (by decide) (by decide)
    have mk3 := hR.2.1.1.1.2.2 3 (by decide) (by decide)
    have hT := ab_T80 hR.2.1.1
    have lr0 := ab_LF_ok hR.2.1.1 hR.2.2.2.1.1 (M 1 6).toNat (by omega) 0 (by decide) (by decide)
    have lr1 := ab_LF_ok hR.2.1.1 hR.2.2.2.1.1 (M 1 6).toNat (by omega) 1 (by decide) (by decide)
    have lr2 := ab_LF_ok hR.2.1.1 hR.2.2.2.1.1 (M 1 6).toNat (by omega) 2 (by decide) (by decide)
    have lr3 := ab_LF_ok hR.2.1.1 hR.2.2.2.1.1 (M 1 6).toNat (by omega) 3 (by decide) (by decide)
    refine fw_iconst dX5_taken_10 ⟨by decide, by decide⟩ ?_
    refine fw_istore_n (ls2 := [_, _, _]) dX5_taken_11 rfl (by decide) rfl ?_
    refine fw_iconst dX5_taken_12 ⟨by decide, by decide⟩ ?_
    refine fw_istore_n (ls2 := [_, _, _, _]) dX5_taken_13 rfl (by decide) rfl ?_
    refine fw_iload_n dX5_taken_14 rfl rfl ?_
    refine fw_iconst dX5_taken_15 ⟨by decide, by decide⟩ ?_
    refine fw_icmp_ge 58 dX5_taken_16 (by decide) (fun h16 => ?_) (fun h16 => ?_)
    · skip
      exfalso; omega
    · skip
      refine fw_iload_n dX5_taken_19 rfl rfl ?_
      refine fw_iconst dX5_taken_20 ⟨by decide, by decide⟩ ?_
      refine fw_aload_n dX5_taken_21 rfl rfl ?_
      refine fw_getr 0 1 rfl dX5_taken_22 ff_5_12 ly0_0 ⟨by decide, by decide⟩ rfl rfl (by decide) ?_
      refine fw_aload_n dX5_taken_25 rfl rfl ?_
      refine fw_getr 0 1 rfl dX5_taken_26 ff_5_12 ly0_0 ⟨by decide, by decide⟩ rfl rfl (by decide) ?_
      refine fw_geti 7 rfl dX5_taken_29 ff_5_214 ly0_1 ⟨by decide, by decide⟩ rfl ?_
      refine fw_iload_n dX5_taken_32 rfl rfl ?_
      refine fw_iload_n dX5_taken_33 rfl rfl ?_
      refine fw_pV mX1_knownOf [_, _, _] dX5_taken_34 mv_X1_knownOf lk_5_217 ⟨⟨by decide, by decide⟩, rfl, rfl, rfl, by decide, by decide⟩ ly0_1 ⟨by decide, by decide⟩ rfl rfl (Nat.le_of_ble_eq_true rfl) (sp_X1_knownOf _ _ _ _ _ (by omega) (by omega) (by omega)) ?_
      refine fw_aload_n dX5_taken_37 rfl rfl ?_
      refine fw_getr 0 1 rfl dX5_taken_38 ff_5_12 ly0_0 ⟨by decide, by decide⟩ rfl rfl (by decide) ?_
      refine fw_getr 5 7 rfl dX5_taken_41 ff_5_231 ly0_1 ⟨by decide, by decide⟩ rfl rfl (by decide) ?_
      refine fw_iload_n dX5_taken_44 rfl rfl ?_
      refine fw_iaload dX5_taken_45 ly0_7 ⟨by decide, by decide⟩ ⟨by omega, by omega⟩ ?_
      refine fw_isub dX5_taken_46 ⟨by omega, by omega⟩ ?_
      refine fw_max dX5_taken_47 lk_5_234 lw_max ⟨by decide, Nat.le_of_ble_eq_true rfl, by decide, by decide⟩ ?_
      refine fw_iadd dX5_taken_50 ⟨by omega, by omega⟩ ?_
      refine fw_istore_n (ls2 := [_, _, _, _]) dX5_taken_51 rfl (by decide) rfl ?_
      refine fw_iincv (ls2 := [_, _, _, _]) (1) dX5_taken_52 rfl (by decide) ⟨by decide, by decide⟩ (by decide) rfl ?_
      refine fw_goto 14 dX5_taken_55 (by decide) ?_
      refine fw_iload_n dX5_taken_14 rfl rfl ?_
      refine fw_iconst dX5_taken_15 ⟨by decide, by decide⟩ ?_
      refine fw_icmp_ge 58 dX5_taken_16 (by decide) (fun h16 => ?_) (fun h16 => ?_)
      · skip
        exfalso; omega
      · skip
        refine fw_iload_n dX5_taken_19 rfl rfl ?_
        refine fw_iconst dX5_taken_20 ⟨by decide, by decide⟩ ?_
        refine fw_aload_n dX5_taken_21 rfl rfl ?_
        refine fw_getr 0 1 rfl dX5_taken_22 ff_5_12 ly0_0 ⟨by decide, by decide⟩ rfl rfl (by decide) ?_
        refine fw_aload_n dX5_taken_25 rfl rfl ?_
        refine fw_getr 0 1 rfl dX5_taken_26 ff_5_12 ly0_0 ⟨by decide, by decide⟩ rfl rfl (by decide) ?_
        refine fw_geti 7 rfl dX5_taken_29 ff_5_214 ly0_1 ⟨by decide, by decide⟩ rfl ?_
        refine fw_iload_n dX5_taken_32 rfl rfl ?_
        refine fw_iload_n dX5_taken_33 rfl rfl ?_
        refine fw_pV mX1_knownOf [_, _, _] dX5_taken_34 mv_X1_knownOf lk_5_217 ⟨⟨by decide, by decide⟩, rfl, rfl, rfl, by decide, by decide⟩ ly0_1 ⟨by decide, by decide⟩ rfl rfl (Nat.le_of_ble_eq_true rfl) (sp_X1_knownOf _ _ _ _ _ (by omega) (by omega) (by omega)) ?_
        refine fw_aload_n dX5_taken_37 rfl rfl ?_
        refine fw_getr 0 1 rfl dX5_taken_38 ff_5_12 ly0_0 ⟨by decide, by decide⟩ rfl rfl (by decide) ?_
        refine fw_getr 5 7 rfl dX5_taken_41 ff_5_231 ly0_1 ⟨by decide, by decide⟩ rfl rfl (by decide) ?_
        refine fw_iload_n dX5_taken_44 rfl rfl ?_
        refine fw_iaload dX5_taken_45 ly0_7 ⟨by decide, by decide⟩ ⟨by omega, by omega⟩ ?_
        refine fw_isub dX5_taken_46 ⟨by omega, by omega⟩ ?_
        refine fw_max dX5_taken_47 lk_5_234 lw_max ⟨by decide, Nat.le_of_ble_eq_true rfl, by decide, by decide⟩ ?_
        refine fw_iadd dX5_taken_50 ⟨by omega, by omega⟩ ?_
        refine fw_istore_n (ls2 := [_, _, _, _]) dX5_taken_51 rfl (by decide) rfl ?_
        refine fw_iincv (ls2 := [_, _, _, _]) (2) dX5_taken_52 rfl (by decide) ⟨by decide, by decide⟩ (by decide) rfl ?_
        refine fw_goto 14 dX5_taken_55 (by decide) ?_
        refine fw_iload_n dX5_taken_14 rfl rfl ?_
        refine fw_iconst dX5_taken_15 ⟨by decide, by decide⟩ ?_
        refine fw_icmp_ge 58 dX5_taken_16 (by decide) (fun h16 => ?_) (fun h16 => ?_)
        · skip
          exfalso; omega
        · skip
          refine fw_iload_n dX5_taken_19 rfl rfl ?_
          refine fw_iconst dX5_taken_20 ⟨by decide, by decide⟩ ?_
          refine fw_aload_n dX5_taken_21 rfl rfl ?_
          refine fw_getr 0 1 rfl dX5_taken_22 ff_5_12 ly0_0 ⟨by decide, by decide⟩ rfl rfl (by decide) ?_
          refine fw_aload_n dX5_taken_25 rfl rfl ?_
          refine fw_getr 0 1 rfl dX5_taken_26 ff_5_12 ly0_0 ⟨by decide, by decide⟩ rfl rfl (by decide) ?_
          refine fw_geti 7 rfl dX5_taken_29 ff_5_214 ly0_1 ⟨by decide, by decide⟩ rfl ?_
          refine fw_iload_n dX5_taken_32 rfl rfl ?_
          refine fw_iload_n dX5_taken_33 rfl rfl ?_
          refine fw_pV mX1_knownOf [_, _, _] dX5_taken_34 mv_X1_knownOf lk_5_217 ⟨⟨by decide, by decide⟩, rfl, rfl, rfl, by decide, by decide⟩ ly0_1 ⟨by decide, by decide⟩ rfl rfl (Nat.le_of_ble_eq_true rfl) (sp_X1_knownOf _ _ _ _ _ (by omega) (by omega) (by omega)) ?_
          refine fw_aload_n dX5_taken_37 rfl rfl ?_
          refine fw_getr 0 1 rfl dX5_taken_38 ff_5_12 ly0_0 ⟨by decide, by decide⟩ rfl rfl (by decide) ?_
          refine fw_getr 5 7 rfl dX5_taken_41 ff_5_231 ly0_1 ⟨by decide, by decide⟩ rfl rfl (by decide) ?_
          refine fw_iload_n dX5_taken_44 rfl rfl ?_
          refine fw_iaload dX5_taken_45 ly0_7 ⟨by decide, by decide⟩ ⟨by omega, by omega⟩ ?_
          refine fw_isub dX5_taken_46 ⟨by omega, by omega⟩ ?_
          refine fw_max dX5_taken_47 lk_5_234 lw_max ⟨by decide, Nat.le_of_ble_eq_true rfl, by decide, by decide⟩ ?_
          refine fw_iadd dX5_taken_50 ⟨by omega, by omega⟩ ?_
          refine fw_istore_n (ls2 := [_, _, _, _]) dX5_taken_51 rfl (by decide) rfl ?_
          refine fw_iincv (ls2 := [_, _, _, _]) (3) dX5_taken_52 rfl (by decide) ⟨by decide, by decide⟩ (by decide) rfl ?_
          refine fw_goto 14 dX5_taken_55 (by decide) ?_
          refine fw_iload_n dX5_taken_14 rfl rfl ?_
          refine fw_iconst dX5_taken_15 ⟨by decide, by decide⟩ ?_
          refine fw_icmp_ge 58 dX5_taken_16 (by decide) (fun h16 => ?_) (fun h16 => ?_)
          · skip
            exfalso; omega
          · skip
            refine fw_iload_n dX5_taken_19 rfl rfl ?_
            refine fw_iconst dX5_taken_20 ⟨by decide, by decide⟩ ?_
            refine fw_aload_n dX5_taken_21 rfl rfl ?_
            refine fw_getr 0 1 rfl dX5_taken_22 ff_5_12 ly0_0 ⟨by decide, by decide⟩ rfl rfl (by decide) ?_
            refine fw_aload_n dX5_taken_25 rfl rfl ?_
            refine fw_getr 0 1 rfl dX5_taken_26 ff_5_12 ly0_0 ⟨by decide, by decide⟩ rfl rfl (by decide) ?_
            refine fw_geti 7 rfl dX5_taken_29 ff_5_214 ly0_1 ⟨by decide, by decide⟩ rfl ?_
            refine fw_iload_n dX5_taken_32 rfl rfl ?_
            refine fw_iload_n dX5_taken_33 rfl rfl ?_
            refine fw_pV mX1_knownOf [_, _, _] dX5_taken_34 mv_X1_knownOf lk_5_217 ⟨⟨by decide, by decide⟩, rfl, rfl, rfl, by decide, by decide⟩ ly0_1 ⟨by decide, by decide⟩ rfl rfl (Nat.le_of_ble_eq_true rfl) (sp_X1_knownOf _ _ _ _ _ (by omega) (by omega) (by omega)) ?_
            refine fw_aload_n dX5_taken_37 rfl rfl ?_
            refine fw_getr 0 1 rfl dX5_taken_38 ff_5_12 ly0_0 ⟨by decide, by decide⟩ rfl rfl (by decide) ?_
            refine fw_getr 5 7 rfl dX5_taken_41 ff_5_231 ly0_1 ⟨by decide, by decide⟩ rfl rfl (by decide) ?_
            refine fw_iload_n dX5_taken_44 rfl rfl ?_
            refine fw_iaload dX5_taken_45 ly0_7 ⟨by decide, by decide⟩ ⟨by omega, by omega⟩ ?_
            refine fw_isub dX5_taken_46 ⟨by omega, by omega⟩ ?_
            refine fw_max dX5_taken_47 lk_5_234 lw_max ⟨by decide, Nat.le_of_ble_eq_true rfl, by decide, by decide⟩ ?_
            refine fw_iadd dX5_taken_50 ⟨by omega, by omega⟩ ?_
            refine fw_istore_n (ls2 := [_, _, _, _]) dX5_taken_51 rfl (by decide) rfl ?_
            refine fw_iincv (ls2 := [_, _, _, _]) (4) dX5_taken_52 rfl (by decide) ⟨by decide, by decide⟩ (by decide) rfl ?_
            refine fw_goto 14 dX5_taken_55 (by decide) ?_
            refine fw_iload_n dX5_taken_14 rfl rfl ?_
            refine fw_iconst dX5_taken_15 ⟨by decide, by decide⟩ ?_
            refine fw_icmp_ge 58 dX5_taken_16 (by decide) (fun h16 => ?_) (fun h16 => ?_)
            · skip
              refine fw_iload_n dX5_taken_58 rfl rfl ?_
              refine fw_iret dX5_taken_59 ⟨rfl, rfl, rfl⟩ ?_
              refine ⟨?_, hR⟩
              congr 2
              unfold an_taken
              rw [if_neg (by omega)]
              rw [qa0.1, qa1.1, qa2.1, qa3.1, qo0, qo1, qo2, qo3]
              omega
            · skip
              exfalso; omega
  · skip
    refine fw_iconst dX5_taken_8 ⟨by decide, by decide⟩ ?_
    exact fw_iret dX5_taken_9 ⟨rfl, rfl, rfl⟩ (⟨(by congr 2; unfold an_taken; (repeat' split) <;> omega), hR⟩)

set_option maxRecDepth 20000 in
set_option maxHeartbeats 4000000 in
theorem pm_X6_taken (M N : fw_F) (L K : fw_G) (hR : Rel M L N K) (m : Int) : fw_D mX6_taken 5 [some (fw_r 0), some (fw_i m)] [] N K (fun r N2 K2 => r = some (fw_i (an_taken (N 0 2) m (max 0 (N 4 (4 * m + 0) - ab_LF (md_G N) (M 3) (N 6) (M 1 6).toNat 0) + max 0 (N 4 (4 * m + 1) - ab_LF (md_G N) (M 3) (N 6) (M 1 6).toNat 1) + max 0 (N 4 (4 * m + 2) - ab_LF (md_G N) (M 3) (N 6) (M 1 6).toNat 2) + max 0 (N 4 (4 * m + 3) - ab_LF (md_G N) (M 3) (N 6) (M 1 6).toNat 3)))) ∧ rl_mq N K N2 K2) := by
  obtain ⟨ha1, ha2, ha3, ha4, ha5, ha6⟩ := hR.1
  have hn1 := hR.2.1.1.1.1
  have hn2 := hR.2.1.1.1.2.1
  refine fw_aload_n dX6_taken_5 rfl rfl ?_
  refine fw_iload_n dX6_taken_6 rfl rfl ?_
  refine fw_pV mX6_isMachine [_] dX6_taken_7 mv_X6_isMachine lk_6_179 ⟨⟨by decide, by decide⟩, rfl, rfl, rfl, by decide, by decide⟩ ly1_0 ⟨by decide, by decide⟩ rfl rfl (Nat.le_of_ble_eq_true rfl) (sp_X6_isMachine _ _ _ (by omega)) ?_
  refine fw_bifeq 27 dX6_taken_10 (by decide) (fun h10 => ?_) (fun h10 => ?_)
  · skip
    refine fw_iconst dX6_taken_27 ⟨by decide, by decide⟩ ?_
    exact fw_iret dX6_taken_28 ⟨rfl, rfl, rfl⟩ (⟨(by congr 2; unfold an_taken; (repeat' split) <;> omega), rl_mq_rf N K⟩)
  · skip
    refine fw_aload_n dX6_taken_13 rfl rfl ?_
    refine fw_aload_n dX6_taken_14 rfl rfl ?_
    refine fw_getr 8 4 rfl dX6_taken_15 ff_6_24 ly1_0 ⟨by decide, by decide⟩ rfl rfl (by decide) ?_
    refine fw_iconst dX6_taken_18 ⟨by decide, by decide⟩ ?_
    refine fw_iload_n dX6_taken_19 rfl rfl ?_
    refine fw_imul dX6_taken_20 ⟨by omega, by omega⟩ ?_
    refine fw_cV mX6_left [_, _] dX6_taken_21 mv_X6_left lk_6_259 ⟨⟨by decide, by decide⟩, rfl, rfl, rfl, by decide, by decide⟩ ly1_0 ⟨by decide, by decide⟩ rfl rfl (Nat.le_of_ble_eq_true rfl) (sp_X6_left_4 (M 1 6) N (M 3) K hR.2.1.1 hR.2.2.2.1.1 (4 * m) (by omega) (fun p a b => by have h7 := rl_now hR m p (by omega) (by omega) a b; have h8 := rl_mk hR p a b; omega)) (fun r M1 L1 hp hM1 => ?_)
    obtain ⟨rfl, rfl, g1⟩ := hp
    refine fw_goto 28 dX6_taken_24 (by decide) ?_
    refine fw_iret dX6_taken_28 ⟨rfl, rfl, rfl⟩ ?_
    refine ⟨?_, rl_mq_of (fun k a => g1 k (by omega) (by omega))⟩
    rw [ab_sm_4 ⟨hn1, hn2⟩ (fun p a b => ?_)]
    · congr 2
      unfold an_taken
      rw [if_neg (by omega)]
      rw [ab_FO_max hR.2.1.1 hR.2.2.2.1.1 (show (0 : Int) ≤ 0 by decide) (by decide) (rl_now hR m 0 (by omega) (by omega) (by decide) (by decide)).2, ab_FO_max hR.2.1.1 hR.2.2.2.1.1 (show (0 : Int) ≤ 1 by decide) (by decide) (rl_now hR m 1 (by omega) (by omega) (by decide) (by decide)).2, ab_FO_max hR.2.1.1 hR.2.2.2.1.1 (show (0 : Int) ≤ 2 by decide) (by decide) (rl_now hR m 2 (by omega) (by omega) (by decide) (by decide)).2, ab_FO_max hR.2.1.1 hR.2.2.2.1.1 (show (0 : Int) ≤ 3 by decide) (by decide) (rl_now hR m 3 (by omega) (by omega) (by decide) (by decide)).2]
    · have h7 := rl_now hR m p (by omega) (by omega) (by omega) b
      have h8 := (rl_mk hR p (by omega) b).2 a
      have h9 := ab_FO_rng hR.2.1.1 hR.2.2.2.1.1 (p := p) (by omega) b
      show max 0 (N 4 (4 * m + p) - _) = 0
      omega

set_option maxRecDepth 20000 in
set_option maxHeartbeats 4000000 in
theorem sp_X6_taken (M N : fw_F) (L K : fw_G) (hR : Rel M L (fw_upd N 0 0 0) K) (m : Int) : fw_SD mX6_taken [fw_r 0, fw_i m] N K (fun r N2 K2 => r = some (fw_i (an_taken ((fw_upd N 0 0 0) 0 2) m (max 0 ((fw_upd N 0 0 0) 4 (4 * m + 0) - ab_LF (md_G (fw_upd N 0 0 0)) (M 3) ((fw_upd N 0 0 0) 6) (M 1 6).toNat 0) + max 0 ((fw_upd N 0 0 0) 4 (4 * m + 1) - ab_LF (md_G (fw_upd N 0 0 0)) (M 3) ((fw_upd N 0 0 0) 6) (M 1 6).toNat 1) + max 0 ((fw_upd N 0 0 0) 4 (4 * m + 2) - ab_LF (md_G (fw_upd N 0 0 0)) (M 3) ((fw_upd N 0 0 0) 6) (M 1 6).toNat 2) + max 0 ((fw_upd N 0 0 0) 4 (4 * m + 3) - ab_LF (md_G (fw_upd N 0 0 0)) (M 3) ((fw_upd N 0 0 0) 6) (M 1 6).toNat 3)))) ∧ rl_mq (fw_upd N 0 0 0) K N2 K2) := by
  refine fw_SP_of pl_X6_taken (ls := [_, _]) rfl (Nat.le_of_ble_eq_true rfl) fun hA hM => ?_
  refine fw_aload_n dX6_taken_0 rfl rfl ?_
  refine fw_iconst dX6_taken_1 ⟨by decide, by decide⟩ ?_
  refine fw_puti 0 rfl dX6_taken_2 fp_6_106 ly1_0 (by decide) ⟨by decide, by decide⟩ rfl ?_
  exact pm_X6_taken M (fw_upd N 0 0 0) L K hR m

set_option maxRecDepth 20000 in
set_option maxHeartbeats 4000000 in
theorem sp_X5_trace (M N : fw_F) (L K : fw_G) (hR : Rel M L N K)  : fw_SC mX5_trace [fw_r 0] M L (fun r M2 L2 => r = some (fw_l (K 0 1)) ∧ Rel M2 L2 N K) := by
  refine fw_SP_of pl_X5_trace (ls := [_]) rfl (Nat.le_of_ble_eq_true rfl) fun hA hM => ?_
  obtain ⟨ha1, ha2, ha3, ha4, ha5, ha6⟩ := hR.1
  have hn1 := hR.2.1.1.1.1
  have hn2 := hR.2.1.1.1.2.1
  refine fw_aload_n dX5_trace_0 rfl rfl ?_
  refine fw_getl 9 rfl dX5_trace_1 ff_5_305 ly0_0 ⟨by decide, by decide⟩ rfl ?_
  exact fw_lret dX5_trace_4 ⟨rfl, rfl, rfl⟩ (⟨by rw [ha3], hR⟩)

set_option maxRecDepth 20000 in
set_option maxHeartbeats 4000000 in
theorem pm_X6_trace (M N : fw_F) (L K : fw_G) (hR : Rel M L N K)  : fw_D mX6_trace 5 [some (fw_r 0)] [] N K (fun r N2 K2 => r = some (fw_l (K 0 1)) ∧ rl_mq N K N2 K2) := by
  obtain ⟨ha1, ha2, ha3, ha4, ha5, ha6⟩ := hR.1
  have hn1 := hR.2.1.1.1.1
  have hn2 := hR.2.1.1.1.2.1
  refine fw_aload_n dX6_trace_5 rfl rfl ?_
  refine fw_getl 1 rfl dX6_trace_6 ff_6_236 ly1_0 ⟨by decide, by decide⟩ rfl ?_
  exact fw_lret dX6_trace_9 ⟨rfl, rfl, rfl⟩ (⟨rfl, rl_mq_rf N K⟩)

set_option maxRecDepth 20000 in
set_option maxHeartbeats 4000000 in
theorem sp_X6_trace (M N : fw_F) (L K : fw_G) (hR : Rel M L (fw_upd N 0 0 0) K)  : fw_SD mX6_trace [fw_r 0] N K (fun r N2 K2 => r = some (fw_l (K 0 1)) ∧ rl_mq (fw_upd N 0 0 0) K N2 K2) := by
  refine fw_SP_of pl_X6_trace (ls := [_]) rfl (Nat.le_of_ble_eq_true rfl) fun hA hM => ?_
  refine fw_aload_n dX6_trace_0 rfl rfl ?_
  refine fw_iconst dX6_trace_1 ⟨by decide, by decide⟩ ?_
  refine fw_puti 0 rfl dX6_trace_2 fp_6_106 ly1_0 (by decide) ⟨by decide, by decide⟩ rfl ?_
  exact pm_X6_trace M (fw_upd N 0 0 0) L K hR 
