theorem rl_apG_of {N Nx : fw_F} {m : Int} (h1 : Nx 1 = N 1) (h2 : Nx 2 = N 2) (h4 : Nx 4 = N 4) : rl_apG Nx m = rl_apG N m := by
  funext y f
  unfold rl_apG
  rw [h1, h4, md_G_of h2]
theorem rl_makes {M N Nx : fw_F} {L K Kx : fw_G} (hR : Rel M L N K) {m wh t into nm kd : Int} (hm : 0 ≤ m ∧ m < N 0 2) (hf : N 1 m < 20) (e0 : Nx 0 2 = N 0 2) (e1 : Nx 1 = N 1) (e2 : Nx 2 = N 2) (e4 : Nx 4 = N 4) : fw_SD mX6_makes [fw_r 0, fw_i m, fw_i wh, fw_i t, fw_i into, fw_i nm, fw_i kd] Nx Kx (md_AP m wh t into nm kd Nx Kx) := by
  have hn1 := hR.2.1.1.1.1
  have hn2 := hR.2.1.1.1.2.1
  have hm4 : 0 ≤ m ∧ m < 4 := ⟨hm.1, by omega⟩
  have hmk := hR.2.1.1.1.2.2 m hm4.1 hm4.2
  have hT := ab_T80 hR.2.1.1
  refine sp_X6_makes m wh t into nm kd Nx Kx hm4 (by omega) (by rw [e1]; omega) (fun p a b => ?_) (fun p a b q => ?_) (fun p a b => ?_)
  · rw [e4, e1]
    have h7 := rl_now hR m p hm4.1 hm4.2 a b
    have h8 := (rl_mk hR p a b).1
    exact ⟨by omega, by omega, fun e => by rw [e]; exact hR.2.2.1.2 m hm4.1 hm4.2⟩
  · rw [e4] at q ⊢
    rw [md_G_of e2]
    have h9 := rl_hg hR hm4 (p := p) ⟨a, b⟩ q
    omega
  · rw [e4]
    have h7 := rl_now hR m p hm4.1 hm4.2 (by omega) b
    have h8 := (rl_mk hR p (by omega) b).2 (by omega)
    omega
theorem rl_append_q {M N Nx M1 M2 N2 : fw_F} {L K L1 L2 K2 Kx Ky : fw_G} (hR : Rel M L N K) {m wh t into nm kd : Int} (hm : 0 ≤ m ∧ m < N 0 2) (hf : N 1 m < 20) (hw : (0 ≤ wh ∧ wh ≤ 3) ∧ (0 ≤ t ∧ t ≤ 11) ∧ (wh ≤ 1 → 0 ≤ into ∧ into ≤ 11 ∧ 0 ≤ nm ∧ nm ≤ 9) ∧ (wh = 0 → 1 ≤ t ∧ ¬ t = into ∧ 1 ≤ kd ∧ kd ≤ 2) ∧ (wh = 3 → 0 ≤ nm ∧ nm ≤ 8)) {r1 r2 : Option fw_V} (hc : cl_AP m wh t (M 1 7) (M 1 6) M L (rl_apG N m) r1 M1 L1)
    (c1 : ∀ k, ¬ k = (8 + 2 * (m * 20 + N 1 m)) → M2 k = M1 k) (c2 : ∀ f, f < 7 → M2 (8 + 2 * (m * 20 + N 1 m)) f = M1 (8 + 2 * (m * 20 + N 1 m)) f) (c3 : wh = 0 → M2 (8 + 2 * (m * 20 + N 1 m)) 7 = kd) (c4 : wh ≤ 1 → M2 (8 + 2 * (m * 20 + N 1 m)) 8 = into ∧ M2 (8 + 2 * (m * 20 + N 1 m)) 9 = nm) (c5 : wh = 3 → M2 (8 + 2 * (m * 20 + N 1 m)) 10 = nm) (l1 : ∀ k, ¬ k = (8 + 2 * (m * 20 + N 1 m)) → L2 k = L k) (l2 : wh = 3 → L2 (8 + 2 * (m * 20 + N 1 m)) 11 = K2 3 (m * 20 + N 1 m))
    (hq : rl_mq N K Nx K) (hd : md_AP m wh t into nm kd Nx Kx r2 N2 Ky) (k1 : ∀ k, ¬ k = 3 → K2 k = K k) (k2 : ∀ y, ¬ y = m * 20 + N 1 m → K2 3 y = K 3 y) : Rel M2 L2 N2 K2 := by
  have e1 := (hq.1 1 (by omega)).1
  have e2 := (hq.1 2 (by omega)).1
  have e4 := (hq.1 4 (by omega)).1
  refine rl_append (N := Nx) (rl_md hR hq) (by rw [hq.2.1 2 (by decide) (by decide)]; exact hm) (by rw [e1]; exact hf) hw (by rw [rl_apG_of e1 e2 e4]; exact hc) (by rw [e1]; exact c1) (by rw [e1]; exact c2) (by rw [e1]; exact c3) (by rw [e1]; exact c4) (by rw [e1]; exact c5) (by rw [e1]; exact l1) (by rw [e1]; exact l2) hd k1 (by rw [e1]; exact k2)
theorem cl_AP_num {m act su d T : Int} {M M1 : fw_F} {L L1 : fw_G} {G : fw_F} {r : Option fw_V} (h : cl_AP m act su d T M L G r M1 L1) : M1 (8 + 2 * (m * 20 + M 4 m)) 2 = M 4 m := h.2.2.2.2.2.2.1.2.1

def an_gone (n km : Int) (S : ab_S) (m t : Int) : Int := if ¬ ((0 ≤ m ∧ m < n) ∧ (0 ≤ t ∧ t < 12)) then -1 else if t = 0 ∨ S.1 1 t = 0 then -2 else if 20 ≤ km then -3 else km

set_option maxRecDepth 20000 in
set_option maxHeartbeats 4000000 in
theorem sp_X5_gone (M N : fw_F) (L K : fw_G) (hR : Rel M L N K) (m t : Int) : fw_SC mX5_gone [fw_r 0, fw_i m, fw_i t] M L (fun r M2 L2 => r = some (fw_i (an_gone (N 0 2) (N 1 m) (rl_S M N m (N 0 4)) m t)) ∧ ∀ N2 K2, (((((0 ≤ m ∧ m < N 0 2) ∧ (0 ≤ t ∧ t < 12)) ∧ (¬ t = 0 ∧ ¬ (rl_S M N m (N 0 4)).1 1 t = 0) ∧ N 1 m < 20) → ∃ Nx r, rl_mq N K Nx K ∧ md_AP m 2 t 0 0 0 Nx K r N2 K2) ∧ (¬ (((0 ≤ m ∧ m < N 0 2) ∧ (0 ≤ t ∧ t < 12)) ∧ (¬ t = 0 ∧ ¬ (rl_S M N m (N 0 4)).1 1 t = 0) ∧ N 1 m < 20) → rl_mq N K N2 K2)) → Rel M2 L2 N2 K2) := by
  refine fw_SP_of pl_X5_gone (ls := [_, _, _]) rfl (Nat.le_of_ble_eq_true rfl) fun hA hM => ?_
  obtain ⟨ha1, ha2, ha3, ha4, ha5, ha6⟩ := hR.1
  have hn1 := hR.2.1.1.1.1
  have hn2 := hR.2.1.1.1.2.1
  refine fw_aload_n dX5_gone_0 rfl rfl ?_
  refine fw_iload_n dX5_gone_1 rfl rfl ?_
  refine fw_pV mX5_isMachine [_] dX5_gone_2 mv_X5_isMachine lk_5_62 ⟨⟨by decide, by decide⟩, rfl, rfl, rfl, by decide, by decide⟩ ly0_0 ⟨by decide, by decide⟩ rfl rfl (Nat.le_of_ble_eq_true rfl) (sp_X5_isMachine _ _ _) ?_
  refine fw_bifeq 15 dX5_gone_5 (by decide) (fun h5 => ?_) (fun h5 => ?_)
  · skip
    refine fw_iconst dX5_gone_15 ⟨by decide, by decide⟩ ?_
    refine fw_iret dX5_gone_16 ⟨rfl, rfl, rfl⟩ ?_
    refine ⟨(by congr 2; unfold an_gone; (repeat' split) <;> omega), fun N2 K2 h => rl_md hR (h.2 (fun z => by omega))⟩
  · skip
    refine fw_iload_n dX5_gone_8 rfl rfl ?_
    refine fw_pS mX5_isThing [_] dX5_gone_9 mv_X5_isThing lk_5_66 ⟨⟨by decide, by decide⟩, rfl, rfl, rfl, by decide, by decide⟩ rfl rfl (Nat.le_of_ble_eq_true rfl) (sp_X5_isThing _ _ _) ?_
    refine fw_bifne 17 dX5_gone_12 (by decide) (fun h12 => ?_) (fun h12 => ?_)
    · skip
      refine fw_aload_n dX5_gone_17 rfl rfl ?_
      refine fw_iload_n dX5_gone_18 rfl rfl ?_
      refine fw_cV mX5_growNow [_] dX5_gone_19 mv_X5_growNow lk_5_72 ⟨⟨by decide, by decide⟩, rfl, rfl, rfl, by decide, by decide⟩ ly0_0 ⟨by decide, by decide⟩ rfl rfl (Nat.le_of_ble_eq_true rfl) (rl_growNow hR (by omega)) (fun r Ma_ La_ hp hMa_ => ?_)
      obtain ⟨rfl, rfl, g1, g2⟩ := hp
      have hRa := rl_cl hR (fun k a b => ⟨g1 k a, rfl⟩)
      have h4m := hRa.2.1.2.2.2 m (by omega) (by omega)
      have hmkm := hR.2.1.1.1.2.2 m (by omega) (by omega)
      obtain ⟨e0, e1, e2, e3, e4, e5, e6, e7⟩ := g2.1 t (by omega) (by omega)
      have et := ti_there (rl_ti hR m (N 0 4)) (t := t) (by omega)
      refine fw_iload_n dX5_gone_22 rfl rfl ?_
      refine fw_if_eq 37 dX5_gone_23 (by decide) (fun h23 => ?_) (fun h23 => ?_)
      · skip
        refine fw_bipush dX5_gone_37 ⟨by decide, by decide⟩ (by decide) ?_
        refine fw_iret dX5_gone_39 ⟨rfl, rfl, rfl⟩ ?_
        refine ⟨(by congr 2; unfold an_gone; (repeat' split) <;> omega), fun N2 K2 h => rl_md hRa (h.2 (fun z => by omega))⟩
      · skip
        refine fw_aload_n dX5_gone_26 rfl rfl ?_
        refine fw_getr 1 168 rfl dX5_gone_27 ff_5_21 ly0_0 ⟨by decide, by decide⟩ rfl rfl (by decide) ?_
        refine fw_iload_n dX5_gone_30 rfl rfl ?_
        refine fw_pV mX4_isThere [_] dX5_gone_31 mv_X4_isThere lk_5_107 ⟨⟨by decide, by decide⟩, rfl, rfl, rfl, by decide, by decide⟩ ly0_168 ⟨by decide, by decide⟩ rfl rfl (Nat.le_of_ble_eq_true rfl) (sp_X4_isThere _ _ _ (by omega) (by rw [e1]; exact et.1)) ?_
        refine fw_if_ne 40 dX5_gone_34 (by decide) (fun h34 => ?_) (fun h34 => ?_)
        · skip
          refine fw_aload_n dX5_gone_40 rfl rfl ?_
          refine fw_getr 0 1 rfl dX5_gone_41 ff_5_12 ly0_0 ⟨by decide, by decide⟩ rfl rfl (by decide) ?_
          refine fw_iload_n dX5_gone_44 rfl rfl ?_
          refine fw_pV mX1_isFull [_] dX5_gone_45 mv_X1_isFull lk_5_82 ⟨⟨by decide, by decide⟩, rfl, rfl, rfl, by decide, by decide⟩ ly0_1 ⟨by decide, by decide⟩ rfl rfl (Nat.le_of_ble_eq_true rfl) (sp_X1_isFull _ _ _ (by omega)) ?_
          refine fw_bifeq 54 dX5_gone_48 (by decide) (fun h48 => ?_) (fun h48 => ?_)
          · skip
            refine fw_aload_n dX5_gone_54 rfl rfl ?_
            refine fw_getr 0 1 rfl dX5_gone_55 ff_5_12 ly0_0 ⟨by decide, by decide⟩ rfl rfl (by decide) ?_
            refine fw_iload_n dX5_gone_58 rfl rfl ?_
            refine fw_iconst dX5_gone_59 ⟨by decide, by decide⟩ ?_
            refine fw_iload_n dX5_gone_60 rfl rfl ?_
            refine fw_cV mX1_append [_, _, _] dX5_gone_61 mv_X1_append lk_5_85 ⟨⟨by decide, by decide⟩, rfl, rfl, rfl, by decide, by decide⟩ ly0_1 ⟨by decide, by decide⟩ rfl rfl (Nat.le_of_ble_eq_true rfl) (rl_appendC (act := 2) (su := t) hRa (by omega) (by omega)) (fun r Mc_ Lc_ hp hMc_ => ?_)
            have hap := hp
            obtain ⟨rfl, rfl, -⟩ := hp
            have hnum := cl_AP_num hap
            rw [h4m] at hnum
            rw [h4m]
            refine fw_geti 2 rfl dX5_gone_64 ff_5_104 (ly_ch (by omega) (by omega) (by omega)) ⟨by omega, by omega⟩ rfl ?_
            refine fw_iret dX5_gone_67 ⟨rfl, rfl, rfl⟩ ?_
            refine ⟨by rw [hnum]; congr 2; unfold an_gone; (repeat' split) <;> omega, fun N2 K2 h => ?_⟩
            obtain ⟨Nx, rx, hq, hd⟩ := h.1 (by omega)
            have hk := hd.2.1
            exact rl_append_q hRa (by omega) (by omega) ⟨by decide, by omega, fun z => by omega, fun z => by omega, fun z => by omega⟩ hap (fun _ _ => rfl) (fun _ _ => rfl) (fun z => by omega) (fun z => by omega) (fun z => by omega) (fun _ _ => rfl) (fun z => by omega) hq hd (fun k _ => by rw [hk]) (fun y _ => by rw [hk])
          · skip
            refine fw_bipush dX5_gone_51 ⟨by decide, by decide⟩ (by decide) ?_
            refine fw_iret dX5_gone_53 ⟨rfl, rfl, rfl⟩ ?_
            refine ⟨(by congr 2; unfold an_gone; (repeat' split) <;> omega), fun N2 K2 h => rl_md hRa (h.2 (fun z => by omega))⟩
        · skip
          refine fw_bipush dX5_gone_37 ⟨by decide, by decide⟩ (by decide) ?_
          refine fw_iret dX5_gone_39 ⟨rfl, rfl, rfl⟩ ?_
          refine ⟨(by congr 2; unfold an_gone; (repeat' split) <;> omega), fun N2 K2 h => rl_md hRa (h.2 (fun z => by omega))⟩
    · skip
      refine fw_iconst dX5_gone_15 ⟨by decide, by decide⟩ ?_
      refine fw_iret dX5_gone_16 ⟨rfl, rfl, rfl⟩ ?_
      refine ⟨(by congr 2; unfold an_gone; (repeat' split) <;> omega), fun N2 K2 h => rl_md hR (h.2 (fun z => by omega))⟩

set_option maxRecDepth 20000 in
set_option maxHeartbeats 4000000 in
theorem pm_X6_gone (M N : fw_F) (L K : fw_G) (hR : Rel M L N K) (m t : Int) : fw_D mX6_gone 5 [some (fw_r 0), some (fw_i m), some (fw_i t)] [] N K (fun r N2 K2 => r = some (fw_i (an_gone (N 0 2) (N 1 m) (rl_S M N m (N 0 4)) m t)) ∧ (((((0 ≤ m ∧ m < N 0 2) ∧ (0 ≤ t ∧ t < 12)) ∧ (¬ t = 0 ∧ ¬ (rl_S M N m (N 0 4)).1 1 t = 0) ∧ N 1 m < 20) → ∃ Nx r, rl_mq N K Nx K ∧ md_AP m 2 t 0 0 0 Nx K r N2 K2) ∧ (¬ (((0 ≤ m ∧ m < N 0 2) ∧ (0 ≤ t ∧ t < 12)) ∧ (¬ t = 0 ∧ ¬ (rl_S M N m (N 0 4)).1 1 t = 0) ∧ N 1 m < 20) → rl_mq N K N2 K2))) := by
  obtain ⟨ha1, ha2, ha3, ha4, ha5, ha6⟩ := hR.1
  have hn1 := hR.2.1.1.1.1
  have hn2 := hR.2.1.1.1.2.1
  refine fw_aload_n dX6_gone_5 rfl rfl ?_
  refine fw_iload_n dX6_gone_6 rfl rfl ?_
  refine fw_pV mX6_isMachine [_] dX6_gone_7 mv_X6_isMachine lk_6_179 ⟨⟨by decide, by decide⟩, rfl, rfl, rfl, by decide, by decide⟩ ly1_0 ⟨by decide, by decide⟩ rfl rfl (Nat.le_of_ble_eq_true rfl) (sp_X6_isMachine _ _ _ (by omega)) ?_
  refine fw_bifeq 20 dX6_gone_10 (by decide) (fun h10 => ?_) (fun h10 => ?_)
  · skip
    refine fw_iconst dX6_gone_20 ⟨by decide, by decide⟩ ?_
    refine fw_iret dX6_gone_21 ⟨rfl, rfl, rfl⟩ ?_
    refine ⟨(by congr 2; unfold an_gone; (repeat' split) <;> omega), fun z => absurd z (by omega), fun _ => rl_mq_rf N K⟩
  · skip
    refine fw_iload_n dX6_gone_13 rfl rfl ?_
    refine fw_pS mX6_isThing [_] dX6_gone_14 mv_X6_isThing lk_6_182 ⟨⟨by decide, by decide⟩, rfl, rfl, rfl, by decide, by decide⟩ rfl rfl (Nat.le_of_ble_eq_true rfl) (sp_X6_isThing _ _ _) ?_
    refine fw_bifne 22 dX6_gone_17 (by decide) (fun h17 => ?_) (fun h17 => ?_)
    · skip
      refine fw_aload_n dX6_gone_22 rfl rfl ?_
      refine fw_iload_n dX6_gone_23 rfl rfl ?_
      refine fw_cV mX6_tellsNow [_] dX6_gone_24 mv_X6_tellsNow lk_6_176 ⟨⟨by decide, by decide⟩, rfl, rfl, rfl, by decide, by decide⟩ ly1_0 ⟨by decide, by decide⟩ rfl rfl (Nat.le_of_ble_eq_true rfl) (rl_tellsNow hR (by omega)) (fun r Na_ Lb_ hp hNa_ => ?_)
      obtain ⟨rfl, rfl, g1, g2⟩ := hp
      have q1 := g1 1 (by decide)
      have q0 := g1 0 (by decide)
      have q2 := g1 2 (by decide)
      have q4 := g1 4 (by decide)
      have hmkm := hR.2.1.1.1.2.2 m (by omega) (by omega)
      obtain ⟨e0, e1, e2, e3, e4, e6, e7⟩ := g2.1 t (by omega) (by omega)
      refine fw_iload_n dX6_gone_27 rfl rfl ?_
      refine fw_if_eq 40 dX6_gone_28 (by decide) (fun h28 => ?_) (fun h28 => ?_)
      · skip
        refine fw_bipush dX6_gone_40 ⟨by decide, by decide⟩ (by decide) ?_
        refine fw_iret dX6_gone_42 ⟨rfl, rfl, rfl⟩ ?_
        refine ⟨(by congr 2; unfold an_gone; (repeat' split) <;> omega), fun z => absurd z (by omega), fun _ => rl_mq_of g1⟩
      · skip
        refine fw_aload_n dX6_gone_31 rfl rfl ?_
        refine fw_getr 15 11 rfl dX6_gone_32 ff_6_46 ly1_0 ⟨by decide, by decide⟩ rfl rfl (by decide) ?_
        refine fw_iload_n dX6_gone_35 rfl rfl ?_
        refine fw_baload dX6_gone_36 ly1_11 ⟨by decide, by decide⟩ ⟨by omega, by omega⟩ ?_
        refine fw_if_ne 43 dX6_gone_37 (by decide) (fun h37 => ?_) (fun h37 => ?_)
        · skip
          refine fw_aload_n dX6_gone_43 rfl rfl ?_
          refine fw_getr 5 1 rfl dX6_gone_44 ff_6_13 ly1_0 ⟨by decide, by decide⟩ rfl rfl (by decide) ?_
          refine fw_iload_n dX6_gone_47 rfl rfl ?_
          refine fw_iaload dX6_gone_48 ly1_1 ⟨by decide, by decide⟩ ⟨by omega, by omega⟩ ?_
          rw [q1]
          refine fw_bipush dX6_gone_49 ⟨by decide, by decide⟩ (by decide) ?_
          refine fw_icmp_ne 59 dX6_gone_51 (by decide) (fun h51 => ?_) (fun h51 => ?_)
          · skip
            refine fw_aload_n dX6_gone_59 rfl rfl ?_
            refine fw_iload_n dX6_gone_60 rfl rfl ?_
            refine fw_iconst dX6_gone_61 ⟨by decide, by decide⟩ ?_
            refine fw_iload_n dX6_gone_62 rfl rfl ?_
            refine fw_iconst dX6_gone_63 ⟨by decide, by decide⟩ ?_
            refine fw_iconst dX6_gone_64 ⟨by decide, by decide⟩ ?_
            refine fw_iconst dX6_gone_65 ⟨by decide, by decide⟩ ?_
            refine fw_cV mX6_makes [_, _, _, _, _, _] dX6_gone_66 mv_X6_makes lk_6_188 ⟨⟨by decide, by decide⟩, rfl, rfl, rfl, by decide, by decide⟩ ly1_0 ⟨by decide, by decide⟩ rfl rfl (Nat.le_of_ble_eq_true rfl) (rl_makes (wh := 2) (t := t) (into := 0) (nm := 0) (kd := 0) hR (by omega) (by omega) (by rw [q0]) q1 q2 q4) (fun r Nc_ Lc_ hp hNc_ => ?_)
            have had := hp
            obtain ⟨rfl, -⟩ := hp
            refine fw_iret dX6_gone_69 ⟨rfl, rfl, rfl⟩ ?_
            refine ⟨by rw [q1]; congr 2; unfold an_gone; (repeat' split) <;> omega, fun _ => ⟨Na_, _, rl_mq_of g1, had⟩, fun z => absurd (by omega) z⟩
          · skip
            refine fw_bipush dX6_gone_54 ⟨by decide, by decide⟩ (by decide) ?_
            refine fw_goto 69 dX6_gone_56 (by decide) ?_
            refine fw_iret dX6_gone_69 ⟨rfl, rfl, rfl⟩ ?_
            refine ⟨(by congr 2; unfold an_gone; (repeat' split) <;> omega), fun z => absurd z (by omega), fun _ => rl_mq_of g1⟩
        · skip
          refine fw_bipush dX6_gone_40 ⟨by decide, by decide⟩ (by decide) ?_
          refine fw_iret dX6_gone_42 ⟨rfl, rfl, rfl⟩ ?_
          refine ⟨(by congr 2; unfold an_gone; (repeat' split) <;> omega), fun z => absurd z (by omega), fun _ => rl_mq_of g1⟩
    · skip
      refine fw_iconst dX6_gone_20 ⟨by decide, by decide⟩ ?_
      refine fw_iret dX6_gone_21 ⟨rfl, rfl, rfl⟩ ?_
      refine ⟨(by congr 2; unfold an_gone; (repeat' split) <;> omega), fun z => absurd z (by omega), fun _ => rl_mq_rf N K⟩

set_option maxRecDepth 20000 in
set_option maxHeartbeats 4000000 in
theorem sp_X6_gone (M N : fw_F) (L K : fw_G) (hR : Rel M L (fw_upd N 0 0 0) K) (m t : Int) : fw_SD mX6_gone [fw_r 0, fw_i m, fw_i t] N K (fun r N2 K2 => r = some (fw_i (an_gone ((fw_upd N 0 0 0) 0 2) ((fw_upd N 0 0 0) 1 m) (rl_S M (fw_upd N 0 0 0) m ((fw_upd N 0 0 0) 0 4)) m t)) ∧ (((((0 ≤ m ∧ m < (fw_upd N 0 0 0) 0 2) ∧ (0 ≤ t ∧ t < 12)) ∧ (¬ t = 0 ∧ ¬ (rl_S M (fw_upd N 0 0 0) m ((fw_upd N 0 0 0) 0 4)).1 1 t = 0) ∧ (fw_upd N 0 0 0) 1 m < 20) → ∃ Nx r, rl_mq (fw_upd N 0 0 0) K Nx K ∧ md_AP m 2 t 0 0 0 Nx K r N2 K2) ∧ (¬ (((0 ≤ m ∧ m < (fw_upd N 0 0 0) 0 2) ∧ (0 ≤ t ∧ t < 12)) ∧ (¬ t = 0 ∧ ¬ (rl_S M (fw_upd N 0 0 0) m ((fw_upd N 0 0 0) 0 4)).1 1 t = 0) ∧ (fw_upd N 0 0 0) 1 m < 20) → rl_mq (fw_upd N 0 0 0) K N2 K2))) := by
  refine fw_SP_of pl_X6_gone (ls := [_, _, _]) rfl (Nat.le_of_ble_eq_true rfl) fun hA hM => ?_
  refine fw_aload_n dX6_gone_0 rfl rfl ?_
  refine fw_iconst dX6_gone_1 ⟨by decide, by decide⟩ ?_
  refine fw_puti 0 rfl dX6_gone_2 fp_6_106 ly1_0 (by decide) ⟨by decide, by decide⟩ rfl ?_
  exact pm_X6_gone M (fw_upd N 0 0 0) L K hR m t

def an_move (n km : Int) (S : ab_S) (m t f nm : Int) : Int := if ¬ ((0 ≤ m ∧ m < n) ∧ (0 ≤ t ∧ t < 12) ∧ (0 ≤ f ∧ f < 12) ∧ (0 ≤ nm ∧ nm < 10)) then -1 else if ¬ (¬ t = 0 ∧ ¬ S.1 1 t = 0 ∧ (¬ S.1 1 f = 0 ∧ S.1 2 f = 2) ∧ ¬ fw_up (S.1 3) t 12 f = t) then -2 else if 20 ≤ km then -3 else km

set_option maxRecDepth 20000 in
set_option maxHeartbeats 4000000 in
theorem sp_X5_move (M N : fw_F) (L K : fw_G) (hR : Rel M L N K) (m t f nm : Int) : fw_SC mX5_move [fw_r 0, fw_i m, fw_i t, fw_i f, fw_i nm] M L (fun r M2 L2 => r = some (fw_i (an_move (N 0 2) (N 1 m) (rl_S M N m (N 0 4)) m t f nm)) ∧ ∀ N2 K2, (((((0 ≤ m ∧ m < N 0 2) ∧ (0 ≤ t ∧ t < 12) ∧ (0 ≤ f ∧ f < 12) ∧ (0 ≤ nm ∧ nm < 10)) ∧ (¬ t = 0 ∧ ¬ (rl_S M N m (N 0 4)).1 1 t = 0 ∧ (¬ (rl_S M N m (N 0 4)).1 1 f = 0 ∧ (rl_S M N m (N 0 4)).1 2 f = 2) ∧ ¬ fw_up ((rl_S M N m (N 0 4)).1 3) t 12 f = t) ∧ N 1 m < 20) → ∃ Nx r, rl_mq N K Nx K ∧ md_AP m 1 t f nm 0 Nx K r N2 K2) ∧ (¬ (((0 ≤ m ∧ m < N 0 2) ∧ (0 ≤ t ∧ t < 12) ∧ (0 ≤ f ∧ f < 12) ∧ (0 ≤ nm ∧ nm < 10)) ∧ (¬ t = 0 ∧ ¬ (rl_S M N m (N 0 4)).1 1 t = 0 ∧ (¬ (rl_S M N m (N 0 4)).1 1 f = 0 ∧ (rl_S M N m (N 0 4)).1 2 f = 2) ∧ ¬ fw_up ((rl_S M N m (N 0 4)).1 3) t 12 f = t) ∧ N 1 m < 20) → rl_mq N K N2 K2)) → Rel M2 L2 N2 K2) := by
  refine fw_SP_of pl_X5_move (ls := [_, _, _, _, _]) rfl (Nat.le_of_ble_eq_true rfl) fun hA hM => ?_
  obtain ⟨ha1, ha2, ha3, ha4, ha5, ha6⟩ := hR.1
  have hn1 := hR.2.1.1.1.1
  have hn2 := hR.2.1.1.1.2.1
  refine fw_aload_n dX5_move_0 rfl rfl ?_
  refine fw_iload_n dX5_move_1 rfl rfl ?_
  refine fw_pV mX5_isMachine [_] dX5_move_2 mv_X5_isMachine lk_5_62 ⟨⟨by decide, by decide⟩, rfl, rfl, rfl, by decide, by decide⟩ ly0_0 ⟨by decide, by decide⟩ rfl rfl (Nat.le_of_ble_eq_true rfl) (sp_X5_isMachine _ _ _) ?_
  refine fw_bifeq 30 dX5_move_5 (by decide) (fun h5 => ?_) (fun h5 => ?_)
  · skip
    refine fw_iconst dX5_move_30 ⟨by decide, by decide⟩ ?_
    refine fw_iret dX5_move_31 ⟨rfl, rfl, rfl⟩ ?_
    refine ⟨(by congr 2; unfold an_move; (repeat' split) <;> omega), fun N2 K2 h => rl_md hR (h.2 (fun z => by omega))⟩
  · skip
    refine fw_iload_n dX5_move_8 rfl rfl ?_
    refine fw_pS mX5_isThing [_] dX5_move_9 mv_X5_isThing lk_5_66 ⟨⟨by decide, by decide⟩, rfl, rfl, rfl, by decide, by decide⟩ rfl rfl (Nat.le_of_ble_eq_true rfl) (sp_X5_isThing _ _ _) ?_
    refine fw_bifeq 30 dX5_move_12 (by decide) (fun h12 => ?_) (fun h12 => ?_)
    · skip
      refine fw_iconst dX5_move_30 ⟨by decide, by decide⟩ ?_
      refine fw_iret dX5_move_31 ⟨rfl, rfl, rfl⟩ ?_
      refine ⟨(by congr 2; unfold an_move; (repeat' split) <;> omega), fun N2 K2 h => rl_md hR (h.2 (fun z => by omega))⟩
    · skip
      refine fw_iload_n dX5_move_15 rfl rfl ?_
      refine fw_pS mX5_isThing [_] dX5_move_16 mv_X5_isThing lk_5_66 ⟨⟨by decide, by decide⟩, rfl, rfl, rfl, by decide, by decide⟩ rfl rfl (Nat.le_of_ble_eq_true rfl) (sp_X5_isThing _ _ _) ?_
      refine fw_bifeq 30 dX5_move_19 (by decide) (fun h19 => ?_) (fun h19 => ?_)
      · skip
        refine fw_iconst dX5_move_30 ⟨by decide, by decide⟩ ?_
        refine fw_iret dX5_move_31 ⟨rfl, rfl, rfl⟩ ?_
        refine ⟨(by congr 2; unfold an_move; (repeat' split) <;> omega), fun N2 K2 h => rl_md hR (h.2 (fun z => by omega))⟩
      · skip
        refine fw_iload dX5_move_22 rfl ?_
        refine fw_pS mX5_isOwnName [_] dX5_move_24 mv_X5_isOwnName lk_5_69 ⟨⟨by decide, by decide⟩, rfl, rfl, rfl, by decide, by decide⟩ rfl rfl (Nat.le_of_ble_eq_true rfl) (sp_X5_isOwnName _ _ _) ?_
        refine fw_bifne 32 dX5_move_27 (by decide) (fun h27 => ?_) (fun h27 => ?_)
        · skip
          refine fw_aload_n dX5_move_32 rfl rfl ?_
          refine fw_iload_n dX5_move_33 rfl rfl ?_
          refine fw_cV mX5_growNow [_] dX5_move_34 mv_X5_growNow lk_5_72 ⟨⟨by decide, by decide⟩, rfl, rfl, rfl, by decide, by decide⟩ ly0_0 ⟨by decide, by decide⟩ rfl rfl (Nat.le_of_ble_eq_true rfl) (rl_growNow hR (by omega)) (fun r Ma_ La_ hp hMa_ => ?_)
          obtain ⟨rfl, rfl, g1, g2⟩ := hp
          have hRa := rl_cl hR (fun k a b => ⟨g1 k a, rfl⟩)
          have h4m := hRa.2.1.2.2.2 m (by omega) (by omega)
          have hmkm := hR.2.1.1.1.2.2 m (by omega) (by omega)
          obtain ⟨e0, e1, e2, e3, -⟩ := g2.1 t (by omega) (by omega)
          obtain ⟨f0, f1, f2, f3, -⟩ := g2.1 f (by omega) (by omega)
          have hac := (rl_ti hR m (N 0 4)).2.2.1.1
          have hup := fun u (u0 : 0 ≤ u) (u1 : u < 12) => (g2.1 u u0 u1).2.2.2.1
          refine fw_aload_n dX5_move_37 rfl rfl ?_
          refine fw_getr 1 168 rfl dX5_move_38 ff_5_21 ly0_0 ⟨by decide, by decide⟩ rfl rfl (by decide) ?_
          refine fw_iload_n dX5_move_41 rfl rfl ?_
          refine fw_iload_n dX5_move_42 rfl rfl ?_
          refine fw_pV mX4_mayMove [_, _] dX5_move_43 mv_X4_mayMove lk_5_100 ⟨⟨by decide, by decide⟩, rfl, rfl, rfl, by decide, by decide⟩ ly0_168 ⟨by decide, by decide⟩ rfl rfl (Nat.le_of_ble_eq_true rfl) (sp_X4_mayMove _ _ _ _ (fun u u0 u1 => by rw [hup u u0 u1]; exact hac.1 u u0 u1) (by omega) (by omega)) ?_
          rw [e1, f1, f2, ab_up_congr hac hup _ 12 f (by omega) (by omega)]
          refine fw_bifne 52 dX5_move_46 (by decide) (fun h46 => ?_) (fun h46 => ?_)
          · skip
            refine fw_aload_n dX5_move_52 rfl rfl ?_
            refine fw_getr 0 1 rfl dX5_move_53 ff_5_12 ly0_0 ⟨by decide, by decide⟩ rfl rfl (by decide) ?_
            refine fw_iload_n dX5_move_56 rfl rfl ?_
            refine fw_pV mX1_isFull [_] dX5_move_57 mv_X1_isFull lk_5_82 ⟨⟨by decide, by decide⟩, rfl, rfl, rfl, by decide, by decide⟩ ly0_1 ⟨by decide, by decide⟩ rfl rfl (Nat.le_of_ble_eq_true rfl) (sp_X1_isFull _ _ _ (by omega)) ?_
            refine fw_bifeq 66 dX5_move_60 (by decide) (fun h60 => ?_) (fun h60 => ?_)
            · skip
              refine fw_aload_n dX5_move_66 rfl rfl ?_
              refine fw_getr 0 1 rfl dX5_move_67 ff_5_12 ly0_0 ⟨by decide, by decide⟩ rfl rfl (by decide) ?_
              refine fw_iload_n dX5_move_70 rfl rfl ?_
              refine fw_iconst dX5_move_71 ⟨by decide, by decide⟩ ?_
              refine fw_iload_n dX5_move_72 rfl rfl ?_
              refine fw_cV mX1_append [_, _, _] dX5_move_73 mv_X1_append lk_5_85 ⟨⟨by decide, by decide⟩, rfl, rfl, rfl, by decide, by decide⟩ ly0_1 ⟨by decide, by decide⟩ rfl rfl (Nat.le_of_ble_eq_true rfl) (rl_appendC (act := 1) (su := t) hRa (by omega) (by omega)) (fun r Mc_ Lc_ hp hMc_ => ?_)
              have hap := hp
              obtain ⟨rfl, rfl, -⟩ := hp
              have hnum := cl_AP_num hap
              rw [h4m] at hnum
              rw [h4m]
              refine fw_astore (ls2 := [_, _, _, _, _, _]) dX5_move_76 (by decide) rfl ?_
              refine fw_aload dX5_move_78 rfl ?_
              refine fw_iload_n dX5_move_80 rfl rfl ?_
              refine fw_puti 8 rfl dX5_move_81 fp_5_94 (ly_ch (by omega) (by omega) (by omega)) (by decide) ⟨by omega, by omega⟩ rfl ?_
              refine fw_aload dX5_move_84 rfl ?_
              refine fw_iload dX5_move_86 rfl ?_
              refine fw_puti 9 rfl dX5_move_88 fp_5_97 (ly_ch (by omega) (by omega) (by omega)) (by decide) ⟨by omega, by omega⟩ rfl ?_
              refine fw_aload dX5_move_91 rfl ?_
              refine fw_geti 2 rfl dX5_move_93 ff_5_104 (ly_ch (by omega) (by omega) (by omega)) ⟨by omega, by omega⟩ rfl ?_
              refine fw_iret dX5_move_96 ⟨rfl, rfl, rfl⟩ ?_
              refine ⟨by rw [fw_updjn (by decide), fw_updjn (by decide), hnum]; congr 2; unfold an_move; (repeat' split) <;> omega, fun N2 K2 h => ?_⟩
              obtain ⟨Nx, rx, hq, hd⟩ := h.1 (by omega)
              have hk := hd.2.1
              exact rl_append_q hRa (by omega) (by omega) ⟨by decide, by omega, fun _ => by omega, fun z => by omega, fun z => by omega⟩ hap (fun k a => by rw [fw_updne a, fw_updne a]) (fun f a => by rw [fw_updjn (by omega), fw_updjn (by omega)]) (fun z => by omega) (fun _ => ⟨by rw [fw_updjn (by decide), fw_updj], fw_updj⟩) (fun z => by omega) (fun _ _ => rfl) (fun z => by omega) hq hd (fun k _ => by rw [hk]) (fun y _ => by rw [hk])
            · skip
              refine fw_bipush dX5_move_63 ⟨by decide, by decide⟩ (by decide) ?_
              refine fw_iret dX5_move_65 ⟨rfl, rfl, rfl⟩ ?_
              refine ⟨(by congr 2; unfold an_move; (repeat' split) <;> omega), fun N2 K2 h => rl_md hRa (h.2 (fun z => by omega))⟩
          · skip
            refine fw_bipush dX5_move_49 ⟨by decide, by decide⟩ (by decide) ?_
            refine fw_iret dX5_move_51 ⟨rfl, rfl, rfl⟩ ?_
            refine ⟨(by congr 2; unfold an_move; (repeat' split) <;> omega), fun N2 K2 h => rl_md hRa (h.2 (fun z => by omega))⟩
        · skip
          refine fw_iconst dX5_move_30 ⟨by decide, by decide⟩ ?_
          refine fw_iret dX5_move_31 ⟨rfl, rfl, rfl⟩ ?_
          refine ⟨(by congr 2; unfold an_move; (repeat' split) <;> omega), fun N2 K2 h => rl_md hR (h.2 (fun z => by omega))⟩

set_option maxRecDepth 20000 in
set_option maxHeartbeats 4000000 in
theorem pm_X6_move (M N : fw_F) (L K : fw_G) (hR : Rel M L N K) (m t f nm : Int) : fw_D mX6_move 5 [some (fw_r 0), some (fw_i m), some (fw_i t), some (fw_i f), some (fw_i nm)] [] N K (fun r N2 K2 => r = some (fw_i (an_move (N 0 2) (N 1 m) (rl_S M N m (N 0 4)) m t f nm)) ∧ (((((0 ≤ m ∧ m < N 0 2) ∧ (0 ≤ t ∧ t < 12) ∧ (0 ≤ f ∧ f < 12) ∧ (0 ≤ nm ∧ nm < 10)) ∧ (¬ t = 0 ∧ ¬ (rl_S M N m (N 0 4)).1 1 t = 0 ∧ (¬ (rl_S M N m (N 0 4)).1 1 f = 0 ∧ (rl_S M N m (N 0 4)).1 2 f = 2) ∧ ¬ fw_up ((rl_S M N m (N 0 4)).1 3) t 12 f = t) ∧ N 1 m < 20) → ∃ Nx r, rl_mq N K Nx K ∧ md_AP m 1 t f nm 0 Nx K r N2 K2) ∧ (¬ (((0 ≤ m ∧ m < N 0 2) ∧ (0 ≤ t ∧ t < 12) ∧ (0 ≤ f ∧ f < 12) ∧ (0 ≤ nm ∧ nm < 10)) ∧ (¬ t = 0 ∧ ¬ (rl_S M N m (N 0 4)).1 1 t = 0 ∧ (¬ (rl_S M N m (N 0 4)).1 1 f = 0 ∧ (rl_S M N m (N 0 4)).1 2 f = 2) ∧ ¬ fw_up ((rl_S M N m (N 0 4)).1 3) t 12 f = t) ∧ N 1 m < 20) → rl_mq N K N2 K2))) := by
  obtain ⟨ha1, ha2, ha3, ha4, ha5, ha6⟩ := hR.1
  have hn1 := hR.2.1.1.1.1
  have hn2 := hR.2.1.1.1.2.1
  refine fw_aload_n dX6_move_5 rfl rfl ?_
  refine fw_iload_n dX6_move_6 rfl rfl ?_
  refine fw_pV mX6_isMachine [_] dX6_move_7 mv_X6_isMachine lk_6_179 ⟨⟨by decide, by decide⟩, rfl, rfl, rfl, by decide, by decide⟩ ly1_0 ⟨by decide, by decide⟩ rfl rfl (Nat.le_of_ble_eq_true rfl) (sp_X6_isMachine _ _ _ (by omega)) ?_
  refine fw_bifeq 38 dX6_move_10 (by decide) (fun h10 => ?_) (fun h10 => ?_)
  · skip
    refine fw_iconst dX6_move_38 ⟨by decide, by decide⟩ ?_
    refine fw_iret dX6_move_39 ⟨rfl, rfl, rfl⟩ ?_
    refine ⟨(by congr 2; unfold an_move; (repeat' split) <;> omega), fun z => absurd z (by omega), fun _ => rl_mq_rf N K⟩
  · skip
    refine fw_iload_n dX6_move_13 rfl rfl ?_
    refine fw_pS mX6_isThing [_] dX6_move_14 mv_X6_isThing lk_6_182 ⟨⟨by decide, by decide⟩, rfl, rfl, rfl, by decide, by decide⟩ rfl rfl (Nat.le_of_ble_eq_true rfl) (sp_X6_isThing _ _ _) ?_
    refine fw_bifeq 38 dX6_move_17 (by decide) (fun h17 => ?_) (fun h17 => ?_)
    · skip
      refine fw_iconst dX6_move_38 ⟨by decide, by decide⟩ ?_
      refine fw_iret dX6_move_39 ⟨rfl, rfl, rfl⟩ ?_
      refine ⟨(by congr 2; unfold an_move; (repeat' split) <;> omega), fun z => absurd z (by omega), fun _ => rl_mq_rf N K⟩
    · skip
      refine fw_iload_n dX6_move_20 rfl rfl ?_
      refine fw_pS mX6_isThing [_] dX6_move_21 mv_X6_isThing lk_6_182 ⟨⟨by decide, by decide⟩, rfl, rfl, rfl, by decide, by decide⟩ rfl rfl (Nat.le_of_ble_eq_true rfl) (sp_X6_isThing _ _ _) ?_
      refine fw_bifeq 38 dX6_move_24 (by decide) (fun h24 => ?_) (fun h24 => ?_)
      · skip
        refine fw_iconst dX6_move_38 ⟨by decide, by decide⟩ ?_
        refine fw_iret dX6_move_39 ⟨rfl, rfl, rfl⟩ ?_
        refine ⟨(by congr 2; unfold an_move; (repeat' split) <;> omega), fun z => absurd z (by omega), fun _ => rl_mq_rf N K⟩
      · skip
        refine fw_iload dX6_move_27 rfl ?_
        refine fw_iconst dX6_move_29 ⟨by decide, by decide⟩ ?_
        refine fw_bipush dX6_move_30 ⟨by decide, by decide⟩ (by decide) ?_
        refine fw_pS mX6_in [_, _, _] dX6_move_32 mv_X6_in lk_6_115 ⟨⟨by decide, by decide⟩, rfl, rfl, rfl, by decide, by decide⟩ rfl rfl (Nat.le_of_ble_eq_true rfl) (sp_X6_in _ _ _ _ _) ?_
        refine fw_bifne 40 dX6_move_35 (by decide) (fun h35 => ?_) (fun h35 => ?_)
        · skip
          refine fw_aload_n dX6_move_40 rfl rfl ?_
          refine fw_iload_n dX6_move_41 rfl rfl ?_
          refine fw_cV mX6_tellsNow [_] dX6_move_42 mv_X6_tellsNow lk_6_176 ⟨⟨by decide, by decide⟩, rfl, rfl, rfl, by decide, by decide⟩ ly1_0 ⟨by decide, by decide⟩ rfl rfl (Nat.le_of_ble_eq_true rfl) (rl_tellsNow hR (by omega)) (fun r Na_ Lb_ hp hNa_ => ?_)
          obtain ⟨rfl, rfl, g1, g2⟩ := hp
          have q1 := g1 1 (by decide)
          have q0 := g1 0 (by decide)
          have q2 := g1 2 (by decide)
          have q4 := g1 4 (by decide)
          have hmkm := hR.2.1.1.1.2.2 m (by omega) (by omega)
          obtain ⟨e0, e1, e2, e3, -⟩ := g2.1 t (by omega) (by omega)
          have hfd := md_isF g2.1 (rl_ti hR m (N 0 4)) (u := f) (by omega) (by omega)
          unfold ab_isF at hfd
          have hac := (rl_ti hR m (N 0 4)).2.2.1.1
          have hup := fun u (u0 : 0 ≤ u) (u1 : u < 12) => (g2.1 u u0 u1).2.2.2.1
          refine fw_iload_n dX6_move_45 rfl rfl ?_
          refine fw_if_eq 75 dX6_move_46 (by decide) (fun h46 => ?_) (fun h46 => ?_)
          · skip
            refine fw_bipush dX6_move_75 ⟨by decide, by decide⟩ (by decide) ?_
            refine fw_iret dX6_move_77 ⟨rfl, rfl, rfl⟩ ?_
            refine ⟨(by congr 2; unfold an_move; (repeat' split) <;> omega), fun z => absurd z (by omega), fun _ => rl_mq_of g1⟩
          · skip
            refine fw_aload_n dX6_move_49 rfl rfl ?_
            refine fw_getr 15 11 rfl dX6_move_50 ff_6_46 ly1_0 ⟨by decide, by decide⟩ rfl rfl (by decide) ?_
            refine fw_iload_n dX6_move_53 rfl rfl ?_
            refine fw_baload dX6_move_54 ly1_11 ⟨by decide, by decide⟩ ⟨by omega, by omega⟩ ?_
            refine fw_if_eq 75 dX6_move_55 (by decide) (fun h55 => ?_) (fun h55 => ?_)
            · skip
              refine fw_bipush dX6_move_75 ⟨by decide, by decide⟩ (by decide) ?_
              refine fw_iret dX6_move_77 ⟨rfl, rfl, rfl⟩ ?_
              refine ⟨(by congr 2; unfold an_move; (repeat' split) <;> omega), fun z => absurd z (by omega), fun _ => rl_mq_of g1⟩
            · skip
              refine fw_aload_n dX6_move_58 rfl rfl ?_
              refine fw_iload_n dX6_move_59 rfl rfl ?_
              refine fw_pV mX6_isFolder [_] dX6_move_60 mv_X6_isFolder lk_6_137 ⟨⟨by decide, by decide⟩, rfl, rfl, rfl, by decide, by decide⟩ ly1_0 ⟨by decide, by decide⟩ rfl rfl (Nat.le_of_ble_eq_true rfl) (sp_X6_isFolder _ _ _ (by omega)) ?_
              refine fw_bifeq 75 dX6_move_63 (by decide) (fun h63 => ?_) (fun h63 => ?_)
              · skip
                refine fw_bipush dX6_move_75 ⟨by decide, by decide⟩ (by decide) ?_
                refine fw_iret dX6_move_77 ⟨rfl, rfl, rfl⟩ ?_
                refine ⟨(by congr 2; unfold an_move; (repeat' split) <;> omega), fun z => absurd z (by omega), fun _ => rl_mq_of g1⟩
              · skip
                refine fw_aload_n dX6_move_66 rfl rfl ?_
                refine fw_iload_n dX6_move_67 rfl rfl ?_
                refine fw_iload_n dX6_move_68 rfl rfl ?_
                refine fw_pV mX6_liesIn [_, _] dX6_move_69 mv_X6_liesIn lk_6_130 ⟨⟨by decide, by decide⟩, rfl, rfl, rfl, by decide, by decide⟩ ly1_0 ⟨by decide, by decide⟩ rfl rfl (Nat.le_of_ble_eq_true rfl) (sp_X6_liesIn _ _ _ _ (ab_ac_congr hac hup) (by omega)) ?_
                rw [ab_up_congr hac hup _ 12 f (by omega) (by omega)]
                refine fw_bifeq 78 dX6_move_72 (by decide) (fun h72 => ?_) (fun h72 => ?_)
                · skip
                  refine fw_aload_n dX6_move_78 rfl rfl ?_
                  refine fw_getr 5 1 rfl dX6_move_79 ff_6_13 ly1_0 ⟨by decide, by decide⟩ rfl rfl (by decide) ?_
                  refine fw_iload_n dX6_move_82 rfl rfl ?_
                  refine fw_iaload dX6_move_83 ly1_1 ⟨by decide, by decide⟩ ⟨by omega, by omega⟩ ?_
                  rw [q1]
                  refine fw_bipush dX6_move_84 ⟨by decide, by decide⟩ (by decide) ?_
                  refine fw_icmp_ne 94 dX6_move_86 (by decide) (fun h86 => ?_) (fun h86 => ?_)
                  · skip
                    refine fw_aload_n dX6_move_94 rfl rfl ?_
                    refine fw_iload_n dX6_move_95 rfl rfl ?_
                    refine fw_iconst dX6_move_96 ⟨by decide, by decide⟩ ?_
                    refine fw_iload_n dX6_move_97 rfl rfl ?_
                    refine fw_iload_n dX6_move_98 rfl rfl ?_
                    refine fw_iload dX6_move_99 rfl ?_
                    refine fw_iconst dX6_move_101 ⟨by decide, by decide⟩ ?_
                    refine fw_cV mX6_makes [_, _, _, _, _, _] dX6_move_102 mv_X6_makes lk_6_188 ⟨⟨by decide, by decide⟩, rfl, rfl, rfl, by decide, by decide⟩ ly1_0 ⟨by decide, by decide⟩ rfl rfl (Nat.le_of_ble_eq_true rfl) (rl_makes (wh := 1) (t := t) (into := f) (nm := nm) (kd := 0) hR (by omega) (by omega) (by rw [q0]) q1 q2 q4) (fun r Nc_ Lc_ hp hNc_ => ?_)
                    have had := hp
                    obtain ⟨rfl, -⟩ := hp
                    refine fw_iret dX6_move_105 ⟨rfl, rfl, rfl⟩ ?_
                    refine ⟨by rw [q1]; congr 2; unfold an_move; (repeat' split) <;> omega, fun _ => ⟨Na_, _, rl_mq_of g1, had⟩, fun z => absurd (by omega) z⟩
                  · skip
                    refine fw_bipush dX6_move_89 ⟨by decide, by decide⟩ (by decide) ?_
                    refine fw_goto 105 dX6_move_91 (by decide) ?_
                    refine fw_iret dX6_move_105 ⟨rfl, rfl, rfl⟩ ?_
                    refine ⟨(by congr 2; unfold an_move; (repeat' split) <;> omega), fun z => absurd z (by omega), fun _ => rl_mq_of g1⟩
                · skip
                  refine fw_bipush dX6_move_75 ⟨by decide, by decide⟩ (by decide) ?_
                  refine fw_iret dX6_move_77 ⟨rfl, rfl, rfl⟩ ?_
                  refine ⟨(by congr 2; unfold an_move; (repeat' split) <;> omega), fun z => absurd z (by omega), fun _ => rl_mq_of g1⟩
        · skip
          refine fw_iconst dX6_move_38 ⟨by decide, by decide⟩ ?_
          refine fw_iret dX6_move_39 ⟨rfl, rfl, rfl⟩ ?_
          refine ⟨(by congr 2; unfold an_move; (repeat' split) <;> omega), fun z => absurd z (by omega), fun _ => rl_mq_rf N K⟩

set_option maxRecDepth 20000 in
set_option maxHeartbeats 4000000 in
theorem sp_X6_move (M N : fw_F) (L K : fw_G) (hR : Rel M L (fw_upd N 0 0 0) K) (m t f nm : Int) : fw_SD mX6_move [fw_r 0, fw_i m, fw_i t, fw_i f, fw_i nm] N K (fun r N2 K2 => r = some (fw_i (an_move ((fw_upd N 0 0 0) 0 2) ((fw_upd N 0 0 0) 1 m) (rl_S M (fw_upd N 0 0 0) m ((fw_upd N 0 0 0) 0 4)) m t f nm)) ∧ (((((0 ≤ m ∧ m < (fw_upd N 0 0 0) 0 2) ∧ (0 ≤ t ∧ t < 12) ∧ (0 ≤ f ∧ f < 12) ∧ (0 ≤ nm ∧ nm < 10)) ∧ (¬ t = 0 ∧ ¬ (rl_S M (fw_upd N 0 0 0) m ((fw_upd N 0 0 0) 0 4)).1 1 t = 0 ∧ (¬ (rl_S M (fw_upd N 0 0 0) m ((fw_upd N 0 0 0) 0 4)).1 1 f = 0 ∧ (rl_S M (fw_upd N 0 0 0) m ((fw_upd N 0 0 0) 0 4)).1 2 f = 2) ∧ ¬ fw_up ((rl_S M (fw_upd N 0 0 0) m ((fw_upd N 0 0 0) 0 4)).1 3) t 12 f = t) ∧ (fw_upd N 0 0 0) 1 m < 20) → ∃ Nx r, rl_mq (fw_upd N 0 0 0) K Nx K ∧ md_AP m 1 t f nm 0 Nx K r N2 K2) ∧ (¬ (((0 ≤ m ∧ m < (fw_upd N 0 0 0) 0 2) ∧ (0 ≤ t ∧ t < 12) ∧ (0 ≤ f ∧ f < 12) ∧ (0 ≤ nm ∧ nm < 10)) ∧ (¬ t = 0 ∧ ¬ (rl_S M (fw_upd N 0 0 0) m ((fw_upd N 0 0 0) 0 4)).1 1 t = 0 ∧ (¬ (rl_S M (fw_upd N 0 0 0) m ((fw_upd N 0 0 0) 0 4)).1 1 f = 0 ∧ (rl_S M (fw_upd N 0 0 0) m ((fw_upd N 0 0 0) 0 4)).1 2 f = 2) ∧ ¬ fw_up ((rl_S M (fw_upd N 0 0 0) m ((fw_upd N 0 0 0) 0 4)).1 3) t 12 f = t) ∧ (fw_upd N 0 0 0) 1 m < 20) → rl_mq (fw_upd N 0 0 0) K N2 K2))) := by
  refine fw_SP_of pl_X6_move (ls := [_, _, _, _, _]) rfl (Nat.le_of_ble_eq_true rfl) fun hA hM => ?_
  refine fw_aload_n dX6_move_0 rfl rfl ?_
  refine fw_iconst dX6_move_1 ⟨by decide, by decide⟩ ?_
  refine fw_puti 0 rfl dX6_move_2 fp_6_106 ly1_0 (by decide) ⟨by decide, by decide⟩ rfl ?_
  exact pm_X6_move M (fw_upd N 0 0 0) L K hR m t f nm
