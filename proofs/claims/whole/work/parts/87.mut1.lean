/-! parts of the relation that stay -/
theorem rl_g_c {M N M2 N2 : fw_F} {L K L2 K2 : fw_G} (h : rl_g M L N K) (h3 : M2 3 = M 3) (h16 : M2 1 6 = M 1 6) (h4 : M2 4 = M 4) (hc : ∀ k, 8 ≤ k → k < 168 → M2 k = M k ∧ L2 k = L k) (n02 : N2 0 2 = N 0 2) (n1 : N2 1 = N 1) (n2 : N2 2 = N 2) (k3 : K2 3 = K 3) : rl_g M2 L2 N2 K2 := by
  obtain ⟨g1, g2, g3, g4⟩ := h
  unfold rl_g
  rw [h3, h16, h4, n02, n1, md_G_of n2, k3]
  refine ⟨g1, cl_G_of g2 (fun k a b => (hc k a b).1), fun x hx hx3 => ?_, g4⟩
  rw [(hc (8 + 2 * x) (by have := hx.1; omega) (by have := hx.2.1; omega)).2]
  exact g3 x hx hx3
theorem rl_k_c {M N M2 N2 : fw_F} (h : rl_k M N) (h5 : M2 5 = M 5) (n04 : N2 0 4 = N 0 4) (n1 : N2 1 = N 1) (n4 : N2 4 = N 4) (n5 : N2 5 = N 5) : rl_k M2 N2 := by
  have e : ∀ d m p, rl_kn N2 d m p = rl_kn N d m p := fun d m p => by unfold rl_kn; rw [n04, n4, n5]
  unfold rl_k
  rw [h5, n04, n1, n4]
  exact ⟨fun d m p a b c d' e' f => by rw [e]; exact h.1 d m p a b c d' e' f, h.2⟩
theorem rl_o_c {M N M2 N2 : fw_F} (h : rl_o M N) (h6 : M2 6 = M 6) (h7 : M2 7 = M 7) (h3 : M2 3 = M 3) (h16 : M2 1 6 = M 1 6) (n2 : N2 2 = N 2) (n6 : N2 6 = N 6) : rl_o M2 N2 := by
  unfold rl_o
  rw [h6, h7, h3, h16, md_G_of n2, n6]
  exact h
theorem rl_p_c {M N M2 N2 : fw_F} {L K L2 K2 : fw_G} (h : rl_p M L N K) (hc : ∀ k, 179 ≤ k → k < 191 → M2 k = M k ∧ L2 k = L k) (h197 : M2 197 = M 197) (n20 : N2 20 = N 20) (n21 : N2 21 = N 21) (n23 : N2 23 = N 23) (k22 : K2 22 = K 22) : rl_p M2 L2 N2 K2 := by
  obtain ⟨P, Q, hPQ⟩ := h
  refine ⟨P, Q, fun m a b => ?_⟩
  rw [h197, n20]
  obtain ⟨⟨p1, p2⟩, p3⟩ := hPQ m a b
  exact ⟨⟨ps_at_fr p1 (hc _ (by omega) (by omega)).1 (hc _ (by omega) (by omega)).1 (hc _ (by omega) (by omega)).2, pm_at_fr p2 n21 n23 k22⟩, p3⟩
theorem rl_s_c {M N M2 N2 : fw_F} (h : rl_s M N) (h198 : M2 198 4 = M 198 4) (h199 : M2 199 = M 199) (h200 : M2 200 = M 200) (h201 : M2 201 = M 201) (h202 : M2 202 = M 202) (n31 : N2 0 31 = N 0 31) (n26 : N2 26 = N 26) (n27 : N2 27 = N 27) (n28 : N2 28 = N 28) (n29 : N2 29 = N 29) : rl_s M2 N2 := by
  unfold rl_s
  rw [h198, h199, h200, h201, h202, n31, n26, n27, n28, n29]
  exact h
theorem ab_LF_ap {G : fw_F} {O ap ap' : Int → Int} (h : ∀ p, 0 ≤ p → p < 4 → ap p = ap' p) : ∀ (j : Nat) (p : Int), 0 ≤ p → p < 4 → ab_LF G O ap j p = ab_LF G O ap' j p := by
  intro j
  induction j with
  | zero => intro p a b; show (if ap p = -9 then 20 else ap p) = if ap' p = -9 then 20 else ap' p; rw [h p a b]
  | succ j ih =>
    intro p a b
    rw [ab_LF_s, ab_LF_s]
    unfold ab_sd
    rw [ih 0 (by decide) (by decide), ih 1 (by decide) (by decide), ih 2 (by decide) (by decide), ih 3 (by decide) (by decide), ih p a b]

theorem rl_rules {M N : fw_F} {L K : fw_G} (hR : Rel M L N K) {b : Int} (hb : 0 ≤ b ∧ b ≤ 3) : Rel (fw_upd M 0 8 b) L (fw_upd N 0 3 b) K := by
  obtain ⟨ha, hg, hk, ho, hp, hs⟩ := hR
  refine ⟨?_, rl_g_c hg (fw_updne (by decide)) (by rw [fw_updne (by decide)]) (fw_updne (by decide)) (fun k a b => ⟨fw_updne (by omega), rfl⟩) (fw_updjn (by decide)) (fw_updne (by decide)) (fw_updne (by decide)) rfl, rl_k_c hk (fw_updne (by decide)) (fw_updjn (by decide)) (fw_updne (by decide)) (fw_updne (by decide)) (fw_updne (by decide)), rl_o_c ho (fw_updne (by decide)) (fw_updne (by decide)) (fw_updne (by decide)) (by rw [fw_updne (by decide)]) (fw_updne (by decide)) (fw_updne (by decide)), rl_p_c hp (fun k a b => ⟨fw_updne (by omega), rfl⟩) (fw_updne (by decide)) (fw_updne (by decide)) (fw_updne (by decide)) (fw_updne (by decide)) rfl, rl_s_c hs (by rw [fw_updne (by decide)]) (fw_updne (by decide)) (fw_updne (by decide)) (fw_updne (by decide)) (fw_updne (by decide)) (fw_updjn (by decide)) (fw_updne (by decide)) (fw_updne (by decide)) (fw_updne (by decide)) (fw_updne (by decide))⟩
  obtain ⟨a1, a2, a3, a4, a5, a6⟩ := ha
  refine ⟨?_, ?_, a3, ?_, ?_, ?_⟩
  · rw [fw_updjn (by decide), fw_updjn (by decide)]; exact a1
  · rw [fw_updj, fw_updj]
  · rw [fw_updne (by decide), fw_updjn (by decide)]; exact a4
  · rw [fw_updjn (by decide)]; exact a5
  · rw [fw_updj]; exact hb

set_option maxRecDepth 20000 in
set_option maxHeartbeats 4000000 in
theorem sp_X5_rules (M N : fw_F) (L K : fw_G) (hR : Rel M L N K) (b : Int) : fw_SC mX5_rules [fw_r 0, fw_i b] M L (fun r M2 L2 => r = some (fw_i (if 0 ≤ b ∧ b ≤ 3 then N 0 3 else -1)) ∧ ∀ N2 K2, (K2 = K ∧ N2 = (if 0 ≤ b ∧ b ≤ 3 then fw_upd N 0 3 b else N)) → Rel M2 L2 N2 K2) := by
  refine fw_SP_of pl_X5_rules (ls := [_, _]) rfl (Nat.le_of_ble_eq_true rfl) fun hA hM => ?_
  obtain ⟨ha1, ha2, ha3, ha4, ha5, ha6⟩ := hR.1
  have hn1 := hR.2.1.1.1.1
  have hn2 := hR.2.1.1.1.2.1
  refine fw_iload_n dX5_rules_0 rfl rfl ?_
  refine fw_if_lt 9 dX5_rules_1 (by decide) (fun h1 => ?_) (fun h1 => ?_)
  · skip
    refine fw_iconst dX5_rules_9 ⟨by decide, by decide⟩ ?_
    refine fw_iret dX5_rules_10 ⟨rfl, rfl, rfl⟩ ?_
    refine ⟨by rw [if_neg (by omega)], fun N2 K2 h => ?_⟩
    rw [h.1, h.2, if_neg (by omega)]; exact hR
  · skip
    refine fw_iload_n dX5_rules_4 rfl rfl ?_
    refine fw_iconst dX5_rules_5 ⟨by decide, by decide⟩ ?_
    refine fw_icmp_le 11 dX5_rules_6 (by decide) (fun h6 => ?_) (fun h6 => ?_)
    · skip
      refine fw_aload_n dX5_rules_11 rfl rfl ?_
      refine fw_geti 8 rfl dX5_rules_12 ff_5_59 ly0_0 ⟨by decide, by decide⟩ rfl ?_
      refine fw_istore_n (ls2 := [_, _, _]) dX5_rules_15 rfl (by decide) rfl ?_
      refine fw_aload_n dX5_rules_16 rfl rfl ?_
      refine fw_iload_n dX5_rules_17 rfl rfl ?_
      refine fw_puti 8 rfl dX5_rules_18 fp_5_59 ly0_0 (by decide) ⟨by decide, by decide⟩ rfl ?_
      refine fw_iload_n dX5_rules_21 rfl rfl ?_
      refine fw_iret dX5_rules_22 ⟨rfl, rfl, rfl⟩ ?_
      refine ⟨by rw [if_pos (by omega), ha2], fun N2 K2 h => ?_⟩
      rw [h.1, h.2, if_pos (by omega)]; exact rl_rules hR (by omega)
    · skip
      refine fw_iconst dX5_rules_9 ⟨by decide, by decide⟩ ?_
      refine fw_iret dX5_rules_10 ⟨rfl, rfl, rfl⟩ ?_
      refine ⟨by rw [if_neg (by omega)], fun N2 K2 h => ?_⟩
      rw [h.1, h.2, if_neg (by omega)]; exact hR

set_option maxRecDepth 20000 in
set_option maxHeartbeats 4000000 in
theorem pm_X6_rules (M N : fw_F) (L K : fw_G) (hR : Rel M L N K) (b : Int) : fw_D mX6_rules 5 [some (fw_r 0), some (fw_i b)] [] N K (fun r N2 K2 => r = some (fw_i (if 0 ≤ b ∧ b ≤ 3 then N 0 3 else -1)) ∧ (K2 = K ∧ N2 = (if 0 ≤ b ∧ b ≤ 3 then fw_upd N 0 3 b else N))) := by
  obtain ⟨ha1, ha2, ha3, ha4, ha5, ha6⟩ := hR.1
  have hn1 := hR.2.1.1.1.1
  have hn2 := hR.2.1.1.1.2.1
  refine fw_iload_n dX6_rules_5 rfl rfl ?_
  refine fw_iconst dX6_rules_6 ⟨by decide, by decide⟩ ?_
  refine fw_iconst dX6_rules_7 ⟨by decide, by decide⟩ ?_
  refine fw_pS mX6_in [_, _, _] dX6_rules_8 mv_X6_in lk_6_115 ⟨⟨by decide, by decide⟩, rfl, rfl, rfl, by decide, by decide⟩ rfl rfl (Nat.le_of_ble_eq_true rfl) (sp_X6_in _ _ _ _ _) ?_
  refine fw_bifne 16 dX6_rules_11 (by decide) (fun h11 => ?_) (fun h11 => ?_)
  · skip
    refine fw_aload_n dX6_rules_16 rfl rfl ?_
    refine fw_geti 3 rfl dX6_rules_17 ff_6_134 ly1_0 ⟨by decide, by decide⟩ rfl ?_
    refine fw_istore_n (ls2 := [_, _, _]) dX6_rules_20 rfl (by decide) rfl ?_
    refine fw_aload_n dX6_rules_21 rfl rfl ?_
    refine fw_iload_n dX6_rules_22 rfl rfl ?_
    refine fw_puti 3 rfl dX6_rules_23 fp_6_134 ly1_0 (by decide) ⟨by decide, by decide⟩ rfl ?_
    refine fw_iload_n dX6_rules_26 rfl rfl ?_
    exact fw_iret dX6_rules_27 ⟨rfl, rfl, rfl⟩ (⟨by rw [if_pos (by omega)], rfl, by rw [if_pos (by omega)]⟩)
  · skip
    refine fw_iconst dX6_rules_14 ⟨by decide, by decide⟩ ?_
    exact fw_iret dX6_rules_15 ⟨rfl, rfl, rfl⟩ (⟨by rw [if_neg (by omega)], rfl, by rw [if_neg (by omega)]⟩)

set_option maxRecDepth 20000 in
set_option maxHeartbeats 4000000 in
theorem sp_X6_rules (M N : fw_F) (L K : fw_G) (hR : Rel M L (fw_upd N 0 0 0) K) (b : Int) : fw_SD mX6_rules [fw_r 0, fw_i b] N K (fun r N2 K2 => r = some (fw_i (if 0 ≤ b ∧ b ≤ 3 then (fw_upd N 0 0 0) 0 3 else -1)) ∧ (K2 = K ∧ N2 = (if 0 ≤ b ∧ b ≤ 3 then fw_upd (fw_upd N 0 0 0) 0 3 b else (fw_upd N 0 0 0)))) := by
  refine fw_SP_of pl_X6_rules (ls := [_, _]) rfl (Nat.le_of_ble_eq_true rfl) fun hA hM => ?_
  refine fw_aload_n dX6_rules_0 rfl rfl ?_
  refine fw_iconst dX6_rules_1 ⟨by decide, by decide⟩ ?_
  refine fw_puti 0 rfl dX6_rules_2 fp_6_106 ly1_0 (by decide) ⟨by decide, by decide⟩ rfl ?_
  exact pm_X6_rules M (fw_upd N 0 0 0) L K hR b

theorem rl_begin {M N M2 N2 : fw_F} {L K : fw_G} {v : Int} (hv : 1 ≤ v ∧ v ≤ 4) (hru : M2 0 8 = N2 0 3 ∧ 0 ≤ N2 0 3 ∧ N2 0 3 ≤ 3) (htr : L 0 9 = K 0 1) (h1 : (∀ k, 8 ≤ k → k < 179 → M2 k = M k) ∧ (∀ k, 191 ≤ k → ¬ k = 197 → ¬ k = 198 → M2 k = M k) ∧ (M2 0 7 = v ∧ (∀ j, ¬ j = 7 → M2 0 j = M 0 j)) ∧ (M2 198 4 = 0) ∧ (M2 1 6 = 0 ∧ M2 1 7 = 0) ∧ (∀ p, 0 ≤ p → p < 4 → M2 4 p = 0 ∧ M2 6 p = -9 ∧ M2 7 p = 20) ∧ (∀ z, 0 ≤ z → z < 16 → M2 5 z = 0)) (h2 : ∀ p, 0 ≤ p → p < 4 → M2 197 p = 20 ∧ ps_at M2 L (179 + 3 * p) []) (h3 : (∀ k, ¬ k = 0 → ¬ k = 1 → ¬ k = 4 → ¬ k = 6 → ¬ k = 20 → ¬ k = 21 → N2 k = N k) ∧ (N2 0 4 = 0 ∧ N2 0 31 = 0 ∧ ∀ j, ¬ j = 4 → ¬ j = 31 → N2 0 j = fw_upd N 0 2 v 0 j) ∧ (∀ p, 0 ≤ p → p < 4 → N2 1 p = 0 ∧ N2 6 p = -9 ∧ N2 20 p = 20 ∧ N2 21 p = 0) ∧ (∀ z, 0 ≤ z → z < 16 → N2 4 z = 0)) : Rel M2 L N2 K := by
  obtain ⟨c1, c2, c3, c4, c5, c6, c7⟩ := h1
  obtain ⟨d1, d2, d3, d4⟩ := h3
  have n02 : N2 0 2 = v := by rw [d2.2.2 2 (by decide) (by decide)]; exact fw_updj
  have nlv : ∀ x, ¬ ab_lv (N2 1) x := fun x hx => by
    have a := hx.1
    have b := hx.2.1
    have e := (d3 (x / 20) (by omega) (by omega)).1
    have f := hx.2.2
    omega
  refine ⟨⟨by rw [c3.1, n02], hru.1, htr, by rw [c5.2, d2.1], by rw [d2.1]; decide, hru.2⟩, ⟨⟨⟨by omega, by omega, fun m a b => ?_⟩, fun x hx => absurd hx (nlv x), fun x hx => absurd hx (nlv x), ⟨by rw [c5.1]; decide, ?_⟩, fun j a b => ?_, fun j k a b e => ?_, fun x hx => absurd hx (nlv x), fun x hx => absurd hx (nlv x)⟩, fun x hx => absurd hx (nlv x), fun x hx => absurd hx (nlv x), fun p a b => ?_⟩, ⟨fun d m p a b e f g h => ?_, fun m a b => ?_⟩, ⟨fun p a b => Or.inl (d3 p a b).2.1, fun p a b => ?_⟩, ⟨fun _ => [], fun _ => [], fun m a b => ?_⟩, ⟨by rw [c4, d2.2.1], by rw [d2.2.1]; decide, fun i a b => by rw [d2.2.1] at b; omega⟩⟩
  · have := (d3 m a b).1; omega
  · rw [c5.1, (d3 0 (by decide) (by decide)).1, (d3 1 (by decide) (by decide)).1, (d3 2 (by decide) (by decide)).1, (d3 3 (by decide) (by decide)).1]; rfl
  · rw [c5.1] at b; omega
  · rw [c5.1] at e; omega
  · rw [(c6 p a b).1, (d3 p a b).1]
  · rw [d2.1] at b
    have hd : d = 0 := by omega
    subst hd
    have e1 : rl_kn N2 0 m p = 0 := by unfold rl_kn; rw [if_pos d2.1.symm]; exact d4 _ (by omega) (by omega)
    rw [e1, c7 _ (by omega) (by omega), (d3 p g h).1]
    decide
  · rw [d4 _ (by omega) (by omega), (d3 m a b).1]
  · rw [(c6 p a b).2.1, (d3 p a b).2.1, (c6 p a b).2.2, c5.1]
    refine ⟨rfl, ?_⟩
    show (20 : Int) = if N2 6 p = -9 then 20 else N2 6 p
    rw [if_pos (d3 p a b).2.1]
  · obtain ⟨e1, e2⟩ := h2 m a b
    obtain ⟨f1, f2, f3, f4⟩ := d3 m a b
    rw [e1, f3]
    exact ⟨⟨e2, f4, fun i a h => by simp at h⟩, ⟨List.Perm.refl _, List.nodup_nil, fun a h => by simp at h⟩, by show (0 : Int) ≤ 20; decide, rfl, by decide, by decide⟩

set_option maxRecDepth 20000 in
set_option maxHeartbeats 4000000 in
theorem sp_X5_machines (M N : fw_F) (L K : fw_G) (hR : Rel M L N K) (v : Int) : fw_SC mX5_machines [fw_r 0, fw_i v] M L (fun r M2 L2 => r = some (fw_i (if 1 ≤ v ∧ v ≤ 4 then N 0 2 else -1)) ∧ ∀ N2 K2, (K2 = K ∧ (¬ (1 ≤ v ∧ v ≤ 4) → N2 = N) ∧ (1 ≤ v ∧ v ≤ 4 → (∀ k, ¬ k = 0 → ¬ k = 1 → ¬ k = 4 → ¬ k = 6 → ¬ k = 20 → ¬ k = 21 → N2 k = N k) ∧ (N2 0 4 = 0 ∧ N2 0 31 = 0 ∧ ∀ j, ¬ j = 4 → ¬ j = 31 → N2 0 j = fw_upd N 0 2 v 0 j) ∧ (∀ p, 0 ≤ p → p < 4 → N2 1 p = 0 ∧ N2 6 p = -9 ∧ N2 20 p = 20 ∧ N2 21 p = 0) ∧ (∀ z, 0 ≤ z → z < 16 → N2 4 z = 0))) → Rel M2 L2 N2 K2) := by
  refine fw_SP_of pl_X5_machines (ls := [_, _]) rfl (Nat.le_of_ble_eq_true rfl) fun hA hM => ?_
  obtain ⟨ha1, ha2, ha3, ha4, ha5, ha6⟩ := hR.1
  have hn1 := hR.2.1.1.1.1
  have hn2 := hR.2.1.1.1.2.1
  refine fw_iload_n dX5_machines_0 rfl rfl ?_
  refine fw_iconst dX5_machines_1 ⟨by decide, by decide⟩ ?_
  refine fw_icmp_lt 10 dX5_machines_2 (by decide) (fun h2 => ?_) (fun h2 => ?_)
  · skip
    refine fw_iconst dX5_machines_10 ⟨by decide, by decide⟩ ?_
    refine fw_iret dX5_machines_11 ⟨rfl, rfl, rfl⟩ ?_
    refine ⟨by rw [if_neg (by omega)], fun N2 K2 h => ?_⟩
    rw [h.1, h.2.1 (by omega)]; exact hR
  · skip
    refine fw_iload_n dX5_machines_5 rfl rfl ?_
    refine fw_iconst dX5_machines_6 ⟨by decide, by decide⟩ ?_
    refine fw_icmp_le 12 dX5_machines_7 (by decide) (fun h7 => ?_) (fun h7 => ?_)
    · skip
      refine fw_aload_n dX5_machines_12 rfl rfl ?_
      refine fw_geti 7 rfl dX5_machines_13 ff_5_55 ly0_0 ⟨by decide, by decide⟩ rfl ?_
      refine fw_istore_n (ls2 := [_, _, _]) dX5_machines_16 rfl (by decide) rfl ?_
      refine fw_aload_n dX5_machines_17 rfl rfl ?_
      refine fw_iload_n dX5_machines_18 rfl rfl ?_
      refine fw_cV mX5_beginAnew [_] dX5_machines_19 mv_X5_beginAnew lk_5_52 ⟨⟨by decide, by decide⟩, rfl, rfl, rfl, by decide, by decide⟩ ly0_0 ⟨by decide, by decide⟩ rfl rfl (Nat.le_of_ble_eq_true rfl) (sp_X5_beginAnew v M L) (fun r M1 L1 hp hM1 => ?_)
      obtain ⟨rfl, rfl, g1, g2, g3, g4, g5, g6, g7, g8⟩ := hp
      refine fw_iload_n dX5_machines_22 rfl rfl ?_
      refine fw_iret dX5_machines_23 ⟨rfl, rfl, rfl⟩ ?_
      refine ⟨by rw [if_pos (by omega), ha1], fun N2 K2 h => ?_⟩
      have h3 := h.2.2 (by omega)
      rw [h.1]
      have e3 : N2 0 3 = N 0 3 := by rw [h3.2.1.2.2 3 (by decide) (by decide)]; exact fw_updjn (by decide)
      exact rl_begin (M := M) (N := N) (v := v) (by omega) (by rw [e3, g3.2 8 (by decide)]; exact ⟨ha2, ha6⟩) ha3 ⟨g1, g2, g3, g4, g5, g6, g7⟩ g8 h3
    · skip
      refine fw_iconst dX5_machines_10 ⟨by decide, by decide⟩ ?_
      refine fw_iret dX5_machines_11 ⟨rfl, rfl, rfl⟩ ?_
      refine ⟨by rw [if_neg (by omega)], fun N2 K2 h => ?_⟩
      rw [h.1, h.2.1 (by omega)]; exact hR

set_option maxRecDepth 20000 in
set_option maxHeartbeats 4000000 in
theorem pm_X6_machines (M N : fw_F) (L K : fw_G) (hR : Rel M L N K) (v : Int) : fw_D mX6_machines 5 [some (fw_r 0), some (fw_i v)] [] N K (fun r N2 K2 => r = some (fw_i (if 1 ≤ v ∧ v ≤ 4 then N 0 2 else -1)) ∧ (K2 = K ∧ (¬ (1 ≤ v ∧ v ≤ 4) → N2 = N) ∧ (1 ≤ v ∧ v ≤ 4 → (∀ k, ¬ k = 0 → ¬ k = 1 → ¬ k = 4 → ¬ k = 6 → ¬ k = 20 → ¬ k = 21 → N2 k = N k) ∧ (N2 0 4 = 0 ∧ N2 0 31 = 0 ∧ ∀ j, ¬ j = 4 → ¬ j = 31 → N2 0 j = fw_upd N 0 2 v 0 j) ∧ (∀ p, 0 ≤ p → p < 4 → N2 1 p = 0 ∧ N2 6 p = -9 ∧ N2 20 p = 20 ∧ N2 21 p = 0) ∧ (∀ z, 0 ≤ z → z < 16 → N2 4 z = 0)))) := by
  obtain ⟨ha1, ha2, ha3, ha4, ha5, ha6⟩ := hR.1
  have hn1 := hR.2.1.1.1.1
  have hn2 := hR.2.1.1.1.2.1
  refine fw_iload_n dX6_machines_5 rfl rfl ?_
  refine fw_iconst dX6_machines_6 ⟨by decide, by decide⟩ ?_
  refine fw_iconst dX6_machines_7 ⟨by decide, by decide⟩ ?_
  refine fw_pS mX6_in [_, _, _] dX6_machines_8 mv_X6_in lk_6_115 ⟨⟨by decide, by decide⟩, rfl, rfl, rfl, by decide, by decide⟩ rfl rfl (Nat.le_of_ble_eq_true rfl) (sp_X6_in _ _ _ _ _) ?_
  refine fw_bifne 16 dX6_machines_11 (by decide) (fun h11 => ?_) (fun h11 => ?_)
  · skip
    refine fw_aload_n dX6_machines_16 rfl rfl ?_
    refine fw_geti 2 rfl dX6_machines_17 ff_6_7 ly1_0 ⟨by decide, by decide⟩ rfl ?_
    refine fw_istore_n (ls2 := [_, _, _]) dX6_machines_20 rfl (by decide) rfl ?_
    refine fw_aload_n dX6_machines_21 rfl rfl ?_
    refine fw_iload_n dX6_machines_22 rfl rfl ?_
    refine fw_puti 2 rfl dX6_machines_23 fp_6_7 ly1_0 (by decide) ⟨by decide, by decide⟩ rfl ?_
    refine fw_aload_n dX6_machines_26 rfl rfl ?_
    refine fw_cV mX6_begins [] dX6_machines_27 mv_X6_begins lk_6_103 ⟨⟨by decide, by decide⟩, rfl, rfl, rfl, by decide, by decide⟩ ly1_0 ⟨by decide, by decide⟩ rfl rfl (Nat.le_of_ble_eq_true rfl) (sp_X6_begins (fw_upd N 0 2 v) K) (fun r M1 L1 hp hM1 => ?_)
    obtain ⟨rfl, rfl, g1, g2, g3, g4⟩ := hp
    refine fw_iload_n dX6_machines_30 rfl rfl ?_
    exact fw_iret dX6_machines_31 ⟨rfl, rfl, rfl⟩ (⟨by rw [if_pos (by omega)], rfl, fun h => absurd (show 1 ≤ v ∧ v ≤ 4 by omega) h, fun _ => ⟨fun k a b c d e f => (g1 k a b c d e f).trans (fw_updne a), g2, g3, g4⟩⟩)
  · skip
    refine fw_iconst dX6_machines_14 ⟨by decide, by decide⟩ ?_
    exact fw_iret dX6_machines_15 ⟨rfl, rfl, rfl⟩ (⟨by rw [if_neg (by omega)], rfl, fun _ => rfl, fun h => absurd h (by omega)⟩)

set_option maxRecDepth 20000 in
set_option maxHeartbeats 4000000 in
theorem sp_X6_machines (M N : fw_F) (L K : fw_G) (hR : Rel M L (fw_upd N 0 0 0) K) (v : Int) : fw_SD mX6_machines [fw_r 0, fw_i v] N K (fun r N2 K2 => r = some (fw_i (if 1 ≤ v ∧ v ≤ 4 then (fw_upd N 0 0 0) 0 2 else -1)) ∧ (K2 = K ∧ (¬ (1 ≤ v ∧ v ≤ 4) → N2 = (fw_upd N 0 0 0)) ∧ (1 ≤ v ∧ v ≤ 4 → (∀ k, ¬ k = 0 → ¬ k = 1 → ¬ k = 4 → ¬ k = 6 → ¬ k = 20 → ¬ k = 21 → N2 k = (fw_upd N 0 0 0) k) ∧ (N2 0 4 = 0 ∧ N2 0 31 = 0 ∧ ∀ j, ¬ j = 4 → ¬ j = 31 → N2 0 j = fw_upd (fw_upd N 0 0 0) 0 2 v 0 j) ∧ (∀ p, 0 ≤ p → p < 4 → N2 1 p = 0 ∧ N2 6 p = -9 ∧ N2 20 p = 20 ∧ N2 21 p = 0) ∧ (∀ z, 0 ≤ z → z < 16 → N2 4 z = 0)))) := by
  refine fw_SP_of pl_X6_machines (ls := [_, _]) rfl (Nat.le_of_ble_eq_true rfl) fun hA hM => ?_
  refine fw_aload_n dX6_machines_0 rfl rfl ?_
  refine fw_iconst dX6_machines_1 ⟨by decide, by decide⟩ ?_
  refine fw_puti 0 rfl dX6_machines_2 fp_6_106 ly1_0 (by decide) ⟨by decide, by decide⟩ rfl ?_
  exact pm_X6_machines M (fw_upd N 0 0 0) L K hR v

theorem rl_apart {M N M2 : fw_F} {L K : fw_G} (hR : Rel M L N K) {m v : Int} (hv : v = -9 ∨ (0 ≤ v ∧ v ≤ 20)) (g1 : ∀ k, ¬ k = 6 → ¬ k = 7 → M2 k = M k) (g2 : M2 6 = (fun p => if p = m then v else M 6 p)) (g3 : ∀ p, 0 ≤ p → p < 4 → M2 7 p = ab_LF (md_G N) (M 3) (fun p => if p = m then v else M 6 p) (M 1 6).toNat p) : Rel M2 L (fw_upd N 6 m v) K := by
  obtain ⟨ha, hg, hk, ho, hp, hs⟩ := hR
  have e1 := g1 1 (by decide) (by decide)
  have e3 := g1 3 (by decide) (by decide)
  refine ⟨?_, rl_g_c hg e3 (by rw [e1]) (g1 4 (by decide) (by decide)) (fun k a b => ⟨g1 k (by omega) (by omega), rfl⟩) (by rw [fw_updne (by decide)]) (fw_updne (by decide)) (fw_updne (by decide)) rfl, rl_k_c hk (g1 5 (by decide) (by decide)) (by rw [fw_updne (by decide)]) (fw_updne (by decide)) (fw_updne (by decide)) (fw_updne (by decide)), ?_, rl_p_c hp (fun k a b => ⟨g1 k (by omega) (by omega), rfl⟩) (g1 197 (by decide) (by decide)) (fw_updne (by decide)) (fw_updne (by decide)) (fw_updne (by decide)) rfl, rl_s_c hs (by rw [g1 198 (by decide) (by decide)]) (g1 199 (by decide) (by decide)) (g1 200 (by decide) (by decide)) (g1 201 (by decide) (by decide)) (g1 202 (by decide) (by decide)) (by rw [fw_updne (by decide)]) (fw_updne (by decide)) (fw_updne (by decide)) (fw_updne (by decide)) (fw_updne (by decide))⟩
  · unfold rl_a at ha ⊢
    rw [g1 0 (by decide) (by decide), e1, fw_updne (by decide)]; exact ha
  · have e6 : ∀ p, 0 ≤ p → p < 4 → fw_upd N 6 m v 6 p = if p = m then v else M 6 p := fun p a b => by rw [fw_updeq, (ho.2 p a b).1]
    refine ⟨fun p a b => ?_, fun p a b => ⟨by rw [g2, e6 p a b], ?_⟩⟩
    · rw [fw_updeq]
      split
      · exact hv
      · exact ho.1 p a b
    · rw [g3 p a b, e3, e1, md_G_of (fw_updne (by decide))]
      exact ab_LF_ap (fun p a b => (e6 p a b).symm) _ p a b

theorem rl_apok {M N : fw_F} {L K : fw_G} (hR : Rel M L N K) {m v : Int} (hv : v = -9 ∨ (0 ≤ v ∧ v ≤ 20)) : ab_apok (fun p => if p = m then v else M 6 p) := by
  intro p a b
  show (if p = m then v else M 6 p) = -9 ∨ 0 ≤ (if p = m then v else M 6 p) ∧ (if p = m then v else M 6 p) ≤ 20
  split
  · exact hv
  · rw [(hR.2.2.2.1.2 p a b).1]; exact hR.2.2.2.1.1 p a b

set_option maxRecDepth 20000 in
set_option maxHeartbeats 4000000 in
theorem sp_X5_apart (M N : fw_F) (L K : fw_G) (hR : Rel M L N K) (m f : Int) : fw_SC mX5_apart [fw_r 0, fw_i m, fw_i f] M L (fun r M2 L2 => r = some (fw_i (if (0 ≤ m ∧ m < N 0 2) ∧ (0 ≤ f ∧ f ≤ 20) then N 6 m else -1)) ∧ ∀ N2 K2, (K2 = K ∧ N2 = (if (0 ≤ m ∧ m < N 0 2) ∧ (0 ≤ f ∧ f ≤ 20) then fw_upd N 6 m f else N)) → Rel M2 L2 N2 K2) := by
  refine fw_SP_of pl_X5_apart (ls := [_, _, _]) rfl (Nat.le_of_ble_eq_true rfl) fun hA hM => ?_
  obtain ⟨ha1, ha2, ha3, ha4, ha5, ha6⟩ := hR.1
  have hn1 := hR.2.1.1.1.1
  have hn2 := hR.2.1.1.1.2.1
  refine fw_aload_n dX5_apart_0 rfl rfl ?_
  refine fw_iload_n dX5_apart_1 rfl rfl ?_
  refine fw_pV mX5_isMachine [_] dX5_apart_2 mv_X5_isMachine lk_5_62 ⟨⟨by decide, by decide⟩, rfl, rfl, rfl, by decide, by decide⟩ ly0_0 ⟨by decide, by decide⟩ rfl rfl (Nat.le_of_ble_eq_true rfl) (sp_X5_isMachine _ _ _) ?_
  refine fw_bifeq 18 dX5_apart_5 (by decide) (fun h5 => ?_) (fun h5 => ?_)
  · skip
    refine fw_iconst dX5_apart_18 ⟨by decide, by decide⟩ ?_
    refine fw_iret dX5_apart_19 ⟨rfl, rfl, rfl⟩ ?_
    refine ⟨by rw [if_neg (by omega)], fun N2 K2 h => ?_⟩
    rw [h.1, h.2, if_neg (by omega)]; exact hR
  · skip
    refine fw_iload_n dX5_apart_8 rfl rfl ?_
    refine fw_if_lt 18 dX5_apart_9 (by decide) (fun h9 => ?_) (fun h9 => ?_)
    · skip
      refine fw_iconst dX5_apart_18 ⟨by decide, by decide⟩ ?_
      refine fw_iret dX5_apart_19 ⟨rfl, rfl, rfl⟩ ?_
      refine ⟨by rw [if_neg (by omega)], fun N2 K2 h => ?_⟩
      rw [h.1, h.2, if_neg (by omega)]; exact hR
    · skip
      refine fw_iload_n dX5_apart_12 rfl rfl ?_
      refine fw_bipush dX5_apart_13 ⟨by decide, by decide⟩ (by decide) ?_
      refine fw_icmp_le 20 dX5_apart_15 (by decide) (fun h15 => ?_) (fun h15 => ?_)
      · skip
        refine fw_aload_n dX5_apart_20 rfl rfl ?_
        refine fw_getr 0 1 rfl dX5_apart_21 ff_5_12 ly0_0 ⟨by decide, by decide⟩ rfl rfl (by decide) ?_
        refine fw_iload_n dX5_apart_24 rfl rfl ?_
        refine fw_iload_n dX5_apart_25 rfl rfl ?_
        refine fw_cV mX1_setApart [_, _] dX5_apart_26 mv_X1_setApart lk_5_225 ⟨⟨by decide, by decide⟩, rfl, rfl, rfl, by decide, by decide⟩ ly0_1 ⟨by decide, by decide⟩ rfl rfl (Nat.le_of_ble_eq_true rfl) (sp_X1_setApart m f (M 1 6) M (md_G N) L (by omega) rfl (ab_T80 hR.2.1.1) (fun j a b => by have hlv := hR.2.1.1.2.2.2.2.1 j a b; have hx := hR.2.1.2.1 _ hlv; exact ⟨⟨hlv.1, hlv.2.1⟩, hx.1.1, hx.1.2.1, hx.2.2.2.2⟩) (rl_apok hR (Or.inr (by omega)))) (fun r M1 L1 hp hM1 => ?_)
        obtain ⟨rfl, rfl, g1, g2, g3⟩ := hp
        refine fw_iret dX5_apart_29 ⟨rfl, rfl, rfl⟩ ?_
        refine ⟨by rw [if_pos (by omega), (hR.2.2.2.1.2 m (by omega) (by omega)).1], fun N2 K2 h => ?_⟩
        rw [h.1, h.2, if_pos (by omega)]; exact rl_apart hR (Or.inr (by omega)) g1 g2 g3
      · skip
        refine fw_iconst dX5_apart_18 ⟨by decide, by decide⟩ ?_
        refine fw_iret dX5_apart_19 ⟨rfl, rfl, rfl⟩ ?_
        refine ⟨by rw [if_neg (by omega)], fun N2 K2 h => ?_⟩
        rw [h.1, h.2, if_neg (by omega)]; exact hR

set_option maxRecDepth 20000 in
set_option maxHeartbeats 4000000 in
theorem pm_X6_apart (M N : fw_F) (L K : fw_G) (hR : Rel M L N K) (m f : Int) : fw_D mX6_apart 5 [some (fw_r 0), some (fw_i m), some (fw_i f)] [] N K (fun r N2 K2 => r = some (fw_i (if (0 ≤ m ∧ m < N 0 2) ∧ (0 ≤ f ∧ f ≤ 20) then N 6 m else -1)) ∧ (K2 = K ∧ N2 = (if (0 ≤ m ∧ m < N 0 2) ∧ (0 ≤ f ∧ f ≤ 20) then fw_upd N 6 m f else N))) := by
  obtain ⟨ha1, ha2, ha3, ha4, ha5, ha6⟩ := hR.1
  have hn1 := hR.2.1.1.1.1
  have hn2 := hR.2.1.1.1.2.1
  refine fw_aload_n dX6_apart_5 rfl rfl ?_
  refine fw_iload_n dX6_apart_6 rfl rfl ?_
  refine fw_pV mX6_isMachine [_] dX6_apart_7 mv_X6_isMachine lk_6_179 ⟨⟨by decide, by decide⟩, rfl, rfl, rfl, by decide, by decide⟩ ly1_0 ⟨by decide, by decide⟩ rfl rfl (Nat.le_of_ble_eq_true rfl) (sp_X6_isMachine _ _ _ (by omega)) ?_
  refine fw_bifeq 23 dX6_apart_10 (by decide) (fun h10 => ?_) (fun h10 => ?_)
  · skip
    refine fw_iconst dX6_apart_23 ⟨by decide, by decide⟩ ?_
    exact fw_iret dX6_apart_24 ⟨rfl, rfl, rfl⟩ (⟨by rw [if_neg (by omega)], rfl, by rw [if_neg (by omega)]⟩)
  · skip
    refine fw_iload_n dX6_apart_13 rfl rfl ?_
    refine fw_iconst dX6_apart_14 ⟨by decide, by decide⟩ ?_
    refine fw_bipush dX6_apart_15 ⟨by decide, by decide⟩ (by decide) ?_
    refine fw_pS mX6_in [_, _, _] dX6_apart_17 mv_X6_in lk_6_115 ⟨⟨by decide, by decide⟩, rfl, rfl, rfl, by decide, by decide⟩ rfl rfl (Nat.le_of_ble_eq_true rfl) (sp_X6_in _ _ _ _ _) ?_
    refine fw_bifne 25 dX6_apart_20 (by decide) (fun h20 => ?_) (fun h20 => ?_)
    · skip
      refine fw_aload_n dX6_apart_25 rfl rfl ?_
      refine fw_getr 10 6 rfl dX6_apart_26 ff_6_30 ly1_0 ⟨by decide, by decide⟩ rfl rfl (by decide) ?_
      refine fw_iload_n dX6_apart_29 rfl rfl ?_
      refine fw_iaload dX6_apart_30 ly1_6 ⟨by decide, by decide⟩ ⟨by omega, by omega⟩ ?_
      refine fw_istore_n (ls2 := [_, _, _, _]) dX6_apart_31 rfl (by decide) rfl ?_
      refine fw_aload_n dX6_apart_32 rfl rfl ?_
      refine fw_getr 10 6 rfl dX6_apart_33 ff_6_30 ly1_0 ⟨by decide, by decide⟩ rfl rfl (by decide) ?_
      refine fw_iload_n dX6_apart_36 rfl rfl ?_
      refine fw_iload_n dX6_apart_37 rfl rfl ?_
      refine fw_iastore dX6_apart_38 ly1_6 (by decide) ⟨by decide, by decide⟩ ⟨by omega, by omega⟩ ?_
      refine fw_iload_n dX6_apart_39 rfl rfl ?_
      exact fw_iret dX6_apart_40 ⟨rfl, rfl, rfl⟩ (⟨by rw [if_pos (by omega)], rfl, by rw [if_pos (by omega)]⟩)
    · skip
      refine fw_iconst dX6_apart_23 ⟨by decide, by decide⟩ ?_
      exact fw_iret dX6_apart_24 ⟨rfl, rfl, rfl⟩ (⟨by rw [if_neg (by omega)], rfl, by rw [if_neg (by omega)]⟩)

set_option maxRecDepth 20000 in
set_option maxHeartbeats 4000000 in
theorem sp_X6_apart (M N : fw_F) (L K : fw_G) (hR : Rel M L (fw_upd N 0 0 0) K) (m f : Int) : fw_SD mX6_apart [fw_r 0, fw_i m, fw_i f] N K (fun r N2 K2 => r = some (fw_i (if (0 ≤ m ∧ m < (fw_upd N 0 0 0) 0 2) ∧ (0 ≤ f ∧ f ≤ 20) then (fw_upd N 0 0 0) 6 m else -1)) ∧ (K2 = K ∧ N2 = (if (0 ≤ m ∧ m < (fw_upd N 0 0 0) 0 2) ∧ (0 ≤ f ∧ f ≤ 20) then fw_upd (fw_upd N 0 0 0) 6 m f else (fw_upd N 0 0 0)))) := by
  refine fw_SP_of pl_X6_apart (ls := [_, _, _]) rfl (Nat.le_of_ble_eq_true rfl) fun hA hM => ?_
  refine fw_aload_n dX6_apart_0 rfl rfl ?_
  refine fw_iconst dX6_apart_1 ⟨by decide, by decide⟩ ?_
  refine fw_puti 0 rfl dX6_apart_2 fp_6_106 ly1_0 (by decide) ⟨by decide, by decide⟩ rfl ?_
  exact pm_X6_apart M (fw_upd N 0 0 0) L K hR m f

theorem fw_updself {M : fw_F} {k j v : Int} (h : M k j = v) : fw_upd M k j v = M := by
  funext k' j'
  unfold fw_upd
  split
  · rename_i q
    rw [q.1, q.2, h]
  · rfl

set_option maxRecDepth 20000 in
set_option maxHeartbeats 4000000 in
theorem sp_X5_let (M N : fw_F) (L K : fw_G) (hR : Rel M L N K) (m : Int) : fw_SC mX5_let [fw_r 0, fw_i m] M L (fun r M2 L2 => r = some (fw_i (if 0 ≤ m ∧ m < N 0 2 then (if N 6 m = -9 then -2 else N 6 m) else -1)) ∧ ∀ N2 K2, (K2 = K ∧ N2 = (if 0 ≤ m ∧ m < N 0 2 then fw_upd N 6 m (-9) else N)) → Rel M2 L2 N2 K2) := by
  refine fw_SP_of pl_X5_let (ls := [_, _]) rfl (Nat.le_of_ble_eq_true rfl) fun hA hM => ?_
  obtain ⟨ha1, ha2, ha3, ha4, ha5, ha6⟩ := hR.1
  have hn1 := hR.2.1.1.1.1
  have hn2 := hR.2.1.1.1.2.1
  refine fw_aload_n dX5_let_0 rfl rfl ?_
  refine fw_iload_n dX5_let_1 rfl rfl ?_
  refine fw_pV mX5_isMachine [_] dX5_let_2 mv_X5_isMachine lk_5_62 ⟨⟨by decide, by decide⟩, rfl, rfl, rfl, by decide, by decide⟩ ly0_0 ⟨by decide, by decide⟩ rfl rfl (Nat.le_of_ble_eq_true rfl) (sp_X5_isMachine _ _ _) ?_
  refine fw_bifne 10 dX5_let_5 (by decide) (fun h5 => ?_) (fun h5 => ?_)
  · skip
    have h6 := (hR.2.2.2.1.2 m (by omega) (by omega)).1
    refine fw_aload_n dX5_let_10 rfl rfl ?_
    refine fw_getr 0 1 rfl dX5_let_11 ff_5_12 ly0_0 ⟨by decide, by decide⟩ rfl rfl (by decide) ?_
    refine fw_getr 4 6 rfl dX5_let_14 ff_5_228 ly0_1 ⟨by decide, by decide⟩ rfl rfl (by decide) ?_
    refine fw_iload_n dX5_let_17 rfl rfl ?_
    refine fw_iaload dX5_let_18 ly0_6 ⟨by decide, by decide⟩ ⟨by omega, by omega⟩ ?_
    refine fw_bipush dX5_let_19 ⟨by decide, by decide⟩ (by decide) ?_
    refine fw_icmp_ne 27 dX5_let_21 (by decide) (fun h21 => ?_) (fun h21 => ?_)
    · skip
      refine fw_aload_n dX5_let_27 rfl rfl ?_
      refine fw_getr 0 1 rfl dX5_let_28 ff_5_12 ly0_0 ⟨by decide, by decide⟩ rfl rfl (by decide) ?_
      refine fw_iload_n dX5_let_31 rfl rfl ?_
      refine fw_bipush dX5_let_32 ⟨by decide, by decide⟩ (by decide) ?_
      refine fw_cV mX1_setApart [_, _] dX5_let_34 mv_X1_setApart lk_5_225 ⟨⟨by decide, by decide⟩, rfl, rfl, rfl, by decide, by decide⟩ ly0_1 ⟨by decide, by decide⟩ rfl rfl (Nat.le_of_ble_eq_true rfl) (sp_X1_setApart m (-9) (M 1 6) M (md_G N) L (by omega) rfl (ab_T80 hR.2.1.1) (fun j a b => by have hlv := hR.2.1.1.2.2.2.2.1 j a b; have hx := hR.2.1.2.1 _ hlv; exact ⟨⟨hlv.1, hlv.2.1⟩, hx.1.1, hx.1.2.1, hx.2.2.2.2⟩) (rl_apok hR (Or.inl rfl))) (fun r M1 L1 hp hM1 => ?_)
      obtain ⟨rfl, rfl, g1, g2, g3⟩ := hp
      refine fw_iret dX5_let_37 ⟨rfl, rfl, rfl⟩ ?_
      rw [h6] at h21
      refine ⟨by rw [if_pos (by omega), if_neg h21, h6], fun N2 K2 h => ?_⟩
      rw [h.1, h.2, if_pos (by omega)]; exact rl_apart hR (Or.inl rfl) g1 g2 g3
    · skip
      refine fw_bipush dX5_let_24 ⟨by decide, by decide⟩ (by decide) ?_
      refine fw_iret dX5_let_26 ⟨rfl, rfl, rfl⟩ ?_
      rw [h6] at h21
      refine ⟨by rw [if_pos (by omega), if_pos h21], fun N2 K2 h => ?_⟩
      rw [h.1, h.2, if_pos (by omega), fw_updself h21]; exact hR
  · skip
    refine fw_iconst dX5_let_8 ⟨by decide, by decide⟩ ?_
    refine fw_iret dX5_let_9 ⟨rfl, rfl, rfl⟩ ?_
    refine ⟨by rw [if_neg (by omega)], fun N2 K2 h => ?_⟩
    rw [h.1, h.2, if_neg (by omega)]; exact hR

set_option maxRecDepth 20000 in
set_option maxHeartbeats 4000000 in
theorem pm_X6_let (M N : fw_F) (L K : fw_G) (hR : Rel M L N K) (m : Int) : fw_D mX6_let 5 [some (fw_r 0), some (fw_i m)] [] N K (fun r N2 K2 => r = some (fw_i (if 0 ≤ m ∧ m < N 0 2 then (if N 6 m = -9 then -2 else N 6 m) else -1)) ∧ (K2 = K ∧ N2 = (if 0 ≤ m ∧ m < N 0 2 then fw_upd N 6 m (-9) else N))) := by
  obtain ⟨ha1, ha2, ha3, ha4, ha5, ha6⟩ := hR.1
  have hn1 := hR.2.1.1.1.1
  have hn2 := hR.2.1.1.1.2.1
  refine fw_aload_n dX6_let_5 rfl rfl ?_
  refine fw_iload_n dX6_let_6 rfl rfl ?_
  refine fw_pV mX6_isMachine [_] dX6_let_7 mv_X6_isMachine lk_6_179 ⟨⟨by decide, by decide⟩, rfl, rfl, rfl, by decide, by decide⟩ ly1_0 ⟨by decide, by decide⟩ rfl rfl (Nat.le_of_ble_eq_true rfl) (sp_X6_isMachine _ _ _ (by omega)) ?_
  refine fw_bifne 15 dX6_let_10 (by decide) (fun h10 => ?_) (fun h10 => ?_)
  · skip
    refine fw_aload_n dX6_let_15 rfl rfl ?_
    refine fw_getr 10 6 rfl dX6_let_16 ff_6_30 ly1_0 ⟨by decide, by decide⟩ rfl rfl (by decide) ?_
    refine fw_iload_n dX6_let_19 rfl rfl ?_
    refine fw_iaload dX6_let_20 ly1_6 ⟨by decide, by decide⟩ ⟨by omega, by omega⟩ ?_
    refine fw_istore_n (ls2 := [_, _, _]) dX6_let_21 rfl (by decide) rfl ?_
    refine fw_aload_n dX6_let_22 rfl rfl ?_
    refine fw_getr 10 6 rfl dX6_let_23 ff_6_30 ly1_0 ⟨by decide, by decide⟩ rfl rfl (by decide) ?_
    refine fw_iload_n dX6_let_26 rfl rfl ?_
    refine fw_bipush dX6_let_27 ⟨by decide, by decide⟩ (by decide) ?_
    refine fw_iastore dX6_let_29 ly1_6 (by decide) ⟨by decide, by decide⟩ ⟨by omega, by omega⟩ ?_
    refine fw_iload_n dX6_let_30 rfl rfl ?_
    refine fw_bipush dX6_let_31 ⟨by decide, by decide⟩ (by decide) ?_
    refine fw_icmp_ne 41 dX6_let_33 (by decide) (fun h33 => ?_) (fun h33 => ?_)
    · skip
      refine fw_iload_n dX6_let_41 rfl rfl ?_
      exact fw_iret dX6_let_42 ⟨rfl, rfl, rfl⟩ (⟨by rw [if_pos (by omega), if_neg h33], rfl, by rw [if_pos (by omega)]⟩)
    · skip
      refine fw_bipush dX6_let_36 ⟨by decide, by decide⟩ (by decide) ?_
      refine fw_goto 42 dX6_let_38 (by decide) ?_
      exact fw_iret dX6_let_42 ⟨rfl, rfl, rfl⟩ (⟨by rw [if_pos (by omega), if_pos h33], rfl, by rw [if_pos (by omega)]⟩)
  · skip
    refine fw_iconst dX6_let_13 ⟨by decide, by decide⟩ ?_
    exact fw_iret dX6_let_14 ⟨rfl, rfl, rfl⟩ (⟨by rw [if_neg (by omega)], rfl, by rw [if_neg (by omega)]⟩)

set_option maxRecDepth 20000 in
set_option maxHeartbeats 4000000 in
theorem sp_X6_let (M N : fw_F) (L K : fw_G) (hR : Rel M L (fw_upd N 0 0 0) K) (m : Int) : fw_SD mX6_let [fw_r 0, fw_i m] N K (fun r N2 K2 => r = some (fw_i (if 0 ≤ m ∧ m < (fw_upd N 0 0 0) 0 2 then (if (fw_upd N 0 0 0) 6 m = -9 then -2 else (fw_upd N 0 0 0) 6 m) else -1)) ∧ (K2 = K ∧ N2 = (if 0 ≤ m ∧ m < (fw_upd N 0 0 0) 0 2 then fw_upd (fw_upd N 0 0 0) 6 m (-9) else (fw_upd N 0 0 0)))) := by
  refine fw_SP_of pl_X6_let (ls := [_, _]) rfl (Nat.le_of_ble_eq_true rfl) fun hA hM => ?_
  refine fw_aload_n dX6_let_0 rfl rfl ?_
  refine fw_iconst dX6_let_1 ⟨by decide, by decide⟩ ?_
  refine fw_puti 0 rfl dX6_let_2 fp_6_106 ly1_0 (by decide) ⟨by decide, by decide⟩ rfl ?_
  exact pm_X6_let M (fw_upd N 0 0 0) L K hR m
