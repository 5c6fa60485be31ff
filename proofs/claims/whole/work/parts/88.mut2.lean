theorem rl_night {M N M2 N2 : fw_F} {L K : fw_G} (hR : Rel M L N K) (hc : N 0 4 < 29) (g1 : ∀ k, ¬ k = 1 → ¬ k = 5 → M2 k = M k) (g2 : M2 1 7 = M 1 7 + 1 ∧ ∀ j, ¬ j = 7 → M2 1 j = M 1 j) (g3 : ∀ z, M2 5 z = if M 1 7 * 16 + 16 ≤ z ∧ z < M 1 7 * 16 + 32 then M 5 (z - 16) else M 5 z) (h : (∀ k, ¬ k = 0 → ¬ k = 5 → N2 k = N k) ∧ (N2 0 4 = N 0 4 + 1 ∧ ∀ j, ¬ j = 4 → N2 0 j = N 0 j) ∧ (∀ z, N2 5 z = if 16 * N 0 4 ≤ z ∧ z < 16 * N 0 4 + 16 then N 4 (z - 16 * N 0 4) else N 5 z)) : Rel M2 L N2 K := by
  obtain ⟨ha, hg, hk, ho, hp, hs⟩ := hR
  obtain ⟨d1, d2, d3⟩ := h
  have e16 := g2.2 6 (by decide)
  have e3 := g1 3 (by decide) (by decide)
  refine ⟨?_, rl_g_c hg e3 e16 (g1 4 (by decide) (by decide)) (fun k a b => ⟨g1 k (by omega) (by omega), rfl⟩) (d2.2 2 (by decide)) (d1 1 (by decide) (by decide)) (d1 2 (by decide) (by decide)) rfl, ?_, rl_o_c ho (g1 6 (by decide) (by decide)) (g1 7 (by decide) (by decide)) e3 e16 (d1 2 (by decide) (by decide)) (d1 6 (by decide) (by decide)), rl_p_c hp (fun k a b => ⟨g1 k (by omega) (by omega), rfl⟩) (g1 197 (by decide) (by decide)) (d1 20 (by decide) (by decide)) (d1 21 (by decide) (by decide)) (d1 23 (by decide) (by decide)) rfl, rl_s_c hs (by rw [g1 198 (by decide) (by decide)]) (g1 199 (by decide) (by decide)) (g1 200 (by decide) (by decide)) (g1 201 (by decide) (by decide)) (g1 202 (by decide) (by decide)) (d2.2 31 (by decide)) (d1 26 (by decide) (by decide)) (d1 27 (by decide) (by decide)) (d1 28 (by decide) (by decide)) (d1 29 (by decide) (by decide))⟩
  · obtain ⟨a1, a2, a3, a4, a5, a6⟩ := ha
    refine ⟨?_, ?_, a3, ?_, ?_, ?_⟩
    · rw [g1 0 (by decide) (by decide), d2.2 2 (by decide)]; exact a1
    · rw [g1 0 (by decide) (by decide), d2.2 3 (by decide)]; exact a2
    · rw [g2.1, d2.1, a4]
    · rw [d2.1]; omega
    · rw [d2.2 3 (by decide)]; exact a6
  · have a4 := ha.2.2.2.1
    have a5 := ha.2.2.2.2.1
    have kn : ∀ d m p, 0 ≤ d → d ≤ N 0 4 → 0 ≤ m → m < 4 → 0 ≤ p → p < 4 → rl_kn N2 d m p = rl_kn N d m p := fun d m p x0 x1 x2 x3 x4 x5 => by
      unfold rl_kn
      rw [if_neg (by omega), d3]
      by_cases hd : d = N 0 4
      · rw [if_pos (by omega), if_pos hd, hd]; congr 1; omega
      · rw [if_neg (by omega), if_neg hd]
    refine ⟨fun d m p x0 x1 x2 x3 x4 x5 => ?_, fun m x0 x1 => ?_⟩
    · rw [d1 1 (by decide) (by decide)]
      by_cases hd : d = N 0 4 + 1
      · have h9 := hk.1 (N 0 4) m p a5.1 (Int.le_refl _) x2 x3 x4 x5
        have e : rl_kn N2 d m p = rl_kn N (N 0 4) m p := by
          rw [rl_kn_now]
          unfold rl_kn
          rw [if_pos (by omega), d1 4 (by decide) (by decide)]
        rw [e, g3, if_pos (by omega), ← h9.1]
        refine ⟨?_, h9.1 ▸ h9.2.1, h9.1 ▸ h9.2.2⟩
        congr 1
        omega
      · rw [kn d m p x0 (by omega) x2 x3 x4 x5, g3, if_neg (by omega)]
        exact hk.1 d m p x0 (by omega) x2 x3 x4 x5
    · rw [d1 4 (by decide) (by decide), d1 1 (by decide) (by decide)]
      exact hk.2 m x0 x1

set_option maxRecDepth 20000 in
set_option maxHeartbeats 4000000 in
theorem sp_X5_night (M N : fw_F) (L K : fw_G) (hR : Rel M L N K)  : fw_SC mX5_night [fw_r 0] M L (fun r M2 L2 => r = some (fw_i (if N 0 4 < 29 then N 0 4 + 1 else -2)) ∧ ∀ N2 K2, (K2 = K ∧ (¬ (N 0 4 < 29) → N2 = N) ∧ (N 0 4 < 29 → (∀ k, ¬ k = 0 → ¬ k = 5 → N2 k = N k) ∧ (N2 0 4 = N 0 4 + 1 ∧ ∀ j, ¬ j = 4 → N2 0 j = N 0 j) ∧ (∀ z, N2 5 z = if 16 * N 0 4 ≤ z ∧ z < 16 * N 0 4 + 16 then N 4 (z - 16 * N 0 4) else N 5 z))) → Rel M2 L2 N2 K2) := by
  refine fw_SP_of pl_X5_night (ls := [_]) rfl (Nat.le_of_ble_eq_true rfl) fun hA hM => ?_
  obtain ⟨ha1, ha2, ha3, ha4, ha5, ha6⟩ := hR.1
  have hn1 := hR.2.1.1.1.1
  have hn2 := hR.2.1.1.1.2.1
  refine fw_aload_n dX5_night_0 rfl rfl ?_
  refine fw_getr 0 1 rfl dX5_night_1 ff_5_12 ly0_0 ⟨by decide, by decide⟩ rfl rfl (by decide) ?_
  refine fw_geti 7 rfl dX5_night_4 ff_5_214 ly0_1 ⟨by decide, by decide⟩ rfl ?_
  refine fw_bipush dX5_night_7 ⟨by decide, by decide⟩ (by decide) ?_
  refine fw_icmp_lt 15 dX5_night_9 (by decide) (fun h9 => ?_) (fun h9 => ?_)
  · skip
    refine fw_aload_n dX5_night_15 rfl rfl ?_
    refine fw_getr 0 1 rfl dX5_night_16 ff_5_12 ly0_0 ⟨by decide, by decide⟩ rfl rfl (by decide) ?_
    refine fw_cV mX1_nextDay [] dX5_night_19 mv_X1_nextDay lk_5_256 ⟨⟨by decide, by decide⟩, rfl, rfl, rfl, by decide, by decide⟩ ly0_1 ⟨by decide, by decide⟩ rfl rfl (Nat.le_of_ble_eq_true rfl) (sp_X1_nextDay M L (by omega)) (fun r M1 L1 hp hM1 => ?_)
    obtain ⟨rfl, rfl, g1, g2, g3⟩ := hp
    refine fw_aload_n dX5_night_22 rfl rfl ?_
    refine fw_getr 0 1 rfl dX5_night_23 ff_5_12 ly0_0 ⟨by decide, by decide⟩ rfl rfl (by decide) ?_
    refine fw_geti 7 rfl dX5_night_26 ff_5_214 ly0_1 ⟨by decide, by decide⟩ rfl ?_
    refine fw_iret dX5_night_29 ⟨rfl, rfl, rfl⟩ ?_
    refine ⟨by rw [if_pos (by omega), g2.1, ha4], fun N2 K2 h => ?_⟩
    rw [h.1]; exact rl_night hR (by omega) g1 g2 g3 (h.2.2 (by omega))
  · skip
    refine fw_bipush dX5_night_12 ⟨by decide, by decide⟩ (by decide) ?_
    refine fw_iret dX5_night_14 ⟨rfl, rfl, rfl⟩ ?_
    refine ⟨by rw [if_neg (by omega)], fun N2 K2 h => ?_⟩
    rw [h.1, h.2.1 (by omega)]; exact hR

set_option maxRecDepth 20000 in
set_option maxHeartbeats 4000000 in
theorem lp_X6_night (M N : fw_F) (L K : fw_G) (hR : Rel M L N K) (hc : N 0 4 < 29) : ∀ (q : Nat) (i : Int) (N1 : fw_F), 16 - i < q → 0 ≤ i → i ≤ 16 → (∀ k, ¬ k = 5 → N1 k = N k) → (∀ z, N1 5 z = if 16 * N 0 4 ≤ z ∧ z < 16 * N 0 4 + i then N 4 (z - 16 * N 0 4) else N 5 z) → fw_D mX6_night 19 [some (fw_r 0), some (fw_i i)] [] N1 K (fun r N2 K2 => r = some (fw_i (if N 0 4 < 29 then N 0 4 + 1 else -2)) ∧ (K2 = K ∧ (¬ (N 0 4 < 29) → N2 = N) ∧ (N 0 4 < 29 → (∀ k, ¬ k = 0 → ¬ k = 5 → N2 k = N k) ∧ (N2 0 4 = N 0 4 + 1 ∧ ∀ j, ¬ j = 4 → N2 0 j = N 0 j) ∧ (∀ z, N2 5 z = if 16 * N 0 4 ≤ z ∧ z < 16 * N 0 4 + 16 then N 4 (z - 16 * N 0 4) else N 5 z)))) := by
  intro q
  induction q with
  | zero => intro i N1 h0 h1 h2; omega
  | succ q ih =>
    intro i N1 h0 h1 h2 h3 h4
    have ha5 := hR.1.2.2.2.2.1
    have e0 := h3 0 (by decide)
    have e4 := h3 4 (by decide)
    refine fw_iload_n dX6_night_19 rfl rfl ?_
    refine fw_bipush dX6_night_20 ⟨by decide, by decide⟩ (by decide) ?_
    refine fw_icmp_ge 51 dX6_night_22 (by decide) (fun h22 => ?_) (fun h22 => ?_)
    · skip
      refine fw_aload_n dX6_night_51 rfl rfl ?_
      refine fw_dup dX6_night_52 rfl ?_
      refine fw_geti 4 rfl dX6_night_53 ff_6_109 ly1_0 ⟨by decide, by decide⟩ rfl ?_
      rw [e0]
      refine fw_iconst dX6_night_56 ⟨by decide, by decide⟩ ?_
      refine fw_iadd dX6_night_57 ⟨by omega, by omega⟩ ?_
      refine fw_puti 4 rfl dX6_night_58 fp_6_109 ly1_0 (by decide) ⟨by decide, by decide⟩ rfl ?_
      refine fw_aload_n dX6_night_61 rfl rfl ?_
      refine fw_geti 4 rfl dX6_night_62 ff_6_109 ly1_0 ⟨by decide, by decide⟩ rfl ?_
      refine fw_iret dX6_night_65 ⟨rfl, rfl, rfl⟩ ?_
      refine ⟨by rw [fw_updj, if_pos hc], rfl, fun h => absurd hc h, fun _ => ⟨fun k a b => ?_, ⟨fw_updj, fun j a => ?_⟩, fun z => ?_⟩⟩
      · rw [fw_updne a]; exact h3 k b
      · rw [fw_updjn a, e0]
      · rw [fw_updne (by decide), h4, show i = 16 by omega]
    · skip
      refine fw_aload_n dX6_night_25 rfl rfl ?_
      refine fw_getr 9 5 rfl dX6_night_26 ff_6_27 ly1_0 ⟨by decide, by decide⟩ rfl rfl (by decide) ?_
      refine fw_bipush dX6_night_29 ⟨by decide, by decide⟩ (by decide) ?_
      refine fw_aload_n dX6_night_31 rfl rfl ?_
      refine fw_geti 4 rfl dX6_night_32 ff_6_109 ly1_0 ⟨by decide, by decide⟩ rfl ?_
      rw [e0]
      refine fw_imul dX6_night_35 ⟨by omega, by omega⟩ ?_
      refine fw_iload_n dX6_night_36 rfl rfl ?_
      refine fw_iadd dX6_night_37 ⟨by omega, by omega⟩ ?_
      refine fw_aload_n dX6_night_38 rfl rfl ?_
      refine fw_getr 8 4 rfl dX6_night_39 ff_6_24 ly1_0 ⟨by decide, by decide⟩ rfl rfl (by decide) ?_
      refine fw_iload_n dX6_night_42 rfl rfl ?_
      refine fw_iaload dX6_night_43 ly1_4 ⟨by decide, by decide⟩ ⟨by omega, by omega⟩ ?_
      rw [e4]
      refine fw_iastore dX6_night_44 ly1_5 (by decide) ⟨by decide, by decide⟩ ⟨by omega, by omega⟩ ?_
      refine fw_iinc (ls2 := [_, _]) dX6_night_45 rfl ⟨by omega, by omega⟩ (by decide) rfl ?_
      refine fw_goto 19 dX6_night_48 (by decide) ?_
      refine ih (i + 1) _ (by omega) (by omega) (by omega) (fun k a => (fw_updne a).trans (h3 k a)) (fun z => ?_)
      rw [fw_updeq, h4]
      by_cases hz : z = 16 * N 0 4 + i
      · rw [if_pos hz, if_pos (by omega)]; congr 1; omega
      · rw [if_neg hz]
        by_cases hy : 16 * N 0 4 ≤ z ∧ z < 16 * N 0 4 + i
        · rw [if_pos hy, if_pos (by omega)]
        · rw [if_neg hy, if_neg (by omega)]

set_option maxRecDepth 20000 in
set_option maxHeartbeats 4000000 in
theorem pm_X6_night (M N : fw_F) (L K : fw_G) (hR : Rel M L N K)  : fw_D mX6_night 5 [some (fw_r 0)] [] N K (fun r N2 K2 => r = some (fw_i (if N 0 4 < 29 then N 0 4 + 1 else -2)) ∧ (K2 = K ∧ (¬ (N 0 4 < 29) → N2 = N) ∧ (N 0 4 < 29 → (∀ k, ¬ k = 0 → ¬ k = 5 → N2 k = N k) ∧ (N2 0 4 = N 0 4 + 1 ∧ ∀ j, ¬ j = 4 → N2 0 j = N 0 j) ∧ (∀ z, N2 5 z = if 16 * N 0 4 ≤ z ∧ z < 16 * N 0 4 + 16 then N 4 (z - 16 * N 0 4) else N 5 z)))) := by
  obtain ⟨ha1, ha2, ha3, ha4, ha5, ha6⟩ := hR.1
  have hn1 := hR.2.1.1.1.1
  have hn2 := hR.2.1.1.1.2.1
  refine fw_aload_n dX6_night_5 rfl rfl ?_
  refine fw_geti 4 rfl dX6_night_6 ff_6_109 ly1_0 ⟨by decide, by decide⟩ rfl ?_
  refine fw_bipush dX6_night_9 ⟨by decide, by decide⟩ (by decide) ?_
  refine fw_icmp_ne 17 dX6_night_11 (by decide) (fun h11 => ?_) (fun h11 => ?_)
  · skip
    refine fw_iconst dX6_night_17 ⟨by decide, by decide⟩ ?_
    refine fw_istore_n (ls2 := [_, _]) dX6_night_18 rfl (by decide) rfl ?_
    exact lp_X6_night M N L K hR (by omega) 17 0 N (by decide) (by decide) (by decide) (fun _ _ => rfl) (fun z => by rw [if_neg (by omega)])
  · skip
    refine fw_bipush dX6_night_14 ⟨by decide, by decide⟩ (by decide) ?_
    exact fw_iret dX6_night_16 ⟨rfl, rfl, rfl⟩ (⟨by rw [if_neg (by omega)], rfl, fun _ => rfl, fun h => absurd h (by omega)⟩)

set_option maxRecDepth 20000 in
set_option maxHeartbeats 4000000 in
theorem sp_X6_night (M N : fw_F) (L K : fw_G) (hR : Rel M L (fw_upd N 0 0 0) K)  : fw_SD mX6_night [fw_r 0] N K (fun r N2 K2 => r = some (fw_i (if (fw_upd N 0 0 0) 0 4 < 29 then (fw_upd N 0 0 0) 0 4 + 1 else -2)) ∧ (K2 = K ∧ (¬ ((fw_upd N 0 0 0) 0 4 < 29) → N2 = (fw_upd N 0 0 0)) ∧ ((fw_upd N 0 0 0) 0 4 < 29 → (∀ k, ¬ k = 0 → ¬ k = 5 → N2 k = (fw_upd N 0 0 0) k) ∧ (N2 0 4 = (fw_upd N 0 0 0) 0 4 + 1 ∧ ∀ j, ¬ j = 4 → N2 0 j = (fw_upd N 0 0 0) 0 j) ∧ (∀ z, N2 5 z = if 16 * (fw_upd N 0 0 0) 0 4 ≤ z ∧ z < 16 * (fw_upd N 0 0 0) 0 4 + 16 then (fw_upd N 0 0 0) 4 (z - 16 * (fw_upd N 0 0 0) 0 4) else (fw_upd N 0 0 0) 5 z)))) := by
  refine fw_SP_of pl_X6_night (ls := [_]) rfl (Nat.le_of_ble_eq_true rfl) fun hA hM => ?_
  refine fw_aload_n dX6_night_0 rfl rfl ?_
  refine fw_iconst dX6_night_1 ⟨by decide, by decide⟩ ?_
  refine fw_puti 0 rfl dX6_night_2 fp_6_106 ly1_0 (by decide) ⟨by decide, by decide⟩ rfl ?_
  exact pm_X6_night M (fw_upd N 0 0 0) L K hR 

theorem rl_share {M N M2 N2 : fw_F} {L K : fw_G} (hR : Rel M L N K) {pe t : Int} (hc : N 0 31 < 20) (g1 : ∀ k, ¬ k = 198 → ¬ k = 199 → ¬ k = 200 → ¬ k = 201 → ¬ k = 202 → M2 k = M k) (g2 : M2 198 4 = M 198 4 + 1) (g3 : ∀ i, M2 199 i = if i = M 198 4 then pe else M 199 i) (g4 : ∀ i, M2 200 i = if i = M 198 4 then t else M 200 i) (g5 : ∀ i, M2 201 i = if i = M 198 4 then M 1 7 else M 201 i) (g6 : ∀ i, M2 202 i = if i = M 198 4 then -9 else M 202 i) (h : (∀ k, ¬ k = 0 → k < 26 → N2 k = N k) ∧ (N2 0 31 = N 0 31 + 1 ∧ ∀ j, ¬ j = 31 → N2 0 j = N 0 j) ∧ (∀ i, N2 26 i = if i = N 0 31 then pe else N 26 i) ∧ (∀ i, N2 27 i = if i = N 0 31 then t else N 27 i) ∧ (∀ i, N2 28 i = if i = N 0 31 then N 0 4 else N 28 i) ∧ (∀ i, N2 29 i = if i = N 0 31 then -9 else N 29 i)) : Rel M2 L N2 K := by
  obtain ⟨ha, hg, hk, ho, hp, hs⟩ := hR
  obtain ⟨d1, d2, d3, d4, d5, d6⟩ := h
  have gg : ∀ k, k < 198 → M2 k = M k := fun k a => g1 k (by omega) (by omega) (by omega) (by omega) (by omega)
  refine ⟨?_, rl_g_c hg (gg 3 (by decide)) (by rw [gg 1 (by decide)]) (gg 4 (by decide)) (fun k a b => ⟨gg k (by omega), rfl⟩) (d2.2 2 (by decide)) (d1 1 (by decide) (by decide)) (d1 2 (by decide) (by decide)) rfl, rl_k_c hk (gg 5 (by decide)) (d2.2 4 (by decide)) (d1 1 (by decide) (by decide)) (d1 4 (by decide) (by decide)) (d1 5 (by decide) (by decide)), rl_o_c ho (gg 6 (by decide)) (gg 7 (by decide)) (gg 3 (by decide)) (by rw [gg 1 (by decide)]) (d1 2 (by decide) (by decide)) (d1 6 (by decide) (by decide)), rl_p_c hp (fun k a b => ⟨gg k (by omega), rfl⟩) (gg 197 (by decide)) (d1 20 (by decide) (by decide)) (d1 21 (by decide) (by decide)) (d1 23 (by decide) (by decide)) rfl, ?_⟩
  · unfold rl_a at ha ⊢
    rw [gg 0 (by decide), gg 1 (by decide), d2.2 2 (by decide), d2.2 3 (by decide), d2.2 4 (by decide)]; exact ha
  · obtain ⟨s1, s2, s3⟩ := hs
    refine ⟨by rw [g2, d2.1, s1], by rw [d2.1]; omega, fun i a b => ?_⟩
    rw [g3, g4, g5, g6, d3, d4, d5, d6, s1, ha.2.2.2.1]
    by_cases hi : i = N 0 31
    · simp [hi]
    · simp only [if_neg hi]; exact s3 i a (by omega)

set_option maxRecDepth 20000 in
set_option maxHeartbeats 4000000 in
theorem sp_X5_share (M N : fw_F) (L K : fw_G) (hR : Rel M L N K) (pe t : Int) : fw_SC mX5_share [fw_r 0, fw_i pe, fw_i t] M L (fun r M2 L2 => r = some (fw_i (if ¬ ((0 ≤ pe ∧ pe < 8) ∧ (0 ≤ t ∧ t < 12)) then -1 else if 20 ≤ N 0 31 then -3 else N 0 31)) ∧ ∀ N2 K2, (K2 = K ∧ (¬ (((0 ≤ pe ∧ pe < 8) ∧ (0 ≤ t ∧ t < 12)) ∧ N 0 31 < 20) → N2 = N) ∧ (((0 ≤ pe ∧ pe < 8) ∧ (0 ≤ t ∧ t < 12)) ∧ N 0 31 < 20 → (∀ k, ¬ k = 0 → k < 26 → N2 k = N k) ∧ (N2 0 31 = N 0 31 + 1 ∧ ∀ j, ¬ j = 31 → N2 0 j = N 0 j) ∧ (∀ i, N2 26 i = if i = N 0 31 then pe else N 26 i) ∧ (∀ i, N2 27 i = if i = N 0 31 then t else N 27 i) ∧ (∀ i, N2 28 i = if i = N 0 31 then N 0 4 else N 28 i) ∧ (∀ i, N2 29 i = if i = N 0 31 then -9 else N 29 i))) → Rel M2 L2 N2 K2) := by
  refine fw_SP_of pl_X5_share (ls := [_, _, _]) rfl (Nat.le_of_ble_eq_true rfl) fun hA hM => ?_
  obtain ⟨ha1, ha2, ha3, ha4, ha5, ha6⟩ := hR.1
  have hn1 := hR.2.1.1.1.1
  have hn2 := hR.2.1.1.1.2.1
  refine fw_iload_n dX5_share_0 rfl rfl ?_
  refine fw_pS mX5_isPerson [_] dX5_share_1 mv_X5_isPerson lk_5_259 ⟨⟨by decide, by decide⟩, rfl, rfl, rfl, by decide, by decide⟩ rfl rfl (Nat.le_of_ble_eq_true rfl) (sp_X5_isPerson _ _ _) ?_
  refine fw_bifeq 14 dX5_share_4 (by decide) (fun h4 => ?_) (fun h4 => ?_)
  · skip
    refine fw_iconst dX5_share_14 ⟨by decide, by decide⟩ ?_
    refine fw_iret dX5_share_15 ⟨rfl, rfl, rfl⟩ ?_
    refine ⟨by rw [if_pos (by omega)], fun N2 K2 h => ?_⟩
    rw [h.1, h.2.1 (by omega)]; exact hR
  · skip
    refine fw_iload_n dX5_share_7 rfl rfl ?_
    refine fw_pS mX5_isThing [_] dX5_share_8 mv_X5_isThing lk_5_66 ⟨⟨by decide, by decide⟩, rfl, rfl, rfl, by decide, by decide⟩ rfl rfl (Nat.le_of_ble_eq_true rfl) (sp_X5_isThing _ _ _) ?_
    refine fw_bifne 16 dX5_share_11 (by decide) (fun h11 => ?_) (fun h11 => ?_)
    · skip
      obtain ⟨s1, s2, s3⟩ := hR.2.2.2.2.2
      refine fw_aload_n dX5_share_16 rfl rfl ?_
      refine fw_getr 6 198 rfl dX5_share_17 ff_5_48 ly0_0 ⟨by decide, by decide⟩ rfl rfl (by decide) ?_
      refine fw_geti 4 rfl dX5_share_20 ff_5_262 ly0_198 ⟨by decide, by decide⟩ rfl ?_
      refine fw_bipush dX5_share_23 ⟨by decide, by decide⟩ (by decide) ?_
      refine fw_icmp_lt 31 dX5_share_25 (by decide) (fun h25 => ?_) (fun h25 => ?_)
      · skip
        refine fw_aload_n dX5_share_31 rfl rfl ?_
        refine fw_getr 6 198 rfl dX5_share_32 ff_5_48 ly0_0 ⟨by decide, by decide⟩ rfl rfl (by decide) ?_
        refine fw_iload_n dX5_share_35 rfl rfl ?_
        refine fw_iload_n dX5_share_36 rfl rfl ?_
        refine fw_aload_n dX5_share_37 rfl rfl ?_
        refine fw_getr 0 1 rfl dX5_share_38 ff_5_12 ly0_0 ⟨by decide, by decide⟩ rfl rfl (by decide) ?_
        refine fw_geti 7 rfl dX5_share_41 ff_5_214 ly0_1 ⟨by decide, by decide⟩ rfl ?_
        refine fw_cV mX3_begin [_, _, _] dX5_share_44 mv_X3_begin lk_5_263 ⟨⟨by decide, by decide⟩, rfl, rfl, rfl, by decide, by decide⟩ ly0_198 ⟨by decide, by decide⟩ rfl rfl (Nat.le_of_ble_eq_true rfl) (sp_X3_begin pe t (M 1 7) M L (by omega)) (fun r M1 L1 hp hM1 => ?_)
        obtain ⟨rfl, rfl, g1, g2, g3, g4, g5, g6⟩ := hp
        refine fw_iret dX5_share_47 ⟨rfl, rfl, rfl⟩ ?_
        refine ⟨by rw [if_neg (by omega), if_neg (by omega), s1], fun N2 K2 h => ?_⟩
        rw [h.1]; exact rl_share hR (by omega) g1 g2 g3 g4 g5 g6 (h.2.2 (by omega))
      · skip
        refine fw_bipush dX5_share_28 ⟨by decide, by decide⟩ (by decide) ?_
        refine fw_iret dX5_share_30 ⟨rfl, rfl, rfl⟩ ?_
        refine ⟨by rw [if_neg (by omega), if_pos (by omega)], fun N2 K2 h => ?_⟩
        rw [h.1, h.2.1 (by omega)]; exact hR
    · skip
      refine fw_iconst dX5_share_14 ⟨by decide, by decide⟩ ?_
      refine fw_iret dX5_share_15 ⟨rfl, rfl, rfl⟩ ?_
      refine ⟨by rw [if_pos (by omega)], fun N2 K2 h => ?_⟩
      rw [h.1, h.2.1 (by omega)]; exact hR

set_option maxRecDepth 20000 in
set_option maxHeartbeats 4000000 in
theorem pm_X6_share (M N : fw_F) (L K : fw_G) (hR : Rel M L N K) (pe t : Int) : fw_D mX6_share 5 [some (fw_r 0), some (fw_i pe), some (fw_i t)] [] N K (fun r N2 K2 => r = some (fw_i (if ¬ ((0 ≤ pe ∧ pe < 8) ∧ (0 ≤ t ∧ t < 12)) then -1 else if 20 ≤ N 0 31 then -3 else N 0 31)) ∧ (K2 = K ∧ (¬ (((0 ≤ pe ∧ pe < 8) ∧ (0 ≤ t ∧ t < 12)) ∧ N 0 31 < 20) → N2 = N) ∧ (((0 ≤ pe ∧ pe < 8) ∧ (0 ≤ t ∧ t < 12)) ∧ N 0 31 < 20 → (∀ k, ¬ k = 0 → k < 26 → N2 k = N k) ∧ (N2 0 31 = N 0 31 + 1 ∧ ∀ j, ¬ j = 31 → N2 0 j = N 0 j) ∧ (∀ i, N2 26 i = if i = N 0 31 then pe else N 26 i) ∧ (∀ i, N2 27 i = if i = N 0 31 then t else N 27 i) ∧ (∀ i, N2 28 i = if i = N 0 31 then N 0 4 else N 28 i) ∧ (∀ i, N2 29 i = if i = N 0 31 then -9 else N 29 i)))) := by
  obtain ⟨ha1, ha2, ha3, ha4, ha5, ha6⟩ := hR.1
  have hn1 := hR.2.1.1.1.1
  have hn2 := hR.2.1.1.1.2.1
  refine fw_iload_n dX6_share_5 rfl rfl ?_
  refine fw_iconst dX6_share_6 ⟨by decide, by decide⟩ ?_
  refine fw_bipush dX6_share_7 ⟨by decide, by decide⟩ (by decide) ?_
  refine fw_pS mX6_in [_, _, _] dX6_share_9 mv_X6_in lk_6_115 ⟨⟨by decide, by decide⟩, rfl, rfl, rfl, by decide, by decide⟩ rfl rfl (Nat.le_of_ble_eq_true rfl) (sp_X6_in _ _ _ _ _) ?_
  refine fw_bifeq 22 dX6_share_12 (by decide) (fun h12 => ?_) (fun h12 => ?_)
  · skip
    refine fw_iconst dX6_share_22 ⟨by decide, by decide⟩ ?_
    exact fw_iret dX6_share_23 ⟨rfl, rfl, rfl⟩ (⟨by rw [if_pos (by omega)], rfl, fun _ => rfl, fun h => absurd h (by omega)⟩)
  · skip
    refine fw_iload_n dX6_share_15 rfl rfl ?_
    refine fw_pS mX6_isThing [_] dX6_share_16 mv_X6_isThing lk_6_182 ⟨⟨by decide, by decide⟩, rfl, rfl, rfl, by decide, by decide⟩ rfl rfl (Nat.le_of_ble_eq_true rfl) (sp_X6_isThing _ _ _) ?_
    refine fw_bifne 24 dX6_share_19 (by decide) (fun h19 => ?_) (fun h19 => ?_)
    · skip
      have s2 := hR.2.2.2.2.2.2.1
      refine fw_aload_n dX6_share_24 rfl rfl ?_
      refine fw_geti 31 rfl dX6_share_25 ff_6_112 ly1_0 ⟨by decide, by decide⟩ rfl ?_
      refine fw_bipush dX6_share_28 ⟨by decide, by decide⟩ (by decide) ?_
      refine fw_icmp_ne 36 dX6_share_30 (by decide) (fun h30 => ?_) (fun h30 => ?_)
      · skip
        refine fw_aload_n dX6_share_36 rfl rfl ?_
        refine fw_getr 32 26 rfl dX6_share_37 ff_6_91 ly1_0 ⟨by decide, by decide⟩ rfl rfl (by decide) ?_
        refine fw_aload_n dX6_share_40 rfl rfl ?_
        refine fw_geti 31 rfl dX6_share_41 ff_6_112 ly1_0 ⟨by decide, by decide⟩ rfl ?_
        refine fw_iload_n dX6_share_44 rfl rfl ?_
        refine fw_iastore dX6_share_45 ly1_26 (by decide) ⟨by decide, by decide⟩ ⟨by omega, by omega⟩ ?_
        refine fw_aload_n dX6_share_46 rfl rfl ?_
        refine fw_getr 33 27 rfl dX6_share_47 ff_6_94 ly1_0 ⟨by decide, by decide⟩ rfl rfl (by decide) ?_
        refine fw_aload_n dX6_share_50 rfl rfl ?_
        refine fw_geti 31 rfl dX6_share_51 ff_6_112 ly1_0 ⟨by decide, by decide⟩ rfl ?_
        simp (disch := decide) only [fw_updne, fw_updj]
        refine fw_iload_n dX6_share_54 rfl rfl ?_
        refine fw_iastore dX6_share_55 ly1_27 (by decide) ⟨by decide, by decide⟩ ⟨by omega, by omega⟩ ?_
        refine fw_aload_n dX6_share_56 rfl rfl ?_
        refine fw_getr 34 28 rfl dX6_share_57 ff_6_97 ly1_0 ⟨by decide, by decide⟩ rfl rfl (by decide) ?_
        refine fw_aload_n dX6_share_60 rfl rfl ?_
        refine fw_geti 31 rfl dX6_share_61 ff_6_112 ly1_0 ⟨by decide, by decide⟩ rfl ?_
        simp (disch := decide) only [fw_updne, fw_updj]
        refine fw_aload_n dX6_share_64 rfl rfl ?_
        refine fw_geti 4 rfl dX6_share_65 ff_6_109 ly1_0 ⟨by decide, by decide⟩ rfl ?_
        simp (disch := decide) only [fw_updne, fw_updj]
        refine fw_iastore dX6_share_68 ly1_28 (by decide) ⟨by decide, by decide⟩ ⟨by omega, by omega⟩ ?_
        refine fw_aload_n dX6_share_69 rfl rfl ?_
        refine fw_getr 35 29 rfl dX6_share_70 ff_6_100 ly1_0 ⟨by decide, by decide⟩ rfl rfl (by decide) ?_
        refine fw_aload_n dX6_share_73 rfl rfl ?_
        refine fw_geti 31 rfl dX6_share_74 ff_6_112 ly1_0 ⟨by decide, by decide⟩ rfl ?_
        simp (disch := decide) only [fw_updne, fw_updj]
        refine fw_bipush dX6_share_77 ⟨by decide, by decide⟩ (by decide) ?_
        refine fw_iastore dX6_share_79 ly1_29 (by decide) ⟨by decide, by decide⟩ ⟨by omega, by omega⟩ ?_
        refine fw_aload_n dX6_share_80 rfl rfl ?_
        refine fw_dup dX6_share_81 rfl ?_
        refine fw_geti 31 rfl dX6_share_82 ff_6_112 ly1_0 ⟨by decide, by decide⟩ rfl ?_
        simp (disch := decide) only [fw_updne, fw_updj]
        refine fw_iconst dX6_share_85 ⟨by decide, by decide⟩ ?_
        refine fw_iadd dX6_share_86 ⟨by omega, by omega⟩ ?_
        refine fw_puti 31 rfl dX6_share_87 fp_6_112 ly1_0 (by decide) ⟨by decide, by decide⟩ rfl ?_
        refine fw_aload_n dX6_share_90 rfl rfl ?_
        refine fw_geti 31 rfl dX6_share_91 ff_6_112 ly1_0 ⟨by decide, by decide⟩ rfl ?_
        simp (disch := decide) only [fw_updne, fw_updj]
        refine fw_iconst dX6_share_94 ⟨by decide, by decide⟩ ?_
        refine fw_isub dX6_share_95 ⟨by omega, by omega⟩ ?_
        refine fw_iret dX6_share_96 ⟨rfl, rfl, rfl⟩ ?_
        refine ⟨by rw [if_neg (by omega), if_neg (by omega)]; congr 2; omega, rfl, fun h => absurd (by omega) h, fun _ => ⟨fun k a b => ?_, ⟨?_, fun j a => ?_⟩, fun i => ?_, fun i => ?_, fun i => ?_, fun i => ?_⟩⟩
        · simp (disch := omega) only [fw_updne]
        · exact fw_updj
        · rw [fw_updjn a]; simp (disch := decide) only [fw_updne]
        · simp (disch := decide) only [fw_updne, fw_updeq]
        · simp (disch := decide) only [fw_updne, fw_updeq]
        · simp (disch := decide) only [fw_updne, fw_updeq]
        · simp (disch := decide) only [fw_updne, fw_updeq]
      · skip
        refine fw_bipush dX6_share_33 ⟨by decide, by decide⟩ (by decide) ?_
        exact fw_iret dX6_share_35 ⟨rfl, rfl, rfl⟩ (⟨by rw [if_neg (by omega), if_pos (by omega)], rfl, fun _ => rfl, fun h => absurd h (by omega)⟩)
    · skip
      refine fw_iconst dX6_share_22 ⟨by decide, by decide⟩ ?_
      exact fw_iret dX6_share_23 ⟨rfl, rfl, rfl⟩ (⟨by rw [if_pos (by omega)], rfl, fun _ => rfl, fun h => absurd h (by omega)⟩)

set_option maxRecDepth 20000 in
set_option maxHeartbeats 4000000 in
theorem sp_X6_share (M N : fw_F) (L K : fw_G) (hR : Rel M L (fw_upd N 0 0 0) K) (pe t : Int) : fw_SD mX6_share [fw_r 0, fw_i pe, fw_i t] N K (fun r N2 K2 => r = some (fw_i (if ¬ ((0 ≤ pe ∧ pe < 8) ∧ (0 ≤ t ∧ t < 12)) then -1 else if 20 ≤ (fw_upd N 0 0 0) 0 31 then -3 else (fw_upd N 0 0 0) 0 31)) ∧ (K2 = K ∧ (¬ (((0 ≤ pe ∧ pe < 8) ∧ (0 ≤ t ∧ t < 12)) ∧ (fw_upd N 0 0 0) 0 31 < 20) → N2 = (fw_upd N 0 0 0)) ∧ (((0 ≤ pe ∧ pe < 8) ∧ (0 ≤ t ∧ t < 12)) ∧ (fw_upd N 0 0 0) 0 31 < 20 → (∀ k, ¬ k = 0 → k < 26 → N2 k = (fw_upd N 0 0 0) k) ∧ (N2 0 31 = (fw_upd N 0 0 0) 0 31 + 1 ∧ ∀ j, ¬ j = 31 → N2 0 j = (fw_upd N 0 0 0) 0 j) ∧ (∀ i, N2 26 i = if i = (fw_upd N 0 0 0) 0 31 then pe else (fw_upd N 0 0 0) 26 i) ∧ (∀ i, N2 27 i = if i = (fw_upd N 0 0 0) 0 31 then t else (fw_upd N 0 0 0) 27 i) ∧ (∀ i, N2 28 i = if i = (fw_upd N 0 0 0) 0 31 then (fw_upd N 0 0 0) 0 4 else (fw_upd N 0 0 0) 28 i) ∧ (∀ i, N2 29 i = if i = (fw_upd N 0 0 0) 0 31 then -9 else (fw_upd N 0 0 0) 29 i)))) := by
  refine fw_SP_of pl_X6_share (ls := [_, _, _]) rfl (Nat.le_of_ble_eq_true rfl) fun hA hM => ?_
  refine fw_aload_n dX6_share_0 rfl rfl ?_
  refine fw_iconst dX6_share_1 ⟨by decide, by decide⟩ ?_
  refine fw_puti 0 rfl dX6_share_2 fp_6_106 ly1_0 (by decide) ⟨by decide, by decide⟩ rfl ?_
  exact pm_X6_share M (fw_upd N 0 0 0) L K hR pe t

theorem rl_take {M N : fw_F} {L K : fw_G} (hR : Rel M L N K) {i : Int} : Rel (fw_upd M 202 i (M 1 7)) L (fw_upd N 29 i (N 0 4)) K := by
  obtain ⟨ha, hg, hk, ho, hp, hs⟩ := hR
  refine ⟨?_, rl_g_c hg (fw_updne (by decide)) (by rw [fw_updne (by decide)]) (fw_updne (by decide)) (fun k a b => ⟨fw_updne (by omega), rfl⟩) (by rw [fw_updne (by decide)]) (fw_updne (by decide)) (fw_updne (by decide)) rfl, rl_k_c hk (fw_updne (by decide)) (by rw [fw_updne (by decide)]) (fw_updne (by decide)) (fw_updne (by decide)) (fw_updne (by decide)), rl_o_c ho (fw_updne (by decide)) (fw_updne (by decide)) (fw_updne (by decide)) (by rw [fw_updne (by decide)]) (fw_updne (by decide)) (fw_updne (by decide)), rl_p_c hp (fun k a b => ⟨fw_updne (by omega), rfl⟩) (fw_updne (by decide)) (fw_updne (by decide)) (fw_updne (by decide)) (fw_updne (by decide)) rfl, ?_⟩
  · unfold rl_a at ha ⊢
    rw [fw_updne (by decide), fw_updne (show ¬ (1 : Int) = 202 by decide), fw_updne (show ¬ (0 : Int) = 29 by decide)]; exact ha
  · obtain ⟨s1, s2, s3⟩ := hs
    unfold rl_s
    simp (disch := decide) only [fw_updne, fw_updeq]
    refine ⟨s1, s2, fun j a b => ?_⟩
    rw [ha.2.2.2.1, (s3 j a b).2.2.2]
    exact ⟨(s3 j a b).1, (s3 j a b).2.1, (s3 j a b).2.2.1, rfl⟩

set_option maxRecDepth 20000 in
set_option maxHeartbeats 4000000 in
theorem sp_X5_take (M N : fw_F) (L K : fw_G) (hR : Rel M L N K) (i : Int) : fw_SC mX5_take [fw_r 0, fw_i i] M L (fun r M2 L2 => r = some (fw_i (if ¬ (0 ≤ i ∧ i < N 0 31) then -1 else if ¬ N 29 i = -9 then -2 else N 28 i)) ∧ ∀ N2 K2, (K2 = K ∧ N2 = (if (0 ≤ i ∧ i < N 0 31) ∧ N 29 i = -9 then fw_upd N 29 i (N 0 4) else N)) → Rel M2 L2 N2 K2) := by
  refine fw_SP_of pl_X5_take (ls := [_, _]) rfl (Nat.le_of_ble_eq_true rfl) fun hA hM => ?_
  obtain ⟨ha1, ha2, ha3, ha4, ha5, ha6⟩ := hR.1
  have hn1 := hR.2.1.1.1.1
  have hn2 := hR.2.1.1.1.2.1
  obtain ⟨s1, s2, s3⟩ := hR.2.2.2.2.2
  refine fw_iload_n dX5_take_0 rfl rfl ?_
  refine fw_if_lt 15 dX5_take_1 (by decide) (fun h1 => ?_) (fun h1 => ?_)
  · skip
    refine fw_iconst dX5_take_15 ⟨by decide, by decide⟩ ?_
    refine fw_iret dX5_take_16 ⟨rfl, rfl, rfl⟩ ?_
    refine ⟨by rw [if_pos (by omega)], fun N2 K2 h => ?_⟩
    rw [h.1, h.2, if_neg (by omega)]; exact hR
  · skip
    refine fw_iload_n dX5_take_4 rfl rfl ?_
    refine fw_aload_n dX5_take_5 rfl rfl ?_
    refine fw_getr 6 198 rfl dX5_take_6 ff_5_48 ly0_0 ⟨by decide, by decide⟩ rfl rfl (by decide) ?_
    refine fw_geti 4 rfl dX5_take_9 ff_5_262 ly0_198 ⟨by decide, by decide⟩ rfl ?_
    refine fw_icmp_lt 17 dX5_take_12 (by decide) (fun h12 => ?_) (fun h12 => ?_)
    · skip
      obtain ⟨q1, q2, q3, q4⟩ := s3 i (by omega) (by omega)
      refine fw_aload_n dX5_take_17 rfl rfl ?_
      refine fw_getr 6 198 rfl dX5_take_18 ff_5_48 ly0_0 ⟨by decide, by decide⟩ rfl rfl (by decide) ?_
      refine fw_getr 3 202 rfl dX5_take_21 ff_5_266 ly0_198 ⟨by decide, by decide⟩ rfl rfl (by decide) ?_
      refine fw_iload_n dX5_take_24 rfl rfl ?_
      refine fw_iaload dX5_take_25 ly0_202 ⟨by decide, by decide⟩ ⟨by omega, by omega⟩ ?_
      refine fw_bipush dX5_take_26 ⟨by decide, by decide⟩ (by decide) ?_
      refine fw_icmp_eq 34 dX5_take_28 (by decide) (fun h28 => ?_) (fun h28 => ?_)
      · skip
        refine fw_aload_n dX5_take_34 rfl rfl ?_
        refine fw_getr 6 198 rfl dX5_take_35 ff_5_48 ly0_0 ⟨by decide, by decide⟩ rfl rfl (by decide) ?_
        refine fw_getr 3 202 rfl dX5_take_38 ff_5_266 ly0_198 ⟨by decide, by decide⟩ rfl rfl (by decide) ?_
        refine fw_iload_n dX5_take_41 rfl rfl ?_
        refine fw_aload_n dX5_take_42 rfl rfl ?_
        refine fw_getr 0 1 rfl dX5_take_43 ff_5_12 ly0_0 ⟨by decide, by decide⟩ rfl rfl (by decide) ?_
        refine fw_geti 7 rfl dX5_take_46 ff_5_214 ly0_1 ⟨by decide, by decide⟩ rfl ?_
        refine fw_iastore dX5_take_49 ly0_202 (by decide) ⟨by decide, by decide⟩ ⟨by omega, by omega⟩ ?_
        refine fw_aload_n dX5_take_50 rfl rfl ?_
        refine fw_getr 6 198 rfl dX5_take_51 ff_5_48 ly0_0 ⟨by decide, by decide⟩ rfl rfl (by decide) ?_
        refine fw_getr 2 201 rfl dX5_take_54 ff_5_269 ly0_198 ⟨by decide, by decide⟩ rfl rfl (by decide) ?_
        refine fw_iload_n dX5_take_57 rfl rfl ?_
        refine fw_iaload dX5_take_58 ly0_201 ⟨by decide, by decide⟩ ⟨by omega, by omega⟩ ?_
        refine fw_iret dX5_take_59 ⟨rfl, rfl, rfl⟩ ?_
        rw [fw_updne (by decide)]
        refine ⟨by rw [if_neg (by omega), if_neg (by omega), q3], fun N2 K2 h => ?_⟩
        rw [h.1, h.2, if_pos (by omega)]; exact rl_take hR
      · skip
        refine fw_bipush dX5_take_31 ⟨by decide, by decide⟩ (by decide) ?_
        refine fw_iret dX5_take_33 ⟨rfl, rfl, rfl⟩ ?_
        refine ⟨by rw [if_neg (by omega), if_pos (by omega)], fun N2 K2 h => ?_⟩
        rw [h.1, h.2, if_neg (by omega)]; exact hR
    · skip
      refine fw_iconst dX5_take_15 ⟨by decide, by decide⟩ ?_
      refine fw_iret dX5_take_16 ⟨rfl, rfl, rfl⟩ ?_
      refine ⟨by rw [if_pos (by omega)], fun N2 K2 h => ?_⟩
      rw [h.1, h.2, if_neg (by omega)]; exact hR

set_option maxRecDepth 20000 in
set_option maxHeartbeats 4000000 in
theorem pm_X6_take (M N : fw_F) (L K : fw_G) (hR : Rel M L N K) (i : Int) : fw_D mX6_take 5 [some (fw_r 0), some (fw_i i)] [] N K (fun r N2 K2 => r = some (fw_i (if ¬ (0 ≤ i ∧ i < N 0 31) then -1 else if ¬ N 29 i = -9 then -2 else N 28 i)) ∧ (K2 = K ∧ N2 = (if (0 ≤ i ∧ i < N 0 31) ∧ N 29 i = -9 then fw_upd N 29 i (N 0 4) else N))) := by
  obtain ⟨ha1, ha2, ha3, ha4, ha5, ha6⟩ := hR.1
  have hn1 := hR.2.1.1.1.1
  have hn2 := hR.2.1.1.1.2.1
  have s2 := hR.2.2.2.2.2.2.1
  refine fw_iload_n dX6_take_5 rfl rfl ?_
  refine fw_iconst dX6_take_6 ⟨by decide, by decide⟩ ?_
  refine fw_aload_n dX6_take_7 rfl rfl ?_
  refine fw_geti 31 rfl dX6_take_8 ff_6_112 ly1_0 ⟨by decide, by decide⟩ rfl ?_
  refine fw_iconst dX6_take_11 ⟨by decide, by decide⟩ ?_
  refine fw_isub dX6_take_12 ⟨by omega, by omega⟩ ?_
  refine fw_pS mX6_in [_, _, _] dX6_take_13 mv_X6_in lk_6_115 ⟨⟨by decide, by decide⟩, rfl, rfl, rfl, by decide, by decide⟩ rfl rfl (Nat.le_of_ble_eq_true rfl) (sp_X6_in _ _ _ _ _) ?_
  refine fw_bifne 21 dX6_take_16 (by decide) (fun h16 => ?_) (fun h16 => ?_)
  · skip
    refine fw_aload_n dX6_take_21 rfl rfl ?_
    refine fw_getr 35 29 rfl dX6_take_22 ff_6_100 ly1_0 ⟨by decide, by decide⟩ rfl rfl (by decide) ?_
    refine fw_iload_n dX6_take_25 rfl rfl ?_
    refine fw_iaload dX6_take_26 ly1_29 ⟨by decide, by decide⟩ ⟨by omega, by omega⟩ ?_
    refine fw_bipush dX6_take_27 ⟨by decide, by decide⟩ (by decide) ?_
    refine fw_icmp_eq 35 dX6_take_29 (by decide) (fun h29 => ?_) (fun h29 => ?_)
    · skip
      refine fw_aload_n dX6_take_35 rfl rfl ?_
      refine fw_getr 35 29 rfl dX6_take_36 ff_6_100 ly1_0 ⟨by decide, by decide⟩ rfl rfl (by decide) ?_
      refine fw_iload_n dX6_take_39 rfl rfl ?_
      refine fw_aload_n dX6_take_40 rfl rfl ?_
      refine fw_geti 4 rfl dX6_take_41 ff_6_109 ly1_0 ⟨by decide, by decide⟩ rfl ?_
      refine fw_iastore dX6_take_44 ly1_29 (by decide) ⟨by decide, by decide⟩ ⟨by omega, by omega⟩ ?_
      refine fw_aload_n dX6_take_45 rfl rfl ?_
      refine fw_getr 34 28 rfl dX6_take_46 ff_6_97 ly1_0 ⟨by decide, by decide⟩ rfl rfl (by decide) ?_
      refine fw_iload_n dX6_take_49 rfl rfl ?_
      refine fw_iaload dX6_take_50 ly1_28 ⟨by decide, by decide⟩ ⟨by omega, by omega⟩ ?_
      exact fw_iret dX6_take_51 ⟨rfl, rfl, rfl⟩ (⟨by rw [fw_updne (by decide), if_neg (by omega), if_neg (by omega)], rfl, by rw [if_pos (by omega)]⟩)
    · skip
      refine fw_bipush dX6_take_32 ⟨by decide, by decide⟩ (by decide) ?_
      exact fw_iret dX6_take_34 ⟨rfl, rfl, rfl⟩ (⟨by rw [if_neg (by omega), if_pos (by omega)], rfl, by rw [if_neg (by omega)]⟩)
  · skip
    refine fw_iconst dX6_take_19 ⟨by decide, by decide⟩ ?_
    exact fw_iret dX6_take_20 ⟨rfl, rfl, rfl⟩ (⟨by rw [if_pos (by omega)], rfl, by rw [if_neg (by omega)]⟩)

set_option maxRecDepth 20000 in
set_option maxHeartbeats 4000000 in
theorem sp_X6_take (M N : fw_F) (L K : fw_G) (hR : Rel M L (fw_upd N 0 0 0) K) (i : Int) : fw_SD mX6_take [fw_r 0, fw_i i] N K (fun r N2 K2 => r = some (fw_i (if ¬ (0 ≤ i ∧ i < (fw_upd N 0 0 0) 0 31) then -1 else if ¬ (fw_upd N 0 0 0) 29 i = -9 then -2 else (fw_upd N 0 0 0) 28 i)) ∧ (K2 = K ∧ N2 = (if (0 ≤ i ∧ i < (fw_upd N 0 0 0) 0 31) ∧ (fw_upd N 0 0 0) 29 i = -9 then fw_upd (fw_upd N 0 0 0) 29 i ((fw_upd N 0 0 0) 0 4) else (fw_upd N 0 0 0)))) := by
  refine fw_SP_of pl_X6_take (ls := [_, _]) rfl (Nat.le_of_ble_eq_true rfl) fun hA hM => ?_
  refine fw_aload_n dX6_take_0 rfl rfl ?_
  refine fw_iconst dX6_take_1 ⟨by decide, by decide⟩ ?_
  refine fw_puti 0 rfl dX6_take_2 fp_6_106 ly1_0 (by decide) ⟨by decide, by decide⟩ rfl ?_
  exact pm_X6_take M (fw_upd N 0 0 0) L K hR i

def md_pl (N : fw_F) (K : fw_G) (m : Int) : List pc_P := (List.range (N 21 m).toNat).map (fun i : Nat => (K 22 (200 * m + i), N 23 (200 * m + i)))
theorem pm_at_eq {N : fw_F} {K : fw_G} {m : Int} {l : List pc_P} (h : pm_at N K m l) : l = md_pl N K m := by
  obtain ⟨h1, h2⟩ := h
  unfold md_pl
  apply List.ext_getElem?
  intro i
  rw [List.getElem?_map]
  by_cases hi : i < l.length
  · obtain ⟨a, ha⟩ : ∃ a, l[i]? = some a := ⟨_, List.getElem?_eq_getElem hi⟩
    rw [ha, List.getElem?_range (by omega)]
    have h3 := h2 i a ha
    show some a = some (K 22 (200 * m + i), N 23 (200 * m + i))
    rw [h3.1, h3.2]
  · rw [List.getElem?_eq_none (by omega), List.getElem?_eq_none (by rw [List.length_range]; omega)]
    rfl
/-- what is known of a machine's pieces -/
theorem rl_pcs {M N : fw_F} {L K : fw_G} (hR : Rel M L N K) : ∃ P : Int → List pc_P, ∀ m, 0 ≤ m → m < 4 → (ps_at M L (179 + 3 * m) (P m) ∧ pm_at N K m (md_pl N K m)) ∧ ((P m).Perm (md_pl N K m) ∧ (P m).Nodup ∧ pc_ok (P m)) ∧ (pc_sz (P m) ≤ N 20 m ∧ M 197 m = N 20 m ∧ 0 ≤ N 20 m ∧ N 20 m ≤ 200) ∧ ((P m).length ≤ 200 ∧ (md_pl N K m).length ≤ 200 ∧ pc_ok (md_pl N K m) ∧ (md_pl N K m).Nodup ∧ pc_sz (md_pl N K m) = pc_sz (P m)) := by
  obtain ⟨P, Q, h⟩ := hR.2.2.2.2.1
  refine ⟨P, fun m a b => ?_⟩
  obtain ⟨⟨p1, p2⟩, ⟨p3, p4, p5⟩, p6, p7, p8, p9⟩ := h m a b
  rw [← pm_at_eq p2]
  have hl := pc_sz_len p5
  have hle := p3.length_eq
  exact ⟨⟨p1, p2⟩, ⟨p3, p4, p5⟩, ⟨p6, p7, p8, p9⟩, by omega, by omega, fun x hx => p5 x (p3.mem_iff.mpr hx), p3.nodup_iff.mp p4, (pc_sz_perm p3).symm⟩

theorem rl_room {M N : fw_F} {L K : fw_G} (hR : Rel M L N K) {m v : Int} (hm : 0 ≤ m ∧ m < 4) (hv : 0 ≤ v ∧ v ≤ 200) (h : pc_sz (md_pl N K m) ≤ v) : Rel (fw_upd M 197 m v) L (fw_upd N 20 m v) K := by
  obtain ⟨P, hP⟩ := rl_pcs hR
  obtain ⟨ha, hg, hk, ho, hp, hs⟩ := hR
  refine ⟨?_, rl_g_c hg (fw_updne (by decide)) (by rw [fw_updne (by decide)]) (fw_updne (by decide)) (fun k a b => ⟨fw_updne (by omega), rfl⟩) (by rw [fw_updne (by decide)]) (fw_updne (by decide)) (fw_updne (by decide)) rfl, rl_k_c hk (fw_updne (by decide)) (by rw [fw_updne (by decide)]) (fw_updne (by decide)) (fw_updne (by decide)) (fw_updne (by decide)), rl_o_c ho (fw_updne (by decide)) (fw_updne (by decide)) (fw_updne (by decide)) (by rw [fw_updne (by decide)]) (fw_updne (by decide)) (fw_updne (by decide)), ⟨P, fun m => md_pl N K m, fun u a b => ?_⟩, rl_s_c hs (by rw [fw_updne (by decide)]) (fw_updne (by decide)) (fw_updne (by decide)) (fw_updne (by decide)) (fw_updne (by decide)) (by rw [fw_updne (by decide)]) (fw_updne (by decide)) (fw_updne (by decide)) (fw_updne (by decide)) (fw_updne (by decide))⟩
  · unfold rl_a at ha ⊢
    rw [fw_updne (by decide), fw_updne (show ¬ (1 : Int) = 197 by decide), fw_updne (show ¬ (0 : Int) = 20 by decide)]; exact ha
  · obtain ⟨⟨p1, p2⟩, p3, ⟨p6, p7, p8, p9⟩, q1, q2, q3, q4, q5⟩ := hP u a b
    refine ⟨⟨ps_at_fr p1 (fw_updne (by omega)) (fw_updne (by omega)) rfl, pm_at_fr p2 (fw_updne (by decide)) (fw_updne (by decide)) rfl⟩, p3, ?_⟩
    rw [fw_updeq, fw_updeq]
    by_cases hu : u = m
    · subst hu
      simp only [if_pos]
      rw [q5] at h
      exact ⟨h, trivial, hv⟩
    · simp only [if_neg hu]; exact ⟨p6, p7, p8, p9⟩

set_option maxRecDepth 20000 in
set_option maxHeartbeats 4000000 in
theorem sp_X5_room (M N : fw_F) (L K : fw_G) (hR : Rel M L N K) (m v : Int) : fw_SC mX5_room [fw_r 0, fw_i m, fw_i v] M L (fun r M2 L2 => r = some (fw_i (if ¬ ((0 ≤ m ∧ m < N 0 2) ∧ (0 ≤ v ∧ v ≤ 200)) then -1 else if v < pc_sz (md_pl N K m) then -2 else N 20 m)) ∧ ∀ N2 K2, (K2 = K ∧ N2 = (if ((0 ≤ m ∧ m < N 0 2) ∧ (0 ≤ v ∧ v ≤ 200)) ∧ pc_sz (md_pl N K m) ≤ v then fw_upd N 20 m v else N)) → Rel M2 L2 N2 K2) := by
  refine fw_SP_of pl_X5_room (ls := [_, _, _]) rfl (Nat.le_of_ble_eq_true rfl) fun hA hM => ?_
  obtain ⟨ha1, ha2, ha3, ha4, ha5, ha6⟩ := hR.1
  have hn1 := hR.2.1.1.1.1
  have hn2 := hR.2.1.1.1.2.1
  refine fw_aload_n dX5_room_0 rfl rfl ?_
  refine fw_iload_n dX5_room_1 rfl rfl ?_
  refine fw_pV mX5_isMachine [_] dX5_room_2 mv_X5_isMachine lk_5_62 ⟨⟨by decide, by decide⟩, rfl, rfl, rfl, by decide, by decide⟩ ly0_0 ⟨by decide, by decide⟩ rfl rfl (Nat.le_of_ble_eq_true rfl) (sp_X5_isMachine _ _ _) ?_
  refine fw_bifeq 19 dX5_room_5 (by decide) (fun h5 => ?_) (fun h5 => ?_)
  · skip
    refine fw_iconst dX5_room_19 ⟨by decide, by decide⟩ ?_
    refine fw_iret dX5_room_20 ⟨rfl, rfl, rfl⟩ ?_
    refine ⟨by rw [if_pos (by omega)], fun N2 K2 h => ?_⟩
    rw [h.1, h.2, if_neg (by omega)]; exact hR
  · skip
    refine fw_iload_n dX5_room_8 rfl rfl ?_
    refine fw_if_lt 19 dX5_room_9 (by decide) (fun h9 => ?_) (fun h9 => ?_)
    · skip
      refine fw_iconst dX5_room_19 ⟨by decide, by decide⟩ ?_
      refine fw_iret dX5_room_20 ⟨rfl, rfl, rfl⟩ ?_
      refine ⟨by rw [if_pos (by omega)], fun N2 K2 h => ?_⟩
      rw [h.1, h.2, if_neg (by omega)]; exact hR
    · skip
      refine fw_iload_n dX5_room_12 rfl rfl ?_
      refine fw_sipush dX5_room_13 ⟨by decide, by decide⟩ (by decide) ?_
      refine fw_icmp_le 21 dX5_room_16 (by decide) (fun h16 => ?_) (fun h16 => ?_)
      · skip
        have hkm := ps_kept (show 0 ≤ m by omega) (show m < 4 by omega)
        obtain ⟨P, hP⟩ := rl_pcs hR
        obtain ⟨⟨p1, p2⟩, p3, ⟨p6, p7, p8, p9⟩, q1, q2, q3, q4, q5⟩ := hP m (by omega) (by omega)
        refine fw_aload_n dX5_room_21 rfl rfl ?_
        refine fw_getr 2 178 rfl dX5_room_22 ff_5_27 ly0_0 ⟨by decide, by decide⟩ rfl rfl (by decide) ?_
        refine fw_iload_n dX5_room_25 rfl rfl ?_
        refine fw_aaload (179 + 3 * _) dX5_room_26 ly0_178 (Or.inr rfl) ⟨by decide, by decide⟩ ⟨by omega, by omega⟩ (rc_178 _) (by omega) ?_
        refine fw_geti 3 rfl dX5_room_27 ff_5_237 hkm.1 ⟨by have := hkm.2.2.2.2.2; omega, by have := hkm.2.2.2.2.2; omega⟩ rfl ?_
        rw [p1.2.1, ← q5]
        refine fw_iload_n dX5_room_30 rfl rfl ?_
        refine fw_icmp_le 37 dX5_room_31 (by decide) (fun h31 => ?_) (fun h31 => ?_)
        · skip
          refine fw_aload_n dX5_room_37 rfl rfl ?_
          refine fw_getr 5 197 rfl dX5_room_38 ff_5_41 ly0_0 ⟨by decide, by decide⟩ rfl rfl (by decide) ?_
          refine fw_iload_n dX5_room_41 rfl rfl ?_
          refine fw_iaload dX5_room_42 ly0_197 ⟨by decide, by decide⟩ ⟨by omega, by omega⟩ ?_
          refine fw_istore_n (ls2 := [_, _, _, _]) dX5_room_43 rfl (by decide) rfl ?_
          refine fw_aload_n dX5_room_44 rfl rfl ?_
          refine fw_getr 5 197 rfl dX5_room_45 ff_5_41 ly0_0 ⟨by decide, by decide⟩ rfl rfl (by decide) ?_
          refine fw_iload_n dX5_room_48 rfl rfl ?_
          refine fw_iload_n dX5_room_49 rfl rfl ?_
          refine fw_iastore dX5_room_50 ly0_197 (by decide) ⟨by decide, by decide⟩ ⟨by omega, by omega⟩ ?_
          refine fw_iload_n dX5_room_51 rfl rfl ?_
          refine fw_iret dX5_room_52 ⟨rfl, rfl, rfl⟩ ?_
          refine ⟨by rw [if_neg (by omega), if_neg (by omega), p7], fun N2 K2 h => ?_⟩
          rw [h.1, h.2, if_pos (by omega)]; exact rl_room hR (by omega) (by omega) (by omega)
        · skip
          refine fw_bipush dX5_room_34 ⟨by decide, by decide⟩ (by decide) ?_
          refine fw_iret dX5_room_36 ⟨rfl, rfl, rfl⟩ ?_
          refine ⟨by rw [if_neg (by omega), if_pos (by omega)], fun N2 K2 h => ?_⟩
          rw [h.1, h.2, if_neg (by omega)]; exact hR
      · skip
        refine fw_iconst dX5_room_19 ⟨by decide, by decide⟩ ?_
        refine fw_iret dX5_room_20 ⟨rfl, rfl, rfl⟩ ?_
        refine ⟨by rw [if_pos (by omega)], fun N2 K2 h => ?_⟩
        rw [h.1, h.2, if_neg (by omega)]; exact hR

set_option maxRecDepth 20000 in
set_option maxHeartbeats 4000000 in
theorem pm_X6_room (M N : fw_F) (L K : fw_G) (hR : Rel M L N K) (m v : Int) : fw_D mX6_room 5 [some (fw_r 0), some (fw_i m), some (fw_i v)] [] N K (fun r N2 K2 => r = some (fw_i (if ¬ ((0 ≤ m ∧ m < N 0 2) ∧ (0 ≤ v ∧ v ≤ 200)) then -1 else if v < pc_sz (md_pl N K m) then -2 else N 20 m)) ∧ (K2 = K ∧ N2 = (if ((0 ≤ m ∧ m < N 0 2) ∧ (0 ≤ v ∧ v ≤ 200)) ∧ pc_sz (md_pl N K m) ≤ v then fw_upd N 20 m v else N))) := by
  obtain ⟨ha1, ha2, ha3, ha4, ha5, ha6⟩ := hR.1
  have hn1 := hR.2.1.1.1.1
  have hn2 := hR.2.1.1.1.2.1
  refine fw_aload_n dX6_room_5 rfl rfl ?_
  refine fw_iload_n dX6_room_6 rfl rfl ?_
  refine fw_pV mX6_isMachine [_] dX6_room_7 mv_X6_isMachine lk_6_179 ⟨⟨by decide, by decide⟩, rfl, rfl, rfl, by decide, by decide⟩ ly1_0 ⟨by decide, by decide⟩ rfl rfl (Nat.le_of_ble_eq_true rfl) (sp_X6_isMachine _ _ _ (by omega)) ?_
  refine fw_bifeq 24 dX6_room_10 (by decide) (fun h10 => ?_) (fun h10 => ?_)
  · skip
    refine fw_iconst dX6_room_24 ⟨by decide, by decide⟩ ?_
    exact fw_iret dX6_room_25 ⟨rfl, rfl, rfl⟩ (⟨by rw [if_pos (by omega)], rfl, by rw [if_neg (by omega)]⟩)
  · skip
    refine fw_iload_n dX6_room_13 rfl rfl ?_
    refine fw_iconst dX6_room_14 ⟨by decide, by decide⟩ ?_
    refine fw_sipush dX6_room_15 ⟨by decide, by decide⟩ (by decide) ?_
    refine fw_pS mX6_in [_, _, _] dX6_room_18 mv_X6_in lk_6_115 ⟨⟨by decide, by decide⟩, rfl, rfl, rfl, by decide, by decide⟩ rfl rfl (Nat.le_of_ble_eq_true rfl) (sp_X6_in _ _ _ _ _) ?_
    refine fw_bifne 26 dX6_room_21 (by decide) (fun h21 => ?_) (fun h21 => ?_)
    · skip
      obtain ⟨P, hP⟩ := rl_pcs hR
      obtain ⟨⟨p1, p2⟩, p3, ⟨p6, p7, p8, p9⟩, q1, q2, q3, q4, q5⟩ := hP m (by omega) (by omega)
      refine fw_aload_n dX6_room_26 rfl rfl ?_
      refine fw_iload_n dX6_room_27 rfl rfl ?_
      refine fw_pV mX6_bytesAt [_] dX6_room_28 mv_X6_bytesAt lk_6_214 ⟨⟨by decide, by decide⟩, rfl, rfl, rfl, by decide, by decide⟩ ly1_0 ⟨by decide, by decide⟩ rfl rfl (Nat.le_of_ble_eq_true rfl) (sp_X6_bytesAt m (by omega) (md_pl N K m) N K p2 q2 q3) ?_
      refine fw_iload_n dX6_room_31 rfl rfl ?_
      refine fw_icmp_le 38 dX6_room_32 (by decide) (fun h32 => ?_) (fun h32 => ?_)
      · skip
        refine fw_aload_n dX6_room_38 rfl rfl ?_
        refine fw_getr 24 20 rfl dX6_room_39 ff_6_73 ly1_0 ⟨by decide, by decide⟩ rfl rfl (by decide) ?_
        refine fw_iload_n dX6_room_42 rfl rfl ?_
        refine fw_iaload dX6_room_43 ly1_20 ⟨by decide, by decide⟩ ⟨by omega, by omega⟩ ?_
        refine fw_istore_n (ls2 := [_, _, _, _]) dX6_room_44 rfl (by decide) rfl ?_
        refine fw_aload_n dX6_room_45 rfl rfl ?_
        refine fw_getr 24 20 rfl dX6_room_46 ff_6_73 ly1_0 ⟨by decide, by decide⟩ rfl rfl (by decide) ?_
        refine fw_iload_n dX6_room_49 rfl rfl ?_
        refine fw_iload_n dX6_room_50 rfl rfl ?_
        refine fw_iastore dX6_room_51 ly1_20 (by decide) ⟨by decide, by decide⟩ ⟨by omega, by omega⟩ ?_
        refine fw_iload_n dX6_room_52 rfl rfl ?_
        exact fw_iret dX6_room_53 ⟨rfl, rfl, rfl⟩ (⟨by rw [if_neg (by omega), if_neg (by omega)], rfl, by rw [if_pos (by omega)]⟩)
      · skip
        refine fw_bipush dX6_room_35 ⟨by decide, by decide⟩ (by decide) ?_
        exact fw_iret dX6_room_37 ⟨rfl, rfl, rfl⟩ (⟨by rw [if_neg (by omega), if_pos (by omega)], rfl, by rw [if_neg (by omega)]⟩)
    · skip
      refine fw_iconst dX6_room_24 ⟨by decide, by decide⟩ ?_
      exact fw_iret dX6_room_25 ⟨rfl, rfl, rfl⟩ (⟨by rw [if_pos (by omega)], rfl, by rw [if_neg (by omega)]⟩)

set_option maxRecDepth 20000 in
set_option maxHeartbeats 4000000 in
theorem sp_X6_room (M N : fw_F) (L K : fw_G) (hR : Rel M L (fw_upd N 0 0 0) K) (m v : Int) : fw_SD mX6_room [fw_r 0, fw_i m, fw_i v] N K (fun r N2 K2 => r = some (fw_i (if ¬ ((0 ≤ m ∧ m < (fw_upd N 0 0 0) 0 2) ∧ (0 ≤ v ∧ v ≤ 200)) then -1 else if v < pc_sz (md_pl (fw_upd N 0 0 0) K m) then -2 else (fw_upd N 0 0 0) 20 m)) ∧ (K2 = K ∧ N2 = (if ((0 ≤ m ∧ m < (fw_upd N 0 0 0) 0 2) ∧ (0 ≤ v ∧ v ≤ 200)) ∧ pc_sz (md_pl (fw_upd N 0 0 0) K m) ≤ v then fw_upd (fw_upd N 0 0 0) 20 m v else (fw_upd N 0 0 0)))) := by
  refine fw_SP_of pl_X6_room (ls := [_, _, _]) rfl (Nat.le_of_ble_eq_true rfl) fun hA hM => ?_
  refine fw_aload_n dX6_room_0 rfl rfl ?_
  refine fw_iconst dX6_room_1 ⟨by decide, by decide⟩ ?_
  refine fw_puti 0 rfl dX6_room_2 fp_6_106 ly1_0 (by decide) ⟨by decide, by decide⟩ rfl ?_
  exact pm_X6_room M (fw_upd N 0 0 0) L K hR m v
