/-! sending, both sides -/
noncomputable def sn_ans (O kf kt : Int → Int) (T most : Int) : Int := Classical.epsilon (fun tot : Int => ∃ cur, sn_R O kf kt T most cur tot)
theorem sn_ans_of {O kf kt : Int → Int} {T most tot : Int} {cur : Int → Int} (h : sn_R O kf kt T most cur tot) : tot = sn_ans O kf kt T most := by
  obtain ⟨c, hc⟩ := Classical.epsilon_spec (p := fun tot : Int => ∃ cur, sn_R O kf kt T most cur tot) ⟨tot, cur, h⟩
  exact (sn_uniq h hc).1
theorem sn_R_congr {O kf kt kf' kt' cur : Int → Int} {T most tot : Int} (h : sn_R O kf kt T most cur tot) (h1 : ∀ p, 0 ≤ p → p < 4 → kf p = kf' p) (h2 : ∀ p, 0 ≤ p → p < 4 → kt p = kt' p) : sn_R O kf' kt' T most cur tot := by
  obtain ⟨i, i1, i2, i3, i4, i5⟩ := h
  refine ⟨i, i1, fun p a b => ?_, ?_, i4, i5⟩
  · rw [i2 p a b]; unfold sn_PS; rw [h1 p a b, h2 p a b]
  · rw [i3]; unfold sn_tot; rw [h2 0 (by decide) (by decide), h2 1 (by decide) (by decide), h2 2 (by decide) (by decide), h2 3 (by decide) (by decide)]
/-- rows known after sending -/
theorem sn_R_rng {n : Int} {mk : Int → Int} {G : fw_F} {O kf kt cur : Int → Int} {T most tot : Int} (hf : ∀ p, 0 ≤ p → p < 4 → 0 ≤ kf p ∧ kf p ≤ mk p) (ht : ∀ p, 0 ≤ p → p < 4 → 0 ≤ kt p ∧ kt p ≤ mk p) (h : sn_R O kf kt T most cur tot) : ∀ p, 0 ≤ p → p < 4 → kt p ≤ cur p ∧ cur p ≤ mk p := by
  obtain ⟨i, i1, i2, -⟩ := h
  intro p a b
  have := hf p a b
  have := ht p a b
  rw [i2 p a b]
  unfold sn_PS
  omega
theorem sn_first {n : Int} {mk : Int → Int} {G : fw_F} {O : Int → Int} {T : Int} (h : ab_wf n mk G O T) {j : Nat} (hj : (j : Int) ≤ T) {kf kt nx : Int → Int} (hf : ∀ p, 0 ≤ p → p < 4 → 0 ≤ kf p ∧ kf p ≤ mk p) (ht : ∀ p, 0 ≤ p → p < 4 → 0 ≤ kt p) (hnx : ∀ p, 0 ≤ p → p < 4 → nx p = sn_PS O kf kt j p) {b : Int} (hb : ab_fs nx kf G n b) (hb0 : ¬ b = -9) : (0 ≤ b ∧ b < n ∧ nx b < kf b) ∧ ∃ j' : Nat, (j' : Int) ≤ T ∧ ∀ p, 0 ≤ p → p < 4 → sn_PS O kf kt j' p = if p = b then nx p + 1 else nx p := by
  have hn := h.1.2.1
  rcases hb with hb | ⟨b0, b1, b2, b3⟩
  · exact absurd hb.1 hb0
  refine ⟨⟨b0, b1, b2⟩, ?_⟩
  have hfb := hf b b0 (by omega)
  have hnb := hnx b b0 (by omega)
  have hcb : ab_cnt O j b ≤ nx b := by rw [hnb] at b2 ⊢; unfold sn_PS at b2 ⊢; omega
  obtain ⟨k, k0, k1, k2⟩ := ab_cnt_later h hj b0 (show b < 4 by omega) hcb (show nx b < mk b by omega)
  have hnb0 : 0 ≤ nx b := by rw [hnb]; unfold sn_PS; have := ht b b0 (by omega); omega
  have hmkb := (h.1.2.2 b b0 (by omega)).2.1
  have kd : O k / 20 = b := by rw [k2]; omega
  have km : O k % 20 = nx b := by rw [k2]; omega
  have same : ∀ i : Nat, j ≤ i → i ≤ k → ∀ p, 0 ≤ p → p < 4 → sn_PS O kf kt i p = nx p := by
    intro i
    induction i with
    | zero => intro a _ p p0 p1; rw [hnx p p0 p1, show j = 0 by omega]
    | succ i ih =>
      intro a e p p0 p1
      rcases (show j = i + 1 ∨ j ≤ i by omega) with c | c
      · rw [hnx p p0 p1, c]
      · have hi := ih c (by omega)
        obtain ⟨s1, s2, s3⟩ := sn_step h (kf := kf) (kt := kt) (i := i) (by omega)
        have hlv := h.2.2.2.2.1 i (by omega) (by omega)
        have hw : 0 ≤ O i / 20 ∧ O i / 20 < 4 := by have := hlv.1; have := hlv.2.1; omega
        by_cases hp : p = O i / 20
        · rw [hp, s2, hi _ hw.1 hw.2]
          rw [if_neg]
          rintro ⟨q1, q2⟩
          have hwn : O i / 20 < n := by
            rcases Int.lt_or_le (O i / 20) n with c2 | c2
            · exact c2
            · have := (h.1.2.2 _ hw.1 hw.2).2.2 c2
              have := hlv.2.2
              omega
          have hlt := h.2.2.2.2.2.1 i k (by omega) (by omega) k1
          have hl := b3 (O i / 20) hw.1 hwn (by omega)
          have hxk : (20 : Int) * b + nx b = O k := k2.symm
          rw [hxk] at hl
          have hnw0 : 0 ≤ nx (O i / 20) := by rw [hnx _ hw.1 hw.2]; unfold sn_PS; have := ht _ hw.1 hw.2; omega
          have hmono : nx (O i / 20) < O i % 20 → G (20 * (O i / 20) + nx (O i / 20)) 4 < G (O i) 4 := fun hq => by
            have hg := h.2.2.1 _ hlv
            exact hg.2.2.2 (O i / 20) (nx (O i / 20)) hw.1 hw.2 hnw0 (by rw [hg.2.2.1]; exact hq)
          have hsame : nx (O i / 20) = O i % 20 → 20 * (O i / 20) + nx (O i / 20) = O i := fun hq => by omega
          rcases (show nx (O i / 20) < O i % 20 ∨ nx (O i / 20) = O i % 20 by omega) with c2 | c2
          · have := hmono c2
            rcases hlt with c3 | c3 <;> rcases hl with c4 | c4 <;> omega
          · rw [hsame c2] at hl
            rcases hlt with c3 | c3 <;> rcases hl with c4 | c4 <;> omega
        · rw [s1 p hp]; exact hi p p0 p1
  have hk := same k k0 (Nat.le_refl k)
  obtain ⟨s1, s2, s3⟩ := sn_step h (kf := kf) (kt := kt) (i := k) (by omega)
  rw [kd, km] at s2
  rw [kd] at s1
  refine ⟨k + 1, by omega, fun p p0 p1 => ?_⟩
  by_cases hp : p = b
  · rw [if_pos hp, hp, s2, hk b b0 (by omega), if_pos ⟨b2, by omega⟩]
  · rw [if_neg hp, s1 p hp]; exact hk p p0 p1
theorem sn_T {n : Int} {mk : Int → Int} {G : fw_F} {O : Int → Int} {T : Int} (h : ab_wf n mk G O T) {kf kt : Int → Int} (hf : ∀ p, 0 ≤ p → p < 4 → 0 ≤ kf p ∧ kf p ≤ mk p) : ∀ p, 0 ≤ p → p < 4 → sn_PS O kf kt T.toNat p = max (kt p) (kf p) := fun p a b => by
  unfold sn_PS
  rw [ab_cnt_T h a b]
  have := hf p a b
  omega

theorem rl_send {M N M2 N2 : fw_F} {L K : fw_G} (hR : Rel M L N K) {f t k tot tot2 : Int} (hf : 0 ≤ f ∧ f < 4) (ht : 0 ≤ t ∧ t < 4) (hft : ¬ f = t) (g1 : ∀ k, ¬ k = 5 → M2 k = M k) (g2 : ∀ z, z < (M 1 7 * 4 + t) * 4 ∨ (M 1 7 * 4 + t) * 4 + 4 ≤ z → M2 5 z = M 5 z) (g3 : sn_R (M 3) (fun p => N 4 (4 * f + p)) (fun p => N 4 (4 * t + p)) (M 1 6) k (fun p => M2 5 ((M 1 7 * 4 + t) * 4 + p)) tot) (d1 : ∀ k, ¬ k = 4 → ¬ k = 8 → ¬ k = 9 → N2 k = N k) (d2 : ∀ z, z < 4 * t ∨ 4 * t + 4 ≤ z → N2 4 z = N 4 z) (d3 : sn_R (M 3) (fun p => N 4 (4 * f + p)) (fun p => N 4 (4 * t + p)) (M 1 6) k (fun p => N2 4 (4 * t + p)) tot2) : Rel M2 L N2 K := by
  have hnow := rl_now hR
  obtain ⟨ha, hg, hk, ho, hp, hs⟩ := hR
  have a4 := ha.2.2.2.1
  have a5 := ha.2.2.2.2.1
  have he := (sn_uniq g3 d3).2
  have hr := sn_R_rng (n := N 0 2) (G := md_G N) (mk := N 1) (fun p a b => hnow f p hf.1 hf.2 a b) (fun p a b => hnow t p ht.1 ht.2 a b) d3
  have D1 : ∀ k, k < 4 ∨ k = 5 ∨ k = 6 ∨ 9 < k → N2 k = N k := fun k a => d1 k (by omega) (by omega) (by omega)
  refine ⟨?_, rl_g_c hg (g1 3 (by decide)) (by rw [g1 1 (by decide)]) (g1 4 (by decide)) (fun k a b => ⟨g1 k (by omega), rfl⟩) (by rw [D1 0 (by omega)]) (D1 1 (by omega)) (D1 2 (by omega)) rfl, ⟨fun d m p x0 x1 x2 x3 x4 x5 => ?_, fun m x0 x1 => ?_⟩, rl_o_c ho (g1 6 (by decide)) (g1 7 (by decide)) (g1 3 (by decide)) (by rw [g1 1 (by decide)]) (D1 2 (by omega)) (D1 6 (by omega)), rl_p_c hp (fun k a b => ⟨g1 k (by omega), rfl⟩) (g1 197 (by decide)) (D1 20 (by omega)) (D1 21 (by omega)) (D1 23 (by omega)) rfl, rl_s_c hs (by rw [g1 198 (by decide)]) (g1 199 (by decide)) (g1 200 (by decide)) (g1 201 (by decide)) (g1 202 (by decide)) (by rw [D1 0 (by omega)]) (D1 26 (by omega)) (D1 27 (by omega)) (D1 28 (by omega)) (D1 29 (by omega))⟩
  · unfold rl_a at ha ⊢
    rw [g1 0 (by decide), g1 1 (by decide), D1 0 (by omega)]; exact ha
  · rw [D1 0 (by omega)] at x1
    rw [D1 1 (by omega)]
    have hx := hk.1 d m p x0 x1 x2 x3 x4 x5
    unfold rl_kn at hx ⊢
    rw [D1 0 (by omega), D1 5 (by omega)]
    by_cases hd : d = N 0 4
    · simp only [if_pos hd] at hx ⊢
      by_cases hm : m = t
      · subst hm
        have h9 := he p x4 x5
        rw [a4, ← hd] at h9
        rw [h9]
        have := hr p x4 x5
        have := hnow m p x2 x3 x4 x5
        exact ⟨rfl, by omega, by omega⟩
      · rw [g2 _ (by rw [a4]; omega), d2 _ (by omega)]; exact hx
    · simp only [if_neg hd] at hx ⊢
      rw [g2 _ (by rw [a4]; omega)]; exact hx
  · rw [D1 1 (by omega)]
    have hx := hk.2 m x0 x1
    by_cases hm : m = t
    · subst hm
      have := hr m x0 x1
      omega
    · rw [d2 _ (by omega)]; exact hx

set_option maxRecDepth 20000 in
set_option maxHeartbeats 4000000 in
theorem sp_X5_send (M N : fw_F) (L K : fw_G) (hR : Rel M L N K) (f t : Int) : fw_SC mX5_send [fw_r 0, fw_i f, fw_i t] M L (fun r M2 L2 => r = some (fw_i (if ¬ ((0 ≤ f ∧ f < N 0 2) ∧ (0 ≤ t ∧ t < N 0 2) ∧ ¬ f = t) then -1 else sn_ans (M 3) (fun p => N 4 (4 * f + p)) (fun p => N 4 (4 * t + p)) (M 1 6) 80)) ∧ ∀ N2 K2, (K2 = K ∧ (¬ ((0 ≤ f ∧ f < N 0 2) ∧ (0 ≤ t ∧ t < N 0 2) ∧ ¬ f = t) → N2 = N) ∧ (((0 ≤ f ∧ f < N 0 2) ∧ (0 ≤ t ∧ t < N 0 2) ∧ ¬ f = t) → ((∀ k, ¬ k = 4 → ¬ k = 8 → ¬ k = 9 → N2 k = N k) ∧ (∀ z, z < 4 * t ∨ 4 * t + 4 ≤ z → N2 4 z = N 4 z)) ∧ ∃ tot, sn_R (M 3) (fun p => N 4 (4 * f + p)) (fun p => N 4 (4 * t + p)) (M 1 6) 80 (fun p => N2 4 (4 * t + p)) tot)) → Rel M2 L2 N2 K2) := by
  refine fw_SP_of pl_X5_send (ls := [_, _, _]) rfl (Nat.le_of_ble_eq_true rfl) fun hA hM => ?_
  obtain ⟨ha1, ha2, ha3, ha4, ha5, ha6⟩ := hR.1
  have hn1 := hR.2.1.1.1.1
  have hn2 := hR.2.1.1.1.2.1
  refine fw_aload_n dX5_send_0 rfl rfl ?_
  refine fw_iload_n dX5_send_1 rfl rfl ?_
  refine fw_pV mX5_isMachine [_] dX5_send_2 mv_X5_isMachine lk_5_62 ⟨⟨by decide, by decide⟩, rfl, rfl, rfl, by decide, by decide⟩ ly0_0 ⟨by decide, by decide⟩ rfl rfl (Nat.le_of_ble_eq_true rfl) (sp_X5_isMachine _ _ _) ?_
  refine fw_bifeq 21 dX5_send_5 (by decide) (fun h5 => ?_) (fun h5 => ?_)
  · skip
    refine fw_iconst dX5_send_21 ⟨by decide, by decide⟩ ?_
    refine fw_iret dX5_send_22 ⟨rfl, rfl, rfl⟩ ?_
    refine ⟨by rw [if_pos (by omega)], fun N2 K2 h => ?_⟩
    rw [h.1, h.2.1 (by omega)]; exact hR
  · skip
    refine fw_aload_n dX5_send_8 rfl rfl ?_
    refine fw_iload_n dX5_send_9 rfl rfl ?_
    refine fw_pV mX5_isMachine [_] dX5_send_10 mv_X5_isMachine lk_5_62 ⟨⟨by decide, by decide⟩, rfl, rfl, rfl, by decide, by decide⟩ ly0_0 ⟨by decide, by decide⟩ rfl rfl (Nat.le_of_ble_eq_true rfl) (sp_X5_isMachine _ _ _) ?_
    refine fw_bifeq 21 dX5_send_13 (by decide) (fun h13 => ?_) (fun h13 => ?_)
    · skip
      refine fw_iconst dX5_send_21 ⟨by decide, by decide⟩ ?_
      refine fw_iret dX5_send_22 ⟨rfl, rfl, rfl⟩ ?_
      refine ⟨by rw [if_pos (by omega)], fun N2 K2 h => ?_⟩
      rw [h.1, h.2.1 (by omega)]; exact hR
    · skip
      refine fw_iload_n dX5_send_16 rfl rfl ?_
      refine fw_iload_n dX5_send_17 rfl rfl ?_
      refine fw_icmp_ne 23 dX5_send_18 (by decide) (fun h18 => ?_) (fun h18 => ?_)
      · skip
        have knf : ∀ u, 0 ≤ u → u < 4 → ∀ p, 0 ≤ p → p < 4 → M 5 ((M 1 7 * 4 + u) * 4 + p) = N 4 (4 * u + p) := fun u u0 u1 p p0 p1 => by
          have h9 := (hR.2.2.1.1 (N 0 4) u p ha5.1 (Int.le_refl _) u0 u1 p0 p1).1
          simp only [rl_kn_now] at h9
          rw [ha4]; exact h9
        refine fw_aload_n dX5_send_23 rfl rfl ?_
        refine fw_getr 0 1 rfl dX5_send_24 ff_5_12 ly0_0 ⟨by decide, by decide⟩ rfl rfl (by decide) ?_
        refine fw_iload_n dX5_send_27 rfl rfl ?_
        refine fw_iload_n dX5_send_28 rfl rfl ?_
        refine fw_bipush dX5_send_29 ⟨by decide, by decide⟩ (by decide) ?_
        refine fw_cV mX1_passOn [_, _, _] dX5_send_31 mv_X1_passOn lk_5_134 ⟨⟨by decide, by decide⟩, rfl, rfl, rfl, by decide, by decide⟩ ly0_1 ⟨by decide, by decide⟩ rfl rfl (Nat.le_of_ble_eq_true rfl) (sp_X1_passOn f t 80 (N 0 2) M (md_G N) (N 1) L hR.2.1.1 hR.2.1.2.1 (by omega) (by omega) (by omega) (by omega) (by omega) (fun u p u0 u1 p0 p1 => by rw [knf u u0 u1 p p0 p1]; have h7 := rl_now hR u p u0 u1 p0 p1; have h8 := (rl_mk hR p p0 p1).1; omega)) (fun r M1 L1 hp hM1 => ?_)
        obtain ⟨rfl, g1, g2, tot, rfl, g3⟩ := hp
        have g4 := sn_R_congr (kf' := (fun p => N 4 (4 * f + p))) (kt' := (fun p => N 4 (4 * t + p))) g3 (knf f (by omega) (by omega)) (knf t (by omega) (by omega))
        refine fw_iret dX5_send_34 ⟨rfl, rfl, rfl⟩ ?_
        refine ⟨by rw [if_neg (by omega), sn_ans_of g4], fun N2 K2 h => ?_⟩
        obtain ⟨⟨d1, d2⟩, tot2, d3⟩ := h.2.2 (by omega)
        rw [h.1]; exact rl_send hR (by omega) (by omega) (by omega) g1 g2 g4 d1 d2 d3
      · skip
        refine fw_iconst dX5_send_21 ⟨by decide, by decide⟩ ?_
        refine fw_iret dX5_send_22 ⟨rfl, rfl, rfl⟩ ?_
        refine ⟨by rw [if_pos (by omega)], fun N2 K2 h => ?_⟩
        rw [h.1, h.2.1 (by omega)]; exact hR

set_option maxRecDepth 20000 in
set_option maxHeartbeats 4000000 in
theorem lp_X6_send (M N : fw_F) (L K : fw_G) (hR : Rel M L N K) (f t : Int) (hf : 0 ≤ f ∧ f < N 0 2) (ht : 0 ≤ t ∧ t < N 0 2) (hft : ¬ f = t) : ∀ (q : Nat) (c p : Int) (N1 : fw_F), N 0 2 - p < q → 0 ≤ p → p ≤ N 0 2 → (∀ k, ¬ k = 4 → N1 k = N k) → (∀ z, (z < 4 * t ∨ 4 * t + p ≤ z) → N1 4 z = N 4 z) → (∀ u, 0 ≤ u → u < p → N1 4 (4 * t + u) = max (N 4 (4 * t + u)) (N 4 (4 * f + u))) → c = ab_sm (fun p => max 0 (N 4 (4 * f + p) - N 4 (4 * t + p))) p.toNat → fw_D mX6_send 33 [some (fw_r 0), some (fw_i f), some (fw_i t), some (fw_i c), some (fw_i p)] [] N1 K (fun r N2 K2 => r = some (fw_i (if ¬ ((0 ≤ f ∧ f < N 0 2) ∧ (0 ≤ t ∧ t < N 0 2) ∧ ¬ f = t) then -1 else sn_ans (M 3) (fun p => N 4 (4 * f + p)) (fun p => N 4 (4 * t + p)) (M 1 6) 80)) ∧ (K2 = K ∧ (¬ ((0 ≤ f ∧ f < N 0 2) ∧ (0 ≤ t ∧ t < N 0 2) ∧ ¬ f = t) → N2 = N) ∧ (((0 ≤ f ∧ f < N 0 2) ∧ (0 ≤ t ∧ t < N 0 2) ∧ ¬ f = t) → ((∀ k, ¬ k = 4 → ¬ k = 8 → ¬ k = 9 → N2 k = N k) ∧ (∀ z, z < 4 * t ∨ 4 * t + 4 ≤ z → N2 4 z = N 4 z)) ∧ ∃ tot, sn_R (M 3) (fun p => N 4 (4 * f + p)) (fun p => N 4 (4 * t + p)) (M 1 6) 80 (fun p => N2 4 (4 * t + p)) tot))) := by
  intro q
  induction q with
  | zero => intro c p N1 h0 h1 h2; omega
  | succ q ih =>
    intro c p N1 h0 h1 h2 h3 h4 h5 h6
    have hn1 := hR.2.1.1.1.1
    have hn2 := hR.2.1.1.1.2.1
    have e0 := h3 0 (by decide)
    have hr := ab_sm_rng (f := (fun p => max 0 (N 4 (4 * f + p) - N 4 (4 * t + p)))) (a := 0) (b := 20) p.toNat (fun j a b => by have h7 := rl_now hR f j (by omega) (by omega) a (by omega); have h8 := rl_now hR t j (by omega) (by omega) a (by omega); have h9 := (rl_mk hR j a (by omega)).1; omega)
    refine fw_iload dX6_send_33 rfl ?_
    refine fw_aload_n dX6_send_35 rfl rfl ?_
    refine fw_geti 2 rfl dX6_send_36 ff_6_7 ly1_0 ⟨by decide, by decide⟩ rfl ?_
    rw [e0]
    refine fw_icmp_ge 112 dX6_send_39 (by decide) (fun h39 => ?_) (fun h39 => ?_)
    · skip
      refine fw_iload_n dX6_send_112 rfl rfl ?_
      refine fw_iret dX6_send_113 ⟨rfl, rfl, rfl⟩ ?_
      have hpn : p = N 0 2 := by omega
      subst hpn
      have hfu : ∀ u, 0 ≤ u → u < 4 → N1 4 (4 * t + u) = max (N 4 (4 * t + u)) (N 4 (4 * f + u)) := fun u a b => by
        rcases Int.lt_or_le u (N 0 2) with c2 | c2
        · exact h5 u a c2
        · have x1 := rl_now hR f u (by omega) (by omega) a b
          have x2 := rl_now hR t u (by omega) (by omega) a b
          have x3 := (rl_mk hR u a b).2 c2
          rw [h4 _ (by omega)]; omega
      have hT := ab_T80 hR.2.1.1
      have hsm := ab_sm_4 (f := (fun p => max 0 (N 4 (4 * f + p) - N 4 (4 * t + p)))) ⟨hn1, hn2⟩ (fun u a b => by have x1 := rl_now hR f u (by omega) (by omega) (by omega) b; have x2 := rl_now hR t u (by omega) (by omega) (by omega) b; have x3 := (rl_mk hR u (by omega) b).2 a; omega)
      have hsn : sn_R (M 3) (fun p => N 4 (4 * f + p)) (fun p => N 4 (4 * t + p)) (M 1 6) 80 (fun u => N1 4 (4 * t + u)) c := by
        refine ⟨(M 1 6).toNat, by omega, fun u a b => ?_, ?_, ?_, Or.inr (by omega)⟩
        · rw [sn_T hR.2.1.1 (fun u a b => rl_now hR f u (by omega) (by omega) a b) u a b]; exact hfu u a b
        · rw [h6, hsm]; unfold sn_tot
          simp only [hfu 0 (by decide) (by decide), hfu 1 (by decide) (by decide), hfu 2 (by decide) (by decide), hfu 3 (by decide) (by decide)]
          omega
        · rw [h6]; omega
      refine ⟨?_, rfl, fun h => absurd ⟨hf, ht, hft⟩ h, fun _ => ⟨⟨fun k a _ _ => h3 k a, fun z a => h4 z (by omega)⟩, c, hsn⟩⟩
      rw [if_neg (by omega), sn_ans_of hsn]
    · skip
      have h7 := rl_now hR f p (by omega) (by omega) h1 (by omega)
      have h8 := rl_now hR t p (by omega) (by omega) h1 (by omega)
      have h9 := (rl_mk hR p h1 (by omega)).1
      have hs := ab_sm_s (fun p => max 0 (N 4 (4 * f + p) - N 4 (4 * t + p))) h1
      have ef := h4 (4 * f + p) (by omega)
      have et := h4 (4 * t + p) (by omega)
      refine fw_aload_n dX6_send_42 rfl rfl ?_
      refine fw_getr 8 4 rfl dX6_send_43 ff_6_24 ly1_0 ⟨by decide, by decide⟩ rfl rfl (by decide) ?_
      refine fw_iconst dX6_send_46 ⟨by decide, by decide⟩ ?_
      refine fw_iload_n dX6_send_47 rfl rfl ?_
      refine fw_imul dX6_send_48 ⟨by omega, by omega⟩ ?_
      refine fw_iload dX6_send_49 rfl ?_
      refine fw_iadd dX6_send_51 ⟨by omega, by omega⟩ ?_
      refine fw_iaload dX6_send_52 ly1_4 ⟨by decide, by decide⟩ ⟨by omega, by omega⟩ ?_
      rw [ef]
      refine fw_aload_n dX6_send_53 rfl rfl ?_
      refine fw_getr 8 4 rfl dX6_send_54 ff_6_24 ly1_0 ⟨by decide, by decide⟩ rfl rfl (by decide) ?_
      refine fw_iconst dX6_send_57 ⟨by decide, by decide⟩ ?_
      refine fw_iload_n dX6_send_58 rfl rfl ?_
      refine fw_imul dX6_send_59 ⟨by omega, by omega⟩ ?_
      refine fw_iload dX6_send_60 rfl ?_
      refine fw_iadd dX6_send_62 ⟨by omega, by omega⟩ ?_
      refine fw_iaload dX6_send_63 ly1_4 ⟨by decide, by decide⟩ ⟨by omega, by omega⟩ ?_
      rw [et]
      refine fw_isub dX6_send_64 ⟨by omega, by omega⟩ ?_
      refine fw_istore (ls2 := [_, _, _, _, _, _]) dX6_send_65 (by decide) rfl ?_
      refine fw_iload_n dX6_send_67 rfl rfl ?_
      refine fw_iload dX6_send_68 rfl ?_
      refine fw_if_le 78 dX6_send_70 (by decide) (fun h70 => ?_) (fun h70 => ?_)
      · skip
        refine fw_iconst dX6_send_78 ⟨by decide, by decide⟩ ?_
        refine fw_iadd dX6_send_79 ⟨by omega, by omega⟩ ?_
        refine fw_istore_n (ls2 := [_, _, _, _, _, _]) dX6_send_80 rfl (by decide) rfl ?_
        refine fw_aload_n dX6_send_81 rfl rfl ?_
        refine fw_getr 8 4 rfl dX6_send_82 ff_6_24 ly1_0 ⟨by decide, by decide⟩ rfl rfl (by decide) ?_
        refine fw_iconst dX6_send_85 ⟨by decide, by decide⟩ ?_
        refine fw_iload_n dX6_send_86 rfl rfl ?_
        refine fw_imul dX6_send_87 ⟨by omega, by omega⟩ ?_
        refine fw_iload dX6_send_88 rfl ?_
        refine fw_iadd dX6_send_90 ⟨by omega, by omega⟩ ?_
        refine fw_dup2 dX6_send_91 rfl rfl ?_
        refine fw_iaload dX6_send_92 ly1_4 ⟨by decide, by decide⟩ ⟨by omega, by omega⟩ ?_
        rw [et]
        refine fw_iload dX6_send_93 rfl ?_
        refine fw_if_le 103 dX6_send_95 (by decide) (fun h95 => ?_) (fun h95 => ?_)
        · skip
          refine fw_iconst dX6_send_103 ⟨by decide, by decide⟩ ?_
          refine fw_iadd dX6_send_104 ⟨by omega, by omega⟩ ?_
          refine fw_iastore dX6_send_105 ly1_4 (by decide) ⟨by decide, by decide⟩ ⟨by omega, by omega⟩ ?_
          refine fw_iinc (ls2 := [_, _, _, _, _, _]) dX6_send_106 rfl ⟨by omega, by omega⟩ (by decide) rfl ?_
          refine fw_goto 33 dX6_send_109 (by decide) ?_
          refine fw_take 5 ?_
          refine ih _ (p + 1) _ (by omega) (by omega) (by omega) (fun k a => (fw_updne a).trans (h3 k a)) (fun z a => ?_) (fun u a b => ?_) (by rw [hs, h6]; omega)
          · rw [fw_updjn (by omega)]; exact h4 z (by omega)
          · rw [fw_updeq]
            by_cases hu : u = p
            · rw [if_pos (by omega), hu]; omega
            · rw [if_neg (by omega)]; exact h5 u a (by omega)
        · skip
          refine fw_iload dX6_send_98 rfl ?_
          refine fw_goto 104 dX6_send_100 (by decide) ?_
          refine fw_iadd dX6_send_104 ⟨by omega, by omega⟩ ?_
          refine fw_iastore dX6_send_105 ly1_4 (by decide) ⟨by decide, by decide⟩ ⟨by omega, by omega⟩ ?_
          refine fw_iinc (ls2 := [_, _, _, _, _, _]) dX6_send_106 rfl ⟨by omega, by omega⟩ (by decide) rfl ?_
          refine fw_goto 33 dX6_send_109 (by decide) ?_
          refine fw_take 5 ?_
          refine ih _ (p + 1) _ (by omega) (by omega) (by omega) (fun k a => (fw_updne a).trans (h3 k a)) (fun z a => ?_) (fun u a b => ?_) (by rw [hs, h6]; omega)
          · rw [fw_updjn (by omega)]; exact h4 z (by omega)
          · rw [fw_updeq]
            by_cases hu : u = p
            · rw [if_pos (by omega), hu]; omega
            · rw [if_neg (by omega)]; exact h5 u a (by omega)
      · skip
        refine fw_iload dX6_send_73 rfl ?_
        refine fw_goto 79 dX6_send_75 (by decide) ?_
        refine fw_iadd dX6_send_79 ⟨by omega, by omega⟩ ?_
        refine fw_istore_n (ls2 := [_, _, _, _, _, _]) dX6_send_80 rfl (by decide) rfl ?_
        refine fw_aload_n dX6_send_81 rfl rfl ?_
        refine fw_getr 8 4 rfl dX6_send_82 ff_6_24 ly1_0 ⟨by decide, by decide⟩ rfl rfl (by decide) ?_
        refine fw_iconst dX6_send_85 ⟨by decide, by decide⟩ ?_
        refine fw_iload_n dX6_send_86 rfl rfl ?_
        refine fw_imul dX6_send_87 ⟨by omega, by omega⟩ ?_
        refine fw_iload dX6_send_88 rfl ?_
        refine fw_iadd dX6_send_90 ⟨by omega, by omega⟩ ?_
        refine fw_dup2 dX6_send_91 rfl rfl ?_
        refine fw_iaload dX6_send_92 ly1_4 ⟨by decide, by decide⟩ ⟨by omega, by omega⟩ ?_
        rw [et]
        refine fw_iload dX6_send_93 rfl ?_
        refine fw_if_le 103 dX6_send_95 (by decide) (fun h95 => ?_) (fun h95 => ?_)
        · skip
          refine fw_iconst dX6_send_103 ⟨by decide, by decide⟩ ?_
          refine fw_iadd dX6_send_104 ⟨by omega, by omega⟩ ?_
          refine fw_iastore dX6_send_105 ly1_4 (by decide) ⟨by decide, by decide⟩ ⟨by omega, by omega⟩ ?_
          refine fw_iinc (ls2 := [_, _, _, _, _, _]) dX6_send_106 rfl ⟨by omega, by omega⟩ (by decide) rfl ?_
          refine fw_goto 33 dX6_send_109 (by decide) ?_
          refine fw_take 5 ?_
          refine ih _ (p + 1) _ (by omega) (by omega) (by omega) (fun k a => (fw_updne a).trans (h3 k a)) (fun z a => ?_) (fun u a b => ?_) (by rw [hs, h6]; omega)
          · rw [fw_updjn (by omega)]; exact h4 z (by omega)
          · rw [fw_updeq]
            by_cases hu : u = p
            · rw [if_pos (by omega), hu]; omega
            · rw [if_neg (by omega)]; exact h5 u a (by omega)
        · skip
          refine fw_iload dX6_send_98 rfl ?_
          refine fw_goto 104 dX6_send_100 (by decide) ?_
          refine fw_iadd dX6_send_104 ⟨by omega, by omega⟩ ?_
          refine fw_iastore dX6_send_105 ly1_4 (by decide) ⟨by decide, by decide⟩ ⟨by omega, by omega⟩ ?_
          refine fw_iinc (ls2 := [_, _, _, _, _, _]) dX6_send_106 rfl ⟨by omega, by omega⟩ (by decide) rfl ?_
          refine fw_goto 33 dX6_send_109 (by decide) ?_
          refine fw_take 5 ?_
          refine ih _ (p + 1) _ (by omega) (by omega) (by omega) (fun k a => (fw_updne a).trans (h3 k a)) (fun z a => ?_) (fun u a b => ?_) (by rw [hs, h6]; omega)
          · rw [fw_updjn (by omega)]; exact h4 z (by omega)
          · rw [fw_updeq]
            by_cases hu : u = p
            · rw [if_pos (by omega), hu]; omega
            · rw [if_neg (by omega)]; exact h5 u a (by omega)

set_option maxRecDepth 20000 in
set_option maxHeartbeats 4000000 in
theorem pm_X6_send (M N : fw_F) (L K : fw_G) (hR : Rel M L N K) (f t : Int) : fw_D mX6_send 5 [some (fw_r 0), some (fw_i f), some (fw_i t)] [] N K (fun r N2 K2 => r = some (fw_i (if ¬ ((0 ≤ f ∧ f < N 0 2) ∧ (0 ≤ t ∧ t < N 0 2) ∧ ¬ f = t) then -1 else sn_ans (M 3) (fun p => N 4 (4 * f + p)) (fun p => N 4 (4 * t + p)) (M 1 6) 80)) ∧ (K2 = K ∧ (¬ ((0 ≤ f ∧ f < N 0 2) ∧ (0 ≤ t ∧ t < N 0 2) ∧ ¬ f = t) → N2 = N) ∧ (((0 ≤ f ∧ f < N 0 2) ∧ (0 ≤ t ∧ t < N 0 2) ∧ ¬ f = t) → ((∀ k, ¬ k = 4 → ¬ k = 8 → ¬ k = 9 → N2 k = N k) ∧ (∀ z, z < 4 * t ∨ 4 * t + 4 ≤ z → N2 4 z = N 4 z)) ∧ ∃ tot, sn_R (M 3) (fun p => N 4 (4 * f + p)) (fun p => N 4 (4 * t + p)) (M 1 6) 80 (fun p => N2 4 (4 * t + p)) tot))) := by
  obtain ⟨ha1, ha2, ha3, ha4, ha5, ha6⟩ := hR.1
  have hn1 := hR.2.1.1.1.1
  have hn2 := hR.2.1.1.1.2.1
  refine fw_aload_n dX6_send_5 rfl rfl ?_
  refine fw_iload_n dX6_send_6 rfl rfl ?_
  refine fw_pV mX6_isMachine [_] dX6_send_7 mv_X6_isMachine lk_6_179 ⟨⟨by decide, by decide⟩, rfl, rfl, rfl, by decide, by decide⟩ ly1_0 ⟨by decide, by decide⟩ rfl rfl (Nat.le_of_ble_eq_true rfl) (sp_X6_isMachine _ _ _ (by omega)) ?_
  refine fw_bifeq 26 dX6_send_10 (by decide) (fun h10 => ?_) (fun h10 => ?_)
  · skip
    refine fw_iconst dX6_send_26 ⟨by decide, by decide⟩ ?_
    exact fw_iret dX6_send_27 ⟨rfl, rfl, rfl⟩ (⟨by rw [if_pos (by omega)], rfl, fun _ => rfl, fun h => absurd h (by omega)⟩)
  · skip
    refine fw_aload_n dX6_send_13 rfl rfl ?_
    refine fw_iload_n dX6_send_14 rfl rfl ?_
    refine fw_pV mX6_isMachine [_] dX6_send_15 mv_X6_isMachine lk_6_179 ⟨⟨by decide, by decide⟩, rfl, rfl, rfl, by decide, by decide⟩ ly1_0 ⟨by decide, by decide⟩ rfl rfl (Nat.le_of_ble_eq_true rfl) (sp_X6_isMachine _ _ _ (by omega)) ?_
    refine fw_bifeq 26 dX6_send_18 (by decide) (fun h18 => ?_) (fun h18 => ?_)
    · skip
      refine fw_iconst dX6_send_26 ⟨by decide, by decide⟩ ?_
      exact fw_iret dX6_send_27 ⟨rfl, rfl, rfl⟩ (⟨by rw [if_pos (by omega)], rfl, fun _ => rfl, fun h => absurd h (by omega)⟩)
    · skip
      refine fw_iload_n dX6_send_21 rfl rfl ?_
      refine fw_iload_n dX6_send_22 rfl rfl ?_
      refine fw_icmp_ne 28 dX6_send_23 (by decide) (fun h23 => ?_) (fun h23 => ?_)
      · skip
        refine fw_iconst dX6_send_28 ⟨by decide, by decide⟩ ?_
        refine fw_istore_n (ls2 := [_, _, _, _]) dX6_send_29 rfl (by decide) rfl ?_
        refine fw_iconst dX6_send_30 ⟨by decide, by decide⟩ ?_
        refine fw_istore (ls2 := [_, _, _, _, _]) dX6_send_31 (by decide) rfl ?_
        exact lp_X6_send M N L K hR f t (by omega) (by omega) (by omega) 5 0 0 N (by omega) (by decide) (by omega) (fun _ _ => rfl) (fun _ _ => rfl) (fun u a b => by omega) rfl
      · skip
        refine fw_iconst dX6_send_26 ⟨by decide, by decide⟩ ?_
        exact fw_iret dX6_send_27 ⟨rfl, rfl, rfl⟩ (⟨by rw [if_pos (by omega)], rfl, fun _ => rfl, fun h => absurd h (by omega)⟩)

set_option maxRecDepth 20000 in
set_option maxHeartbeats 4000000 in
theorem sp_X6_send (M N : fw_F) (L K : fw_G) (hR : Rel M L (fw_upd N 0 0 0) K) (f t : Int) : fw_SD mX6_send [fw_r 0, fw_i f, fw_i t] N K (fun r N2 K2 => r = some (fw_i (if ¬ ((0 ≤ f ∧ f < (fw_upd N 0 0 0) 0 2) ∧ (0 ≤ t ∧ t < (fw_upd N 0 0 0) 0 2) ∧ ¬ f = t) then -1 else sn_ans (M 3) (fun p => (fw_upd N 0 0 0) 4 (4 * f + p)) (fun p => (fw_upd N 0 0 0) 4 (4 * t + p)) (M 1 6) 80)) ∧ (K2 = K ∧ (¬ ((0 ≤ f ∧ f < (fw_upd N 0 0 0) 0 2) ∧ (0 ≤ t ∧ t < (fw_upd N 0 0 0) 0 2) ∧ ¬ f = t) → N2 = (fw_upd N 0 0 0)) ∧ (((0 ≤ f ∧ f < (fw_upd N 0 0 0) 0 2) ∧ (0 ≤ t ∧ t < (fw_upd N 0 0 0) 0 2) ∧ ¬ f = t) → ((∀ k, ¬ k = 4 → ¬ k = 8 → ¬ k = 9 → N2 k = (fw_upd N 0 0 0) k) ∧ (∀ z, z < 4 * t ∨ 4 * t + 4 ≤ z → N2 4 z = (fw_upd N 0 0 0) 4 z)) ∧ ∃ tot, sn_R (M 3) (fun p => (fw_upd N 0 0 0) 4 (4 * f + p)) (fun p => (fw_upd N 0 0 0) 4 (4 * t + p)) (M 1 6) 80 (fun p => N2 4 (4 * t + p)) tot))) := by
  refine fw_SP_of pl_X6_send (ls := [_, _, _]) rfl (Nat.le_of_ble_eq_true rfl) fun hA hM => ?_
  refine fw_aload_n dX6_send_0 rfl rfl ?_
  refine fw_iconst dX6_send_1 ⟨by decide, by decide⟩ ?_
  refine fw_puti 0 rfl dX6_send_2 fp_6_106 ly1_0 (by decide) ⟨by decide, by decide⟩ rfl ?_
  exact pm_X6_send M (fw_upd N 0 0 0) L K hR f t

set_option maxRecDepth 20000 in
set_option maxHeartbeats 4000000 in
theorem sp_X5_sendSome (M N : fw_F) (L K : fw_G) (hR : Rel M L N K) (f t k : Int) : fw_SC mX5_sendSome [fw_r 0, fw_i f, fw_i t, fw_i k] M L (fun r M2 L2 => r = some (fw_i (if ¬ ((0 ≤ f ∧ f < N 0 2) ∧ (0 ≤ t ∧ t < N 0 2) ∧ ¬ f = t ∧ (1 ≤ k ∧ k ≤ 20)) then -1 else sn_ans (M 3) (fun p => N 4 (4 * f + p)) (fun p => N 4 (4 * t + p)) (M 1 6) k)) ∧ ∀ N2 K2, (K2 = K ∧ (¬ ((0 ≤ f ∧ f < N 0 2) ∧ (0 ≤ t ∧ t < N 0 2) ∧ ¬ f = t ∧ (1 ≤ k ∧ k ≤ 20)) → N2 = N) ∧ (((0 ≤ f ∧ f < N 0 2) ∧ (0 ≤ t ∧ t < N 0 2) ∧ ¬ f = t ∧ (1 ≤ k ∧ k ≤ 20)) → ((∀ k, ¬ k = 4 → ¬ k = 8 → ¬ k = 9 → N2 k = N k) ∧ (∀ z, z < 4 * t ∨ 4 * t + 4 ≤ z → N2 4 z = N 4 z)) ∧ ∃ tot, sn_R (M 3) (fun p => N 4 (4 * f + p)) (fun p => N 4 (4 * t + p)) (M 1 6) k (fun p => N2 4 (4 * t + p)) tot)) → Rel M2 L2 N2 K2) := by
  refine fw_SP_of pl_X5_sendSome (ls := [_, _, _, _]) rfl (Nat.le_of_ble_eq_true rfl) fun hA hM => ?_
  obtain ⟨ha1, ha2, ha3, ha4, ha5, ha6⟩ := hR.1
  have hn1 := hR.2.1.1.1.1
  have hn2 := hR.2.1.1.1.2.1
  refine fw_aload_n dX5_sendSome_0 rfl rfl ?_
  refine fw_iload_n dX5_sendSome_1 rfl rfl ?_
  refine fw_pV mX5_isMachine [_] dX5_sendSome_2 mv_X5_isMachine lk_5_62 ⟨⟨by decide, by decide⟩, rfl, rfl, rfl, by decide, by decide⟩ ly0_0 ⟨by decide, by decide⟩ rfl rfl (Nat.le_of_ble_eq_true rfl) (sp_X5_isMachine _ _ _) ?_
  refine fw_bifeq 32 dX5_sendSome_5 (by decide) (fun h5 => ?_) (fun h5 => ?_)
  · skip
    refine fw_iconst dX5_sendSome_32 ⟨by decide, by decide⟩ ?_
    refine fw_iret dX5_sendSome_33 ⟨rfl, rfl, rfl⟩ ?_
    refine ⟨by rw [if_pos (by omega)], fun N2 K2 h => ?_⟩
    rw [h.1, h.2.1 (by omega)]; exact hR
  · skip
    refine fw_aload_n dX5_sendSome_8 rfl rfl ?_
    refine fw_iload_n dX5_sendSome_9 rfl rfl ?_
    refine fw_pV mX5_isMachine [_] dX5_sendSome_10 mv_X5_isMachine lk_5_62 ⟨⟨by decide, by decide⟩, rfl, rfl, rfl, by decide, by decide⟩ ly0_0 ⟨by decide, by decide⟩ rfl rfl (Nat.le_of_ble_eq_true rfl) (sp_X5_isMachine _ _ _) ?_
    refine fw_bifeq 32 dX5_sendSome_13 (by decide) (fun h13 => ?_) (fun h13 => ?_)
    · skip
      refine fw_iconst dX5_sendSome_32 ⟨by decide, by decide⟩ ?_
      refine fw_iret dX5_sendSome_33 ⟨rfl, rfl, rfl⟩ ?_
      refine ⟨by rw [if_pos (by omega)], fun N2 K2 h => ?_⟩
      rw [h.1, h.2.1 (by omega)]; exact hR
    · skip
      refine fw_iload_n dX5_sendSome_16 rfl rfl ?_
      refine fw_iload_n dX5_sendSome_17 rfl rfl ?_
      refine fw_icmp_eq 32 dX5_sendSome_18 (by decide) (fun h18 => ?_) (fun h18 => ?_)
      · skip
        refine fw_iconst dX5_sendSome_32 ⟨by decide, by decide⟩ ?_
        refine fw_iret dX5_sendSome_33 ⟨rfl, rfl, rfl⟩ ?_
        refine ⟨by rw [if_pos (by omega)], fun N2 K2 h => ?_⟩
        rw [h.1, h.2.1 (by omega)]; exact hR
      · skip
        refine fw_iload_n dX5_sendSome_21 rfl rfl ?_
        refine fw_iconst dX5_sendSome_22 ⟨by decide, by decide⟩ ?_
        refine fw_icmp_lt 32 dX5_sendSome_23 (by decide) (fun h23 => ?_) (fun h23 => ?_)
        · skip
          refine fw_iconst dX5_sendSome_32 ⟨by decide, by decide⟩ ?_
          refine fw_iret dX5_sendSome_33 ⟨rfl, rfl, rfl⟩ ?_
          refine ⟨by rw [if_pos (by omega)], fun N2 K2 h => ?_⟩
          rw [h.1, h.2.1 (by omega)]; exact hR
        · skip
          refine fw_iload_n dX5_sendSome_26 rfl rfl ?_
          refine fw_bipush dX5_sendSome_27 ⟨by decide, by decide⟩ (by decide) ?_
          refine fw_icmp_le 34 dX5_sendSome_29 (by decide) (fun h29 => ?_) (fun h29 => ?_)
          · skip
            have knf : ∀ u, 0 ≤ u → u < 4 → ∀ p, 0 ≤ p → p < 4 → M 5 ((M 1 7 * 4 + u) * 4 + p) = N 4 (4 * u + p) := fun u u0 u1 p p0 p1 => by
              have h9 := (hR.2.2.1.1 (N 0 4) u p ha5.1 (Int.le_refl _) u0 u1 p0 p1).1
              simp only [rl_kn_now] at h9
              rw [ha4]; exact h9
            refine fw_aload_n dX5_sendSome_34 rfl rfl ?_
            refine fw_getr 0 1 rfl dX5_sendSome_35 ff_5_12 ly0_0 ⟨by decide, by decide⟩ rfl rfl (by decide) ?_
            refine fw_iload_n dX5_sendSome_38 rfl rfl ?_
            refine fw_iload_n dX5_sendSome_39 rfl rfl ?_
            refine fw_iload_n dX5_sendSome_40 rfl rfl ?_
            refine fw_cV mX1_passOn [_, _, _] dX5_sendSome_41 mv_X1_passOn lk_5_134 ⟨⟨by decide, by decide⟩, rfl, rfl, rfl, by decide, by decide⟩ ly0_1 ⟨by decide, by decide⟩ rfl rfl (Nat.le_of_ble_eq_true rfl) (sp_X1_passOn f t k (N 0 2) M (md_G N) (N 1) L hR.2.1.1 hR.2.1.2.1 (by omega) (by omega) (by omega) (by omega) (by omega) (fun u p u0 u1 p0 p1 => by rw [knf u u0 u1 p p0 p1]; have h7 := rl_now hR u p u0 u1 p0 p1; have h8 := (rl_mk hR p p0 p1).1; omega)) (fun r M1 L1 hp hM1 => ?_)
            obtain ⟨rfl, g1, g2, tot, rfl, g3⟩ := hp
            have g4 := sn_R_congr (kf' := (fun p => N 4 (4 * f + p))) (kt' := (fun p => N 4 (4 * t + p))) g3 (knf f (by omega) (by omega)) (knf t (by omega) (by omega))
            refine fw_iret dX5_sendSome_44 ⟨rfl, rfl, rfl⟩ ?_
            refine ⟨by rw [if_neg (by omega), sn_ans_of g4], fun N2 K2 h => ?_⟩
            obtain ⟨⟨d1, d2⟩, tot2, d3⟩ := h.2.2 (by omega)
            rw [h.1]; exact rl_send hR (by omega) (by omega) (by omega) g1 g2 g4 d1 d2 d3
          · skip
            refine fw_iconst dX5_sendSome_32 ⟨by decide, by decide⟩ ?_
            refine fw_iret dX5_sendSome_33 ⟨rfl, rfl, rfl⟩ ?_
            refine ⟨by rw [if_pos (by omega)], fun N2 K2 h => ?_⟩
            rw [h.1, h.2.1 (by omega)]; exact hR

set_option maxRecDepth 20000 in
set_option maxHeartbeats 4000000 in
theorem l2_X6_sendSome (M N : fw_F) (L K : fw_G) (hR : Rel M L N K) (f t k : Int) (hf : 0 ≤ f ∧ f < N 0 2) (ht : 0 ≤ t ∧ t < N 0 2) (hft : ¬ f = t) (hk : 1 ≤ k ∧ k ≤ 20) : ∀ (q : Nat) (v b : Int) (N1 : fw_F), k - v < q → ((∀ k, ¬ k = 4 → ¬ k = 8 → ¬ k = 9 → N1 k = N k) ∧ (∀ z, z < 4 * t ∨ 4 * t + 4 ≤ z → N1 4 z = N 4 z)) → (∀ p, 0 ≤ p → p < 4 → N1 9 p = N 4 (4 * f + p)) → (∃ j : Nat, (j : Int) ≤ M 1 6 ∧ ∀ p, 0 ≤ p → p < 4 → N1 4 (4 * t + p) = sn_PS (M 3) (fun p => N 4 (4 * f + p)) (fun p => N 4 (4 * t + p)) j p) → (∀ p, 0 ≤ p → p < 4 → N1 8 p = N1 4 (4 * t + p)) → v = sn_tot (fun p => N 4 (4 * t + p)) (fun p => N1 4 (4 * t + p)) → 0 ≤ v ∧ v ≤ k → ab_fs (N1 8) (N1 9) (md_G N) (N 0 2) b → fw_D mX6_sendSome 102 [some (fw_r 0), some (fw_i f), some (fw_i t), some (fw_i k), some (fw_i v), some (fw_i b)] [] N1 K (fun r N2 K2 => r = some (fw_i (if ¬ ((0 ≤ f ∧ f < N 0 2) ∧ (0 ≤ t ∧ t < N 0 2) ∧ ¬ f = t ∧ (1 ≤ k ∧ k ≤ 20)) then -1 else sn_ans (M 3) (fun p => N 4 (4 * f + p)) (fun p => N 4 (4 * t + p)) (M 1 6) k)) ∧ (K2 = K ∧ (¬ ((0 ≤ f ∧ f < N 0 2) ∧ (0 ≤ t ∧ t < N 0 2) ∧ ¬ f = t ∧ (1 ≤ k ∧ k ≤ 20)) → N2 = N) ∧ (((0 ≤ f ∧ f < N 0 2) ∧ (0 ≤ t ∧ t < N 0 2) ∧ ¬ f = t ∧ (1 ≤ k ∧ k ≤ 20)) → ((∀ k, ¬ k = 4 → ¬ k = 8 → ¬ k = 9 → N2 k = N k) ∧ (∀ z, z < 4 * t ∨ 4 * t + 4 ≤ z → N2 4 z = N 4 z)) ∧ ∃ tot, sn_R (M 3) (fun p => N 4 (4 * f + p)) (fun p => N 4 (4 * t + p)) (M 1 6) k (fun p => N2 4 (4 * t + p)) tot))) := by
  intro q
  induction q with
  | zero => intro v b N1 h0 _ _ _ _ _ h7; omega
  | succ q ih =>
    intro v b N1 h0 hfr h3 h4 h5 h6 h7 hb
    have hn1 := hR.2.1.1.1.1
    have hn2 := hR.2.1.1.1.2.1
    obtain ⟨h1, h2⟩ := hfr
    obtain ⟨j, j1, j2⟩ := h4
    have hkf := fun p a b => rl_now hR f p (by omega) (by omega) a b
    have hkt := fun p a b => rl_now hR t p (by omega) (by omega) a b
    have hT := ab_T80 hR.2.1.1
    have e0 := h1 0 (by decide) (by decide) (by decide)
    refine fw_iload dX6_sendSome_102 rfl ?_
    refine fw_bipush dX6_sendSome_104 ⟨by decide, by decide⟩ (by decide) ?_
    refine fw_icmp_eq 157 dX6_sendSome_106 (by decide) (fun h106 => ?_) (fun h106 => ?_)
    · skip
      refine fw_iload dX6_sendSome_157 rfl ?_
      refine fw_iret dX6_sendSome_159 ⟨rfl, rfl, rfl⟩ ?_
      have hsn : sn_R (M 3) (fun p => N 4 (4 * f + p)) (fun p => N 4 (4 * t + p)) (M 1 6) k (fun u => N1 4 (4 * t + u)) v := by
        rcases hb with ⟨z1, z2⟩ | ⟨z0, z1, z2, z3⟩
        · refine ⟨(M 1 6).toNat, by omega, fun p a c => ?_, h6, h7.2, Or.inr (by omega)⟩
          rw [sn_T hR.2.1.1 hkf p a c]
          show N1 4 (4 * t + p) = max (N 4 (4 * t + p)) (N 4 (4 * f + p))
          have x1 := hkf p a c
          have x2 : N1 4 (4 * t + p) = max (N 4 (4 * t + p)) (min (N 4 (4 * f + p)) (ab_cnt (M 3) j p)) := j2 p a c
          have x2c := ab_cnt_0 (M 3) p j
          have x3 : N 4 (4 * f + p) ≤ N1 4 (4 * t + p) := by
            rcases Int.lt_or_le p (N 0 2) with w | w
            · have h9 := z2 p a w; rw [h3 p a c, h5 p a c] at h9; exact h9
            · have x4 := (rl_mk hR p a c).2 w; have x5 := hkt p a c; omega
          omega
        · omega
      refine ⟨?_, rfl, fun h => absurd ⟨hf, ht, hft, hk⟩ h, fun _ => ⟨⟨h1, h2⟩, v, hsn⟩⟩
      rw [if_neg (by omega), sn_ans_of hsn]
    · skip
      refine fw_iload dX6_sendSome_109 rfl ?_
      refine fw_iload_n dX6_sendSome_111 rfl rfl ?_
      refine fw_icmp_ge 157 dX6_sendSome_112 (by decide) (fun h112 => ?_) (fun h112 => ?_)
      · skip
        refine fw_iload dX6_sendSome_157 rfl ?_
        refine fw_iret dX6_sendSome_159 ⟨rfl, rfl, rfl⟩ ?_
        have hsn : sn_R (M 3) (fun p => N 4 (4 * f + p)) (fun p => N 4 (4 * t + p)) (M 1 6) k (fun u => N1 4 (4 * t + u)) v := by
          exact ⟨j, j1, j2, h6, h7.2, Or.inl (by omega)⟩
        refine ⟨?_, rfl, fun h => absurd ⟨hf, ht, hft, hk⟩ h, fun _ => ⟨⟨h1, h2⟩, v, hsn⟩⟩
        rw [if_neg (by omega), sn_ans_of hsn]
      · skip
        have hbs : ab_fs (N1 8) (fun p => N 4 (4 * f + p)) (md_G N) (N 0 2) b := by
          unfold ab_fs at hb ⊢
          rcases hb with ⟨z1, z2⟩ | ⟨z0, z1, z2, z3⟩
          · exact Or.inl ⟨z1, fun p a c => by have h9 := z2 p a c; rw [h3 p a (by omega)] at h9; exact h9⟩
          · refine Or.inr ⟨z0, z1, by show N1 8 b < N 4 (4 * f + b); rw [← h3 b z0 (by omega)]; exact z2, fun p a c d => z3 p a c (by rw [h3 p a (by omega)]; exact d)⟩
        obtain ⟨⟨c0, c1, c2⟩, j9, j3, j4⟩ := sn_first hR.2.1.1 j1 hkf (fun p a b => (hkt p a b).1) (fun p a b => (h5 p a b).trans (j2 p a b)) hbs h106
        have hb4 := h5 b c0 (by omega)
        have hkb := hkf b c0 (by omega)
        have hmb := (rl_mk hR b c0 (by omega)).1
        have c20 : N1 8 b < 20 := by omega
        have y2 : N1 4 (4 * t + b) = max (N 4 (4 * t + b)) (min (N 4 (4 * f + b)) (ab_cnt (M 3) j b)) := j2 b c0 (by omega)
        have hge0 : 0 ≤ N1 8 b := by have h9 := hkt b c0 (by omega); omega
        refine fw_aload_n dX6_sendSome_115 rfl rfl ?_
        refine fw_getr 8 4 rfl dX6_sendSome_116 ff_6_24 ly1_0 ⟨by decide, by decide⟩ rfl rfl (by decide) ?_
        refine fw_iconst dX6_sendSome_119 ⟨by decide, by decide⟩ ?_
        refine fw_iload_n dX6_sendSome_120 rfl rfl ?_
        refine fw_imul dX6_sendSome_121 ⟨by omega, by omega⟩ ?_
        refine fw_iload dX6_sendSome_122 rfl ?_
        refine fw_iadd dX6_sendSome_124 ⟨by omega, by omega⟩ ?_
        refine fw_dup2 dX6_sendSome_125 rfl rfl ?_
        refine fw_iaload dX6_sendSome_126 ly1_4 ⟨by decide, by decide⟩ ⟨by omega, by omega⟩ ?_
        refine fw_iconst dX6_sendSome_127 ⟨by decide, by decide⟩ ?_
        refine fw_iadd dX6_sendSome_128 (by rw [← hb4]; exact ⟨by omega, by omega⟩) ?_
        refine fw_iastore dX6_sendSome_129 ly1_4 (by decide) ⟨by decide, by decide⟩ ⟨by omega, by omega⟩ ?_
        refine fw_aload_n dX6_sendSome_130 rfl rfl ?_
        refine fw_getr 12 8 rfl dX6_sendSome_131 ff_6_36 ly1_0 ⟨by decide, by decide⟩ rfl rfl (by decide) ?_
        refine fw_iload dX6_sendSome_134 rfl ?_
        refine fw_dup2 dX6_sendSome_136 rfl rfl ?_
        refine fw_iaload dX6_sendSome_137 ly1_8 ⟨by decide, by decide⟩ ⟨by omega, by omega⟩ ?_
        simp (disch := decide) only [fw_updne]
        refine fw_iconst dX6_sendSome_138 ⟨by decide, by decide⟩ ?_
        refine fw_iadd dX6_sendSome_139 ⟨by omega, by omega⟩ ?_
        refine fw_iastore dX6_sendSome_140 ly1_8 (by decide) ⟨by decide, by decide⟩ ⟨by omega, by omega⟩ ?_
        refine fw_iinc (ls2 := [_, _, _, _, _, _]) dX6_sendSome_141 rfl ⟨by omega, by omega⟩ (by decide) rfl ?_
        obtain ⟨N9, hN9⟩ : ∃ N9, N9 = fw_upd (fw_upd N1 4 (4 * t + b) (N1 4 (4 * t + b) + 1)) 8 b (N1 8 b + 1) := ⟨_, rfl⟩
        rw [← hN9]
        have m4 : ∀ p, 0 ≤ p → p < 4 → N9 4 (4 * t + p) = if p = b then N1 4 (4 * t + p) + 1 else N1 4 (4 * t + p) := fun p a c => by
          rw [hN9, fw_updne (by decide), fw_updeq]
          by_cases hp : p = b
          · rw [if_pos (by omega), if_pos hp, hp]
          · rw [if_neg (by omega), if_neg hp]
        have m8 : ∀ p, 0 ≤ p → p < 4 → N9 8 p = N9 4 (4 * t + p) := fun p a c => by
          rw [m4 p a c, hN9, fw_updeq]
          by_cases hp : p = b
          · rw [if_pos hp, if_pos hp, h5 b c0 (by omega), hp]
          · rw [if_neg hp, if_neg hp]; exact h5 p a c
        have mr : ∀ k, ¬ k = 4 → ¬ k = 8 → N9 k = N1 k := fun k a c => by rw [hN9, fw_updne c, fw_updne a]
        have mz : ∀ z, z < 4 * t ∨ 4 * t + 4 ≤ z → N9 4 z = N 4 z := fun z a => by rw [hN9, fw_updne (by decide), fw_updjn (by omega)]; exact h2 z a
        have mE : N9 0 = N 0 := (mr 0 (by decide) (by decide)).trans e0
        have mG : md_G N9 = md_G N := md_G_of ((mr 2 (by decide) (by decide)).trans (h1 2 (by decide) (by decide) (by decide)))
        refine fw_aload_n dX6_sendSome_144 rfl rfl ?_
        refine fw_aload_n dX6_sendSome_145 rfl rfl ?_
        refine fw_getr 13 9 rfl dX6_sendSome_146 ff_6_39 ly1_0 ⟨by decide, by decide⟩ rfl rfl (by decide) ?_
        refine fw_cV mX6_first [_] dX6_sendSome_149 mv_X6_first lk_6_126 ⟨⟨by decide, by decide⟩, rfl, rfl, rfl, by decide, by decide⟩ ly1_0 ⟨by decide, by decide⟩ rfl rfl (Nat.le_of_ble_eq_true rfl) (sp_X6_first_9 N9 K (by rw [mE]; omega) (fun p a c => ⟨by rw [m8 p a c, m4 p a c]; have h9 := hkt p a c; have h8 : N1 4 (4 * t + p) = max (N 4 (4 * t + p)) (min (N 4 (4 * f + p)) (ab_cnt (M 3) j p)) := j2 p a c; split <;> omega, by rw [mr 9 (by decide) (by decide), h3 p a c]; have h9 := hkf p a c; have h8 := (rl_mk hR p a c).1; omega⟩)) (fun r M1 L1 hp hM1 => ?_)
        obtain ⟨hM9, rfl, b9, rfl, hb9⟩ := hp
        rw [mG, mE] at hb9
        rw [hM9]
        refine fw_istore (ls2 := [_, _, _, _, _, _]) dX6_sendSome_152 (by decide) rfl ?_
        refine fw_goto 102 dX6_sendSome_154 (by decide) ?_
        refine ih (v + 1) b9 N9 (by omega) ⟨fun k a c d => (mr k a c).trans (h1 k a c d), mz⟩ (fun p a c => by rw [mr 9 (by decide) (by decide)]; exact h3 p a c) ⟨j9, j3, fun p a c => ?_⟩ m8 ?_ (by omega) hb9
        · rw [m4 p a c, j4 p a c, h5 p a c]
        · rw [h6]; unfold sn_tot
          simp only [m4 0 (by decide) (by decide), m4 1 (by decide) (by decide), m4 2 (by decide) (by decide), m4 3 (by decide) (by decide)]
          rcases (show b = 0 ∨ b = 1 ∨ b = 2 ∨ b = 3 by omega) with e | e | e | e <;> rw [e] <;> simp <;> omega

set_option maxRecDepth 20000 in
set_option maxHeartbeats 4000000 in
theorem lp_X6_sendSome (M N : fw_F) (L K : fw_G) (hR : Rel M L N K) (f t k : Int) (hf : 0 ≤ f ∧ f < N 0 2) (ht : 0 ≤ t ∧ t < N 0 2) (hft : ¬ f = t) (hk : 1 ≤ k ∧ k ≤ 20) : ∀ (q : Nat) (p : Int) (N1 : fw_F), 4 - p < q → 0 ≤ p → p ≤ 4 → (∀ k, ¬ k = 8 → ¬ k = 9 → N1 k = N k) → (∀ u, 0 ≤ u → u < p → N1 8 u = N 4 (4 * t + u) ∧ N1 9 u = N 4 (4 * f + u)) → fw_D mX6_sendSome 44 [some (fw_r 0), some (fw_i f), some (fw_i t), some (fw_i k), some (fw_i 0), some (fw_i p)] [] N1 K (fun r N2 K2 => r = some (fw_i (if ¬ ((0 ≤ f ∧ f < N 0 2) ∧ (0 ≤ t ∧ t < N 0 2) ∧ ¬ f = t ∧ (1 ≤ k ∧ k ≤ 20)) then -1 else sn_ans (M 3) (fun p => N 4 (4 * f + p)) (fun p => N 4 (4 * t + p)) (M 1 6) k)) ∧ (K2 = K ∧ (¬ ((0 ≤ f ∧ f < N 0 2) ∧ (0 ≤ t ∧ t < N 0 2) ∧ ¬ f = t ∧ (1 ≤ k ∧ k ≤ 20)) → N2 = N) ∧ (((0 ≤ f ∧ f < N 0 2) ∧ (0 ≤ t ∧ t < N 0 2) ∧ ¬ f = t ∧ (1 ≤ k ∧ k ≤ 20)) → ((∀ k, ¬ k = 4 → ¬ k = 8 → ¬ k = 9 → N2 k = N k) ∧ (∀ z, z < 4 * t ∨ 4 * t + 4 ≤ z → N2 4 z = N 4 z)) ∧ ∃ tot, sn_R (M 3) (fun p => N 4 (4 * f + p)) (fun p => N 4 (4 * t + p)) (M 1 6) k (fun p => N2 4 (4 * t + p)) tot))) := by
  intro q
  induction q with
  | zero => intro p N1 h0 h1 h2; omega
  | succ q ih =>
    intro p N1 h0 h1 h2 h3 h4
    have hn1 := hR.2.1.1.1.1
    have hn2 := hR.2.1.1.1.2.1
    have e4 := h3 4 (by decide) (by decide)
    refine fw_iload dX6_sendSome_44 rfl ?_
    refine fw_iconst dX6_sendSome_46 ⟨by decide, by decide⟩ ?_
    refine fw_icmp_ge 92 dX6_sendSome_47 (by decide) (fun h47 => ?_) (fun h47 => ?_)
    · skip
      have hpp : p = 4 := by omega
      subst hpp
      have mG : md_G N1 = md_G N := md_G_of (h3 2 (by decide) (by decide))
      have mE := h3 0 (by decide) (by decide)
      have hkf := fun p a b => rl_now hR f p (by omega) (by omega) a b
      have hkt := fun p a b => rl_now hR t p (by omega) (by omega) a b
      refine fw_aload_n dX6_sendSome_92 rfl rfl ?_
      refine fw_aload_n dX6_sendSome_93 rfl rfl ?_
      refine fw_getr 13 9 rfl dX6_sendSome_94 ff_6_39 ly1_0 ⟨by decide, by decide⟩ rfl rfl (by decide) ?_
      refine fw_cV mX6_first [_] dX6_sendSome_97 mv_X6_first lk_6_126 ⟨⟨by decide, by decide⟩, rfl, rfl, rfl, by decide, by decide⟩ ly1_0 ⟨by decide, by decide⟩ rfl rfl (Nat.le_of_ble_eq_true rfl) (sp_X6_first_9 N1 K (by rw [mE]; omega) (fun p a c => ⟨by rw [(h4 p a c).1]; exact (hkt p a c).1, by rw [(h4 p a c).2]; have h9 := hkf p a c; have h8 := (rl_mk hR p a c).1; omega⟩)) (fun r M1 L1 hp hM1 => ?_)
      obtain ⟨hM9, rfl, b9, rfl, hb9⟩ := hp
      rw [mG, mE] at hb9
      rw [hM9]
      refine fw_istore (ls2 := [_, _, _, _, _, _]) dX6_sendSome_100 (by decide) rfl ?_
      have hT := ab_T80 hR.2.1.1
      refine l2_X6_sendSome M N L _ hR f t k hf ht hft hk 21 0 b9 N1 (by omega) ⟨fun k a c d => h3 k c d, fun z a => by rw [e4]⟩ (fun p a c => (h4 p a c).2) ⟨0, by omega, fun p a c => ?_⟩ (fun p a c => by rw [e4]; exact (h4 p a c).1) (by rw [e4]; simp [sn_tot]) (by omega) hb9
      rw [e4]
      show _ = max (N 4 (4 * t + p)) (min (N 4 (4 * f + p)) 0)
      have x1 := hkf p a c
      have x2 := hkt p a c
      omega
    · skip
      refine fw_aload_n dX6_sendSome_50 rfl rfl ?_
      refine fw_getr 12 8 rfl dX6_sendSome_51 ff_6_36 ly1_0 ⟨by decide, by decide⟩ rfl rfl (by decide) ?_
      refine fw_iload dX6_sendSome_54 rfl ?_
      refine fw_aload_n dX6_sendSome_56 rfl rfl ?_
      refine fw_getr 8 4 rfl dX6_sendSome_57 ff_6_24 ly1_0 ⟨by decide, by decide⟩ rfl rfl (by decide) ?_
      refine fw_iconst dX6_sendSome_60 ⟨by decide, by decide⟩ ?_
      refine fw_iload_n dX6_sendSome_61 rfl rfl ?_
      refine fw_imul dX6_sendSome_62 ⟨by omega, by omega⟩ ?_
      refine fw_iload dX6_sendSome_63 rfl ?_
      refine fw_iadd dX6_sendSome_65 ⟨by omega, by omega⟩ ?_
      refine fw_iaload dX6_sendSome_66 ly1_4 ⟨by decide, by decide⟩ ⟨by omega, by omega⟩ ?_
      rw [e4]
      refine fw_iastore dX6_sendSome_67 ly1_8 (by decide) ⟨by decide, by decide⟩ ⟨by omega, by omega⟩ ?_
      refine fw_aload_n dX6_sendSome_68 rfl rfl ?_
      refine fw_getr 13 9 rfl dX6_sendSome_69 ff_6_39 ly1_0 ⟨by decide, by decide⟩ rfl rfl (by decide) ?_
      refine fw_iload dX6_sendSome_72 rfl ?_
      refine fw_aload_n dX6_sendSome_74 rfl rfl ?_
      refine fw_getr 8 4 rfl dX6_sendSome_75 ff_6_24 ly1_0 ⟨by decide, by decide⟩ rfl rfl (by decide) ?_
      refine fw_iconst dX6_sendSome_78 ⟨by decide, by decide⟩ ?_
      refine fw_iload_n dX6_sendSome_79 rfl rfl ?_
      refine fw_imul dX6_sendSome_80 ⟨by omega, by omega⟩ ?_
      refine fw_iload dX6_sendSome_81 rfl ?_
      refine fw_iadd dX6_sendSome_83 ⟨by omega, by omega⟩ ?_
      refine fw_iaload dX6_sendSome_84 ly1_4 ⟨by decide, by decide⟩ ⟨by omega, by omega⟩ ?_
      rw [fw_updne (by decide), e4]
      refine fw_iastore dX6_sendSome_85 ly1_9 (by decide) ⟨by decide, by decide⟩ ⟨by omega, by omega⟩ ?_
      refine fw_iinc (ls2 := [_, _, _, _, _, _]) dX6_sendSome_86 rfl ⟨by omega, by omega⟩ (by decide) rfl ?_
      refine fw_goto 44 dX6_sendSome_89 (by decide) ?_
      refine ih (p + 1) _ (by omega) (by omega) (by omega) (fun k a c => by rw [fw_updne c, fw_updne a]; exact h3 k a c) (fun u a c => ?_)
      rw [fw_updne (show ¬ (8 : Int) = 9 by decide), fw_updeq, fw_updeq]
      by_cases hu : u = p
      · rw [if_pos hu, if_pos hu, hu]; exact ⟨rfl, rfl⟩
      · rw [if_neg hu, if_neg hu, fw_updne (by decide)]; exact h4 u a (by omega)

set_option maxRecDepth 20000 in
set_option maxHeartbeats 4000000 in
theorem pm_X6_sendSome (M N : fw_F) (L K : fw_G) (hR : Rel M L N K) (f t k : Int) : fw_D mX6_sendSome 5 [some (fw_r 0), some (fw_i f), some (fw_i t), some (fw_i k)] [] N K (fun r N2 K2 => r = some (fw_i (if ¬ ((0 ≤ f ∧ f < N 0 2) ∧ (0 ≤ t ∧ t < N 0 2) ∧ ¬ f = t ∧ (1 ≤ k ∧ k ≤ 20)) then -1 else sn_ans (M 3) (fun p => N 4 (4 * f + p)) (fun p => N 4 (4 * t + p)) (M 1 6) k)) ∧ (K2 = K ∧ (¬ ((0 ≤ f ∧ f < N 0 2) ∧ (0 ≤ t ∧ t < N 0 2) ∧ ¬ f = t ∧ (1 ≤ k ∧ k ≤ 20)) → N2 = N) ∧ (((0 ≤ f ∧ f < N 0 2) ∧ (0 ≤ t ∧ t < N 0 2) ∧ ¬ f = t ∧ (1 ≤ k ∧ k ≤ 20)) → ((∀ k, ¬ k = 4 → ¬ k = 8 → ¬ k = 9 → N2 k = N k) ∧ (∀ z, z < 4 * t ∨ 4 * t + 4 ≤ z → N2 4 z = N 4 z)) ∧ ∃ tot, sn_R (M 3) (fun p => N 4 (4 * f + p)) (fun p => N 4 (4 * t + p)) (M 1 6) k (fun p => N2 4 (4 * t + p)) tot))) := by
  obtain ⟨ha1, ha2, ha3, ha4, ha5, ha6⟩ := hR.1
  have hn1 := hR.2.1.1.1.1
  have hn2 := hR.2.1.1.1.2.1
  refine fw_aload_n dX6_sendSome_5 rfl rfl ?_
  refine fw_iload_n dX6_sendSome_6 rfl rfl ?_
  refine fw_pV mX6_isMachine [_] dX6_sendSome_7 mv_X6_isMachine lk_6_179 ⟨⟨by decide, by decide⟩, rfl, rfl, rfl, by decide, by decide⟩ ly1_0 ⟨by decide, by decide⟩ rfl rfl (Nat.le_of_ble_eq_true rfl) (sp_X6_isMachine _ _ _ (by omega)) ?_
  refine fw_bifeq 36 dX6_sendSome_10 (by decide) (fun h10 => ?_) (fun h10 => ?_)
  · skip
    refine fw_iconst dX6_sendSome_36 ⟨by decide, by decide⟩ ?_
    exact fw_iret dX6_sendSome_37 ⟨rfl, rfl, rfl⟩ (⟨by rw [if_pos (by omega)], rfl, fun _ => rfl, fun h => absurd h (by omega)⟩)
  · skip
    refine fw_aload_n dX6_sendSome_13 rfl rfl ?_
    refine fw_iload_n dX6_sendSome_14 rfl rfl ?_
    refine fw_pV mX6_isMachine [_] dX6_sendSome_15 mv_X6_isMachine lk_6_179 ⟨⟨by decide, by decide⟩, rfl, rfl, rfl, by decide, by decide⟩ ly1_0 ⟨by decide, by decide⟩ rfl rfl (Nat.le_of_ble_eq_true rfl) (sp_X6_isMachine _ _ _ (by omega)) ?_
    refine fw_bifeq 36 dX6_sendSome_18 (by decide) (fun h18 => ?_) (fun h18 => ?_)
    · skip
      refine fw_iconst dX6_sendSome_36 ⟨by decide, by decide⟩ ?_
      exact fw_iret dX6_sendSome_37 ⟨rfl, rfl, rfl⟩ (⟨by rw [if_pos (by omega)], rfl, fun _ => rfl, fun h => absurd h (by omega)⟩)
    · skip
      refine fw_iload_n dX6_sendSome_21 rfl rfl ?_
      refine fw_iload_n dX6_sendSome_22 rfl rfl ?_
      refine fw_icmp_eq 36 dX6_sendSome_23 (by decide) (fun h23 => ?_) (fun h23 => ?_)
      · skip
        refine fw_iconst dX6_sendSome_36 ⟨by decide, by decide⟩ ?_
        exact fw_iret dX6_sendSome_37 ⟨rfl, rfl, rfl⟩ (⟨by rw [if_pos (by omega)], rfl, fun _ => rfl, fun h => absurd h (by omega)⟩)
      · skip
        refine fw_iload_n dX6_sendSome_26 rfl rfl ?_
        refine fw_iconst dX6_sendSome_27 ⟨by decide, by decide⟩ ?_
        refine fw_bipush dX6_sendSome_28 ⟨by decide, by decide⟩ (by decide) ?_
        refine fw_pS mX6_in [_, _, _] dX6_sendSome_30 mv_X6_in lk_6_115 ⟨⟨by decide, by decide⟩, rfl, rfl, rfl, by decide, by decide⟩ rfl rfl (Nat.le_of_ble_eq_true rfl) (sp_X6_in _ _ _ _ _) ?_
        refine fw_bifne 38 dX6_sendSome_33 (by decide) (fun h33 => ?_) (fun h33 => ?_)
        · skip
          refine fw_iconst dX6_sendSome_38 ⟨by decide, by decide⟩ ?_
          refine fw_istore (ls2 := [_, _, _, _, _]) dX6_sendSome_39 (by decide) rfl ?_
          refine fw_iconst dX6_sendSome_41 ⟨by decide, by decide⟩ ?_
          refine fw_istore (ls2 := [_, _, _, _, _, _]) dX6_sendSome_42 (by decide) rfl ?_
          exact lp_X6_sendSome M N L K hR f t k (by omega) (by omega) (by omega) (by omega) 5 0 N (by decide) (by decide) (by decide) (fun _ _ _ => rfl) (fun u a b => by omega)
        · skip
          refine fw_iconst dX6_sendSome_36 ⟨by decide, by decide⟩ ?_
          exact fw_iret dX6_sendSome_37 ⟨rfl, rfl, rfl⟩ (⟨by rw [if_pos (by omega)], rfl, fun _ => rfl, fun h => absurd h (by omega)⟩)

set_option maxRecDepth 20000 in
set_option maxHeartbeats 4000000 in
theorem sp_X6_sendSome (M N : fw_F) (L K : fw_G) (hR : Rel M L (fw_upd N 0 0 0) K) (f t k : Int) : fw_SD mX6_sendSome [fw_r 0, fw_i f, fw_i t, fw_i k] N K (fun r N2 K2 => r = some (fw_i (if ¬ ((0 ≤ f ∧ f < (fw_upd N 0 0 0) 0 2) ∧ (0 ≤ t ∧ t < (fw_upd N 0 0 0) 0 2) ∧ ¬ f = t ∧ (1 ≤ k ∧ k ≤ 20)) then -1 else sn_ans (M 3) (fun p => (fw_upd N 0 0 0) 4 (4 * f + p)) (fun p => (fw_upd N 0 0 0) 4 (4 * t + p)) (M 1 6) k)) ∧ (K2 = K ∧ (¬ ((0 ≤ f ∧ f < (fw_upd N 0 0 0) 0 2) ∧ (0 ≤ t ∧ t < (fw_upd N 0 0 0) 0 2) ∧ ¬ f = t ∧ (1 ≤ k ∧ k ≤ 20)) → N2 = (fw_upd N 0 0 0)) ∧ (((0 ≤ f ∧ f < (fw_upd N 0 0 0) 0 2) ∧ (0 ≤ t ∧ t < (fw_upd N 0 0 0) 0 2) ∧ ¬ f = t ∧ (1 ≤ k ∧ k ≤ 20)) → ((∀ k, ¬ k = 4 → ¬ k = 8 → ¬ k = 9 → N2 k = (fw_upd N 0 0 0) k) ∧ (∀ z, z < 4 * t ∨ 4 * t + 4 ≤ z → N2 4 z = (fw_upd N 0 0 0) 4 z)) ∧ ∃ tot, sn_R (M 3) (fun p => (fw_upd N 0 0 0) 4 (4 * f + p)) (fun p => (fw_upd N 0 0 0) 4 (4 * t + p)) (M 1 6) k (fun p => N2 4 (4 * t + p)) tot))) := by
  refine fw_SP_of pl_X6_sendSome (ls := [_, _, _, _]) rfl (Nat.le_of_ble_eq_true rfl) fun hA hM => ?_
  refine fw_aload_n dX6_sendSome_0 rfl rfl ?_
  refine fw_iconst dX6_sendSome_1 ⟨by decide, by decide⟩ ?_
  refine fw_puti 0 rfl dX6_sendSome_2 fp_6_106 ly1_0 (by decide) ⟨by decide, by decide⟩ rfl ?_
  exact pm_X6_sendSome M (fw_upd N 0 0 0) L K hR f t k
