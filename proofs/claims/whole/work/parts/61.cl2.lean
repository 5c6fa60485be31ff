abbrev cl_ah (N : fw_F) (x y : Int) : Prop := N (8 + 2 * x) 5 < N (8 + 2 * y) 5 ∨ (N (8 + 2 * x) 5 = N (8 + 2 * y) 5 ∧ N (8 + 2 * x) 1 < N (8 + 2 * y) 1)
/-- x put into an order of T ones -/
def cl_ins (N : fw_F) (x T : Int) (O O2 : Int → Int) : Prop := ∃ pl, 0 ≤ pl ∧ pl ≤ T ∧ (∀ j, 0 ≤ j → j < pl → O2 j = O j) ∧ O2 pl = x ∧ (∀ j, pl < j → j ≤ T → O2 j = O (j - 1)) ∧ (∀ j, pl ≤ j → j < T → cl_ah N x (O j)) ∧ (0 < pl → ¬ cl_ah N x (O (pl - 1)))

set_option maxRecDepth 20000 in
set_option maxHeartbeats 4000000 in
theorem lp_X1_putInOrder (x T : Int) (N : fw_F) (L : fw_G) (hx : 0 ≤ x ∧ x < 80) (hT : N 1 6 = T) (hT0 : 0 ≤ T ∧ T < 80) (hO : ∀ j, 0 ≤ j → j < T → 0 ≤ N 3 j ∧ N 3 j < 80) (hx1 : N (8 + 2 * x) 1 = x / 20) (hx2 : N (8 + 2 * x) 2 = x % 20) : ∀ (q : Nat) (pl : Int) (M : fw_F), pl < q → 0 ≤ pl → pl ≤ T → (∀ k, ¬ k = 3 → M k = N k) → (∀ j, 0 ≤ j → j < pl → M 3 j = N 3 j) → (∀ j, pl < j → j ≤ T → M 3 j = N 3 (j - 1)) → (∀ j, pl ≤ j → j < T → cl_ah N x (N 3 j)) → fw_C mX1_putInOrder 5 [some (fw_r 1), some (fw_r (8 + 2 * x)), some (fw_i pl)] [] M L (fun r M2 L2 => r = none ∧ L2 = L ∧ (∀ k, ¬ k = 1 → ¬ k = 3 → M2 k = N k) ∧ M2 1 6 = T + 1 ∧ (∀ j, ¬ j = 6 → M2 1 j = N 1 j) ∧ cl_ins N x T (N 3) (M2 3)) := by
  intro q
  induction q with
  | zero => intro pl M h0 h1; omega
  | succ q ih =>
    intro pl M h0 h1 h2 hk ha hb hc
    refine fw_iload_n dX1_putInOrder_5 rfl rfl ?_
    refine fw_if_le 43 dX1_putInOrder_6 (by decide) (fun h6 => ?_) (fun h6 => ?_)
    · skip
      have ex := hk (8 + 2 * x) (by omega)
      have e1 := hk 1 (by decide)
      refine fw_aload_n dX1_putInOrder_43 rfl rfl ?_
      refine fw_getr 1 3 rfl dX1_putInOrder_44 ff_1_17 ly0_1 ⟨by decide, by decide⟩ rfl rfl (by decide) ?_
      refine fw_iload_n dX1_putInOrder_47 rfl rfl ?_
      refine fw_aload_n dX1_putInOrder_48 rfl rfl ?_
      refine fw_pV mX0_slot [] dX1_putInOrder_49 mv_X0_slot lk_1_94 ⟨⟨by decide, by decide⟩, rfl, rfl, rfl, by decide, by decide⟩ (ly_ch (by omega) (by omega) (by omega)) ⟨by omega, by omega⟩ rfl rfl (Nat.le_of_ble_eq_true rfl) (sp_X0_slot _ _ _ (by omega) (by rw [ex, hx1]; omega) (by rw [ex, hx2]; omega)) ?_
      refine fw_iastore dX1_putInOrder_52 ly0_3 (by decide) ⟨by decide, by decide⟩ ⟨by omega, by omega⟩ ?_
      refine fw_aload_n dX1_putInOrder_53 rfl rfl ?_
      refine fw_dup dX1_putInOrder_54 rfl ?_
      refine fw_geti 6 rfl dX1_putInOrder_55 ff_1_34 ly0_1 ⟨by decide, by decide⟩ rfl ?_
      refine fw_iconst dX1_putInOrder_58 ⟨by decide, by decide⟩ ?_
      refine fw_iadd dX1_putInOrder_59 (by rw [fw_updne (by decide), e1, hT]; exact ⟨by omega, by omega⟩) ?_
      refine fw_puti 6 rfl dX1_putInOrder_60 fp_1_34 ly0_1 (by decide) ⟨by decide, by decide⟩ rfl ?_
      refine fw_vret dX1_putInOrder_63 ⟨rfl, rfl, rfl⟩ ?_
      rw [ex, hx1, hx2, show x / 20 * 20 + x % 20 = x by omega]
      refine ⟨rfl, rfl, fun k a b => ?_, ?_, fun j a => ?_, pl, h1, h2, fun j a b => ?_, ?_, fun j a b => ?_, hc, fun a => ?_⟩
      · rw [fw_updne a, fw_updne b]; exact hk k b
      · rw [fw_updeq, if_pos rfl, fw_updne (by decide), e1, hT]
      · rw [fw_updeq, if_neg a, fw_updne (by decide), e1]
      · rw [fw_updne (by decide), fw_updeq, if_neg (by omega)]; exact ha j a b
      · rw [fw_updne (by decide), fw_updeq, if_pos rfl]
      · rw [fw_updne (by decide), fw_updeq, if_neg (by omega)]; exact hb j a b
      · omega
    · skip
      have ho := hO (pl - 1) (by omega) (by omega)
      have e3 := ha (pl - 1) (by omega) (by omega)
      have ex := hk (8 + 2 * x) (by omega)
      have ey := hk (8 + 2 * N 3 (pl - 1)) (by omega)
      refine fw_aload_n dX1_putInOrder_9 rfl rfl ?_
      refine fw_aload_n dX1_putInOrder_10 rfl rfl ?_
      refine fw_iload_n dX1_putInOrder_11 rfl rfl ?_
      refine fw_iconst dX1_putInOrder_12 ⟨by decide, by decide⟩ ?_
      refine fw_isub dX1_putInOrder_13 ⟨by omega, by omega⟩ ?_
      refine fw_pV mX1_inOrder [_] dX1_putInOrder_14 mv_X1_inOrder lk_1_86 ⟨⟨by decide, by decide⟩, rfl, rfl, rfl, by decide, by decide⟩ ly0_1 ⟨by decide, by decide⟩ rfl rfl (Nat.le_of_ble_eq_true rfl) (sp_X1_inOrder _ _ _ (by omega) (by rw [e3]; omega)) ?_
      rw [e3]
      refine fw_pV mX0_isAheadOf [_] dX1_putInOrder_17 mv_X0_isAheadOf lk_1_90 ⟨⟨by decide, by decide⟩, rfl, rfl, rfl, by decide, by decide⟩ (ly_ch (by omega) (by omega) (by omega)) ⟨by omega, by omega⟩ rfl rfl (Nat.le_of_ble_eq_true rfl) (sp_X0_isAheadOf _ _ _ _ (by omega) (by omega)) ?_
      refine fw_bifeq 43 dX1_putInOrder_20 (by decide) (fun h20 => ?_) (fun h20 => ?_)
      · skip
        have ex := hk (8 + 2 * x) (by omega)
        have e1 := hk 1 (by decide)
        refine fw_aload_n dX1_putInOrder_43 rfl rfl ?_
        refine fw_getr 1 3 rfl dX1_putInOrder_44 ff_1_17 ly0_1 ⟨by decide, by decide⟩ rfl rfl (by decide) ?_
        refine fw_iload_n dX1_putInOrder_47 rfl rfl ?_
        refine fw_aload_n dX1_putInOrder_48 rfl rfl ?_
        refine fw_pV mX0_slot [] dX1_putInOrder_49 mv_X0_slot lk_1_94 ⟨⟨by decide, by decide⟩, rfl, rfl, rfl, by decide, by decide⟩ (ly_ch (by omega) (by omega) (by omega)) ⟨by omega, by omega⟩ rfl rfl (Nat.le_of_ble_eq_true rfl) (sp_X0_slot _ _ _ (by omega) (by rw [ex, hx1]; omega) (by rw [ex, hx2]; omega)) ?_
        refine fw_iastore dX1_putInOrder_52 ly0_3 (by decide) ⟨by decide, by decide⟩ ⟨by omega, by omega⟩ ?_
        refine fw_aload_n dX1_putInOrder_53 rfl rfl ?_
        refine fw_dup dX1_putInOrder_54 rfl ?_
        refine fw_geti 6 rfl dX1_putInOrder_55 ff_1_34 ly0_1 ⟨by decide, by decide⟩ rfl ?_
        refine fw_iconst dX1_putInOrder_58 ⟨by decide, by decide⟩ ?_
        refine fw_iadd dX1_putInOrder_59 (by rw [fw_updne (by decide), e1, hT]; exact ⟨by omega, by omega⟩) ?_
        refine fw_puti 6 rfl dX1_putInOrder_60 fp_1_34 ly0_1 (by decide) ⟨by decide, by decide⟩ rfl ?_
        refine fw_vret dX1_putInOrder_63 ⟨rfl, rfl, rfl⟩ ?_
        rw [ex, hx1, hx2, show x / 20 * 20 + x % 20 = x by omega]
        refine ⟨rfl, rfl, fun k a b => ?_, ?_, fun j a => ?_, pl, h1, h2, fun j a b => ?_, ?_, fun j a b => ?_, hc, fun a => ?_⟩
        · rw [fw_updne a, fw_updne b]; exact hk k b
        · rw [fw_updeq, if_pos rfl, fw_updne (by decide), e1, hT]
        · rw [fw_updeq, if_neg a, fw_updne (by decide), e1]
        · rw [fw_updne (by decide), fw_updeq, if_neg (by omega)]; exact ha j a b
        · rw [fw_updne (by decide), fw_updeq, if_pos rfl]
        · rw [fw_updne (by decide), fw_updeq, if_neg (by omega)]; exact hb j a b
        · rw [ex, ey] at h20; exact h20
      · skip
        refine fw_aload_n dX1_putInOrder_23 rfl rfl ?_
        refine fw_getr 1 3 rfl dX1_putInOrder_24 ff_1_17 ly0_1 ⟨by decide, by decide⟩ rfl rfl (by decide) ?_
        refine fw_iload_n dX1_putInOrder_27 rfl rfl ?_
        refine fw_aload_n dX1_putInOrder_28 rfl rfl ?_
        refine fw_getr 1 3 rfl dX1_putInOrder_29 ff_1_17 ly0_1 ⟨by decide, by decide⟩ rfl rfl (by decide) ?_
        refine fw_iload_n dX1_putInOrder_32 rfl rfl ?_
        refine fw_iconst dX1_putInOrder_33 ⟨by decide, by decide⟩ ?_
        refine fw_isub dX1_putInOrder_34 ⟨by omega, by omega⟩ ?_
        refine fw_iaload dX1_putInOrder_35 ly0_3 ⟨by decide, by decide⟩ ⟨by omega, by omega⟩ ?_
        refine fw_iastore dX1_putInOrder_36 ly0_3 (by decide) ⟨by decide, by decide⟩ ⟨by omega, by omega⟩ ?_
        refine fw_iinc (ls2 := [_, _, _]) dX1_putInOrder_37 rfl ⟨by omega, by omega⟩ (by decide) rfl ?_
        refine fw_goto 5 dX1_putInOrder_40 (by decide) ?_
        rw [ex, ey] at h20
        refine ih (pl - 1) _ (by omega) (by omega) (by omega) (fun k a => (fw_updne a).trans (hk k a)) (fun j a b => ?_) (fun j a b => ?_) (fun j a b => ?_)
        · rw [fw_updeq, if_neg (by omega)]; exact ha j a (by omega)
        · rw [fw_updeq]
          by_cases hj : j = pl
          · rw [if_pos hj, hj, e3]
          · rw [if_neg hj]; exact hb j (by omega) b
        · by_cases hj : j = pl - 1
          · rw [hj]; exact h20
          · exact hc j (by omega) b

set_option maxRecDepth 20000 in
set_option maxHeartbeats 4000000 in
theorem sp_X1_putInOrder (x T : Int) (N : fw_F) (L : fw_G) (hx : 0 ≤ x ∧ x < 80) (hT : N 1 6 = T) (hT0 : 0 ≤ T ∧ T < 80) (hO : ∀ j, 0 ≤ j → j < T → 0 ≤ N 3 j ∧ N 3 j < 80) (hx1 : N (8 + 2 * x) 1 = x / 20) (hx2 : N (8 + 2 * x) 2 = x % 20) : fw_SC mX1_putInOrder [fw_r 1, fw_r (8 + 2 * x)] N L (fun r M2 L2 => r = none ∧ L2 = L ∧ (∀ k, ¬ k = 1 → ¬ k = 3 → M2 k = N k) ∧ M2 1 6 = T + 1 ∧ (∀ j, ¬ j = 6 → M2 1 j = N 1 j) ∧ cl_ins N x T (N 3) (M2 3)) := by
  refine fw_SP_of pl_X1_putInOrder (ls := [_, _]) rfl (Nat.le_of_ble_eq_true rfl) fun hA hM => ?_
  refine fw_aload_n dX1_putInOrder_0 rfl rfl ?_
  refine fw_geti 6 rfl dX1_putInOrder_1 ff_1_34 ly0_1 ⟨by decide, by decide⟩ rfl ?_
  rw [hT]
  refine fw_istore_n (ls2 := [_, _, _]) dX1_putInOrder_4 rfl (by decide) rfl ?_
  exact lp_X1_putInOrder x T N L hx hT hT0 hO hx1 hx2 81 T N (by omega) (by omega) (by omega) (fun _ _ => rfl) (fun _ _ _ => rfl) (fun j a b => by omega) (fun j a b => by omega)

/-- the height of a new change: kn what is known, hg the height of the last one known of each -/
def ab_hh (kn hg : Int → Int) : Nat → Int
  | 0 => 1
  | p + 1 => if 0 < kn p then max (ab_hh kn hg p) (1 + hg p) else ab_hh kn hg p
theorem ab_hh_rng {kn hg : Int → Int} {B : Int} (hB : 0 ≤ B) (h : ∀ p, 0 ≤ p → p < 4 → 0 < kn p → 0 ≤ hg p ∧ hg p ≤ B) : ∀ n : Nat, n ≤ 4 → 1 ≤ ab_hh kn hg n ∧ ab_hh kn hg n ≤ B + 1 := by
  intro n
  induction n with
  | zero => intro _; exact ⟨Int.le_refl _, by show (1 : Int) ≤ _; omega⟩
  | succ n ih =>
    intro hn
    have := ih (by omega)
    simp only [ab_hh]
    split
    · rename_i q
      have := h n (by omega) (by omega) q
      omega
    · exact this

set_option maxRecDepth 20000 in
set_option maxHeartbeats 4000000 in
theorem lp_X1_append (post : fw_P) (m act su T d : Int) (N : fw_F) (L : fw_G) (hm : 0 ≤ m ∧ m < 4) (hd : N 1 7 = d) (hd0 : 0 ≤ d ∧ d < 30) (hf : 0 ≤ N 4 m ∧ N 4 m < 20) (hkn : ∀ p, 0 ≤ p → p < 4 → 0 ≤ N 5 ((d * 4 + m) * 4 + p) ∧ N 5 ((d * 4 + m) * 4 + p) ≤ 20 ∧ (p = m → N 5 ((d * 4 + m) * 4 + p) = N 4 m)) (hhg : ∀ p, 0 ≤ p → p < 4 → 0 < N 5 ((d * 4 + m) * 4 + p) → 0 ≤ N (8 + 2 * (p * 20 + (N 5 ((d * 4 + m) * 4 + p) - 1))) 5 ∧ N (8 + 2 * (p * 20 + (N 5 ((d * 4 + m) * 4 + p) - 1))) 5 ≤ 80) (hgo : ∀ M : fw_F, (∀ k, ¬ k = (8 + 2 * (m * 20 + N 4 m)) → ¬ k = (8 + 2 * (m * 20 + N 4 m)) + 1 → M k = N k) → (M (8 + 2 * (m * 20 + N 4 m)) 1 = m ∧ M (8 + 2 * (m * 20 + N 4 m)) 2 = N 4 m ∧ M (8 + 2 * (m * 20 + N 4 m)) 3 = act ∧ M (8 + 2 * (m * 20 + N 4 m)) 4 = su ∧ M (8 + 2 * (m * 20 + N 4 m)) 6 = d) → (∀ f, f < 1 ∨ 6 < f → M (8 + 2 * (m * 20 + N 4 m)) f = N (8 + 2 * (m * 20 + N 4 m)) f) → M (8 + 2 * (m * 20 + N 4 m)) 5 = ab_hh (fun p => N 5 ((d * 4 + m) * 4 + p)) (fun p => N (8 + 2 * (p * 20 + (N 5 ((d * 4 + m) * 4 + p) - 1))) 5) 4 → (∀ u, 0 ≤ u → u < 4 → M ((8 + 2 * (m * 20 + N 4 m)) + 1) u = N 5 ((d * 4 + m) * 4 + u)) → fw_C mX1_append 128 [some (fw_r 1), some (fw_i m), some (fw_i act), some (fw_i su), some (fw_r (8 + 2 * (m * 20 + N 4 m)))] [] M L post) : ∀ (q : Nat) (p : Int) (M : fw_F), 4 - p < q → 0 ≤ p → p ≤ 4 → (∀ k, ¬ k = (8 + 2 * (m * 20 + N 4 m)) → ¬ k = (8 + 2 * (m * 20 + N 4 m)) + 1 → M k = N k) → (M (8 + 2 * (m * 20 + N 4 m)) 1 = m ∧ M (8 + 2 * (m * 20 + N 4 m)) 2 = N 4 m ∧ M (8 + 2 * (m * 20 + N 4 m)) 3 = act ∧ M (8 + 2 * (m * 20 + N 4 m)) 4 = su ∧ M (8 + 2 * (m * 20 + N 4 m)) 6 = d) → (∀ f, f < 1 ∨ 6 < f → M (8 + 2 * (m * 20 + N 4 m)) f = N (8 + 2 * (m * 20 + N 4 m)) f) → M (8 + 2 * (m * 20 + N 4 m)) 5 = ab_hh (fun p => N 5 ((d * 4 + m) * 4 + p)) (fun p => N (8 + 2 * (p * 20 + (N 5 ((d * 4 + m) * 4 + p) - 1))) 5) p.toNat → (∀ u, 0 ≤ u → u < p → M ((8 + 2 * (m * 20 + N 4 m)) + 1) u = N 5 ((d * 4 + m) * 4 + u)) → fw_C mX1_append 60 [some (fw_r 1), some (fw_i m), some (fw_i act), some (fw_i su), some (fw_r (8 + 2 * (m * 20 + N 4 m))), some (fw_i p)] [] M L post := by
  intro q
  induction q with
  | zero => intro p M h0 h1 h2; omega
  | succ q ih =>
    intro p M h0 h1 h2 hk h3 h4 h5 h6
    have e1 := hk 1 (by omega) (by omega)
    have e5 := hk 5 (by omega) (by omega)
    have hr := ab_hh_rng (kn := (fun p => N 5 ((d * 4 + m) * 4 + p))) (hg := (fun p => N (8 + 2 * (p * 20 + (N 5 ((d * 4 + m) * 4 + p) - 1))) 5)) (B := 80) (by decide) hhg p.toNat (by omega)
    refine fw_iload dX1_append_60 rfl ?_
    refine fw_iconst dX1_append_62 ⟨by decide, by decide⟩ ?_
    refine fw_icmp_ge 128 dX1_append_63 (by decide) (fun h63 => ?_) (fun h63 => ?_)
    · skip
      refine fw_take 5 ?_
      rw [show p.toNat = 4 by omega] at h5
      exact hgo M hk h3 h4 h5 (fun u a b => h6 u a (by omega))
    · skip
      have hknp := hkn p h1 (by omega)
      have hs : ab_hh (fun p => N 5 ((d * 4 + m) * 4 + p)) (fun p => N (8 + 2 * (p * 20 + (N 5 ((d * 4 + m) * 4 + p) - 1))) 5) (p + 1).toNat = if 0 < N 5 ((d * 4 + m) * 4 + p) then max (ab_hh (fun p => N 5 ((d * 4 + m) * 4 + p)) (fun p => N (8 + 2 * (p * 20 + (N 5 ((d * 4 + m) * 4 + p) - 1))) 5) p.toNat) (1 + N (8 + 2 * (p * 20 + (N 5 ((d * 4 + m) * 4 + p) - 1))) 5) else ab_hh (fun p => N 5 ((d * 4 + m) * 4 + p)) (fun p => N (8 + 2 * (p * 20 + (N 5 ((d * 4 + m) * 4 + p) - 1))) 5) p.toNat := by
        rw [show (p + 1).toNat = p.toNat + 1 by omega]
        have hpp : ((p.toNat : Nat) : Int) = p := by omega
        simp only [ab_hh, hpp]
      refine fw_aload_n dX1_append_66 rfl rfl ?_
      refine fw_aload_n dX1_append_67 rfl rfl ?_
      refine fw_geti 7 rfl dX1_append_68 ff_1_38 ly0_1 ⟨by decide, by decide⟩ rfl ?_
      rw [e1, hd]
      refine fw_iload_n dX1_append_71 rfl rfl ?_
      refine fw_iload dX1_append_72 rfl ?_
      refine fw_pV mX1_knownOf [_, _, _] dX1_append_74 mv_X1_knownOf lk_1_51 ⟨⟨by decide, by decide⟩, rfl, rfl, rfl, by decide, by decide⟩ ly0_1 ⟨by decide, by decide⟩ rfl rfl (Nat.le_of_ble_eq_true rfl) (sp_X1_knownOf _ _ _ _ _ (by omega) (by omega) (by omega)) ?_
      rw [e5]
      refine fw_istore (ls2 := [_, _, _, _, _, _, _]) dX1_append_77 (by decide) rfl ?_
      refine fw_aload dX1_append_79 rfl ?_
      refine fw_getr 0 (_ + 1) rfl dX1_append_81 ff_1_70 (ly_ch (by omega) (by omega) (by omega)) ⟨by omega, by omega⟩ rfl (rc_ch (by omega) (by omega)) (by omega) ?_
      refine fw_iload dX1_append_84 rfl ?_
      refine fw_iload dX1_append_86 rfl ?_
      refine fw_iastore dX1_append_88 (ly_gr (by omega) (by omega) (by omega)) (by decide) ⟨by omega, by omega⟩ ⟨by omega, by omega⟩ ?_
      refine fw_iload dX1_append_89 rfl ?_
      refine fw_if_le 122 dX1_append_91 (by decide) (fun h91 => ?_) (fun h91 => ?_)
      · skip
        refine fw_iinc (ls2 := [_, _, _, _, _, _, _]) dX1_append_122 rfl ⟨by omega, by omega⟩ (by decide) rfl ?_
        refine fw_goto 60 dX1_append_125 (by decide) ?_
        refine fw_take 6 ?_
        refine ih (p + 1) _ (by omega) (by omega) (by omega) (fun k a b => ?_) ?_ (fun f a => ?_) ?_ (fun u a b => ?_)
        · rw [fw_updne b]; exact hk k a b
        · rw [fw_updne (by omega)]; exact h3
        · rw [fw_updne (by omega)]; exact h4 f a
        · rw [fw_updne (by omega), hs, if_neg (by omega)]; exact h5
        · rw [fw_updeq]
          by_cases hu : u = p
          · rw [if_pos hu, hu]
          · rw [if_neg hu]; exact h6 u a (by omega)
      · skip
        have hhp := hhg p h1 (by omega) (by omega)
        have hne : ¬ 8 + 2 * (p * 20 + (N 5 ((d * 4 + m) * 4 + p) - 1)) = (8 + 2 * (m * 20 + N 4 m)) := by
          by_cases hpm : p = m
          · have := hknp.2.2 hpm; omega
          · omega
        refine fw_aload dX1_append_94 rfl ?_
        refine fw_aload dX1_append_96 rfl ?_
        refine fw_geti 5 rfl dX1_append_98 ff_1_67 (ly_ch (by omega) (by omega) (by omega)) ⟨by omega, by omega⟩ rfl ?_
        refine fw_iconst dX1_append_101 ⟨by decide, by decide⟩ ?_
        refine fw_aload_n dX1_append_102 rfl rfl ?_
        refine fw_iload dX1_append_103 rfl ?_
        refine fw_iload dX1_append_105 rfl ?_
        refine fw_iconst dX1_append_107 ⟨by decide, by decide⟩ ?_
        refine fw_isub dX1_append_108 ⟨by omega, by omega⟩ ?_
        refine fw_pV mX1_changeOf [_, _] dX1_append_109 mv_X1_changeOf lk_1_54 ⟨⟨by decide, by decide⟩, rfl, rfl, rfl, by decide, by decide⟩ ly0_1 ⟨by decide, by decide⟩ rfl rfl (Nat.le_of_ble_eq_true rfl) (sp_X1_changeOf _ _ _ _ (by omega) (by omega)) ?_
        refine fw_geti 5 rfl dX1_append_112 ff_1_67 (ly_ch (by omega) (by omega) (by omega)) ⟨by omega, by omega⟩ rfl ?_
        rw [fw_updne (show ¬ 8 + 2 * (p * 20 + (N 5 ((d * 4 + m) * 4 + p) - 1)) = (8 + 2 * (m * 20 + N 4 m)) + 1 by omega), hk _ hne (by omega)]
        refine fw_iadd dX1_append_115 ⟨by omega, by omega⟩ ?_
        rw [fw_updne (show ¬ (8 + 2 * (m * 20 + N 4 m)) = (8 + 2 * (m * 20 + N 4 m)) + 1 by omega), h5]
        refine fw_max dX1_append_116 lk_1_73 lw_max ⟨by decide, Nat.le_of_ble_eq_true rfl, by decide, by decide⟩ ?_
        refine fw_puti 5 rfl dX1_append_119 fp_1_67 (ly_ch (by omega) (by omega) (by omega)) (by decide) ⟨by omega, by omega⟩ rfl ?_
        refine fw_iinc (ls2 := [_, _, _, _, _, _, _]) dX1_append_122 rfl ⟨by omega, by omega⟩ (by decide) rfl ?_
        refine fw_goto 60 dX1_append_125 (by decide) ?_
        refine fw_take 6 ?_
        refine ih (p + 1) _ (by omega) (by omega) (by omega) (fun k a b => ?_) ?_ (fun f a => ?_) ?_ (fun u a b => ?_)
        · rw [fw_updne a, fw_updne b]; exact hk k a b
        · rw [fw_updeq, fw_updeq, fw_updeq, fw_updeq, fw_updeq, if_neg (by decide), if_neg (by decide), if_neg (by decide), if_neg (by decide), if_neg (by decide), fw_updne (by omega)]; exact h3
        · rw [fw_updeq, if_neg (by omega), fw_updne (by omega)]; exact h4 f a
        · rw [fw_updeq, if_pos rfl, hs, if_pos (by omega)]
        · rw [fw_updne (by omega), fw_updeq]
          by_cases hu : u = p
          · rw [if_pos hu, hu]
          · rw [if_neg hu]; exact h6 u a (by omega)
