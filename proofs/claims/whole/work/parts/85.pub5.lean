/-! sum -/
theorem i64_m (a b : Int) : Int64.ofInt a * Int64.ofInt b = Int64.ofInt (a * b) := (Int64.ofInt_mul a b).symm
theorem i64_a (a b : Int) : Int64.ofInt a + Int64.ofInt b = Int64.ofInt (a + b) := (Int64.ofInt_add a b).symm
theorem i64_31 : (31 : Int64) = Int64.ofInt 31 := rfl
theorem i64_7 : (7 : Int64) = Int64.ofInt 7 := rfl
theorem i64_1 : (1 : Int64) = Int64.ofInt 1 := rfl
theorem i64_rem {V : Int} (h0 : 0 ≤ V) (h1 : V < 2147483648) : (Int64.ofInt V - Int64.ofInt V / 1000003 * 1000003).toInt32.toInt = V % 1000003 := by
  have e1 : (1000003 : Int64) = Int64.ofInt 1000003 := rfl
  have e2 : Int64.ofInt V / Int64.ofInt 1000003 = Int64.ofInt (V / 1000003) := by
    apply Int64.toInt_inj.mp
    rw [Int64.toInt_div_of_ne_right, Int64.toInt_ofInt_of_le (by omega) (by omega), Int64.toInt_ofInt_of_le (by omega) (by omega), Int64.toInt_ofInt_of_le (by omega) (by omega), Int.tdiv_eq_ediv_of_nonneg h0]
    decide
  rw [e1, e2, i64_m, ← Int64.ofInt_sub, Int64.toInt32_ofInt, Int32.toInt_ofInt_of_le (by omega) (by omega)]
  omega
noncomputable def rl_w (N : fw_F) (K : fw_G) (S : ab_S) (t : Int) : Int := 31 * S.1 3 t + 7 * ab_LB S (rl_e N) t + rl_bt N K S t
noncomputable def rl_st (N : fw_F) (K : fw_G) (S : ab_S) (t : Int) : Int := if S.1 1 t = 0 then 0 else 1 + t * rl_w N K S t
def an_sum (n dy m d v : Int) : Int := if ¬ ((0 ≤ m ∧ m < n) ∧ (0 ≤ d ∧ d ≤ dy)) then -1 else v
theorem rl_bt_rng {M N : fw_F} {L K : fw_G} (hR : Rel M L N K) (m d : Int) {t : Int} (ht : 0 ≤ t ∧ t < 12) : (∀ n : Nat, (n : Int) ≤ (((rl_S M N m d).2 t).length : Int) → 0 * (n : Int) ≤ ab_sm (fun r => ab_sm (fun i => ab_by (K 3 (ab_rwf (rl_S M N m d) t r)) (md_G N (ab_rwf (rl_S M N m d) t r) 3) i) (md_G N (ab_rwf (rl_S M N m d) t r) 3).toNat) n ∧ ab_sm (fun r => ab_sm (fun i => ab_by (K 3 (ab_rwf (rl_S M N m d) t r)) (md_G N (ab_rwf (rl_S M N m d) t r) 3) i) (md_G N (ab_rwf (rl_S M N m d) t r) 3).toNat) n ≤ 2040 * (n : Int)) ∧ 0 ≤ rl_bt N K (rl_S M N m d) t ∧ rl_bt N K (rl_S M N m d) t ≤ 8160 := by
  obtain ⟨h4, hr⟩ := rl_rows hR m d ht
  have key : ∀ n : Nat, (n : Int) ≤ (((rl_S M N m d).2 t).length : Int) → 0 * (n : Int) ≤ ab_sm (fun r => ab_sm (fun i => ab_by (K 3 (ab_rwf (rl_S M N m d) t r)) (md_G N (ab_rwf (rl_S M N m d) t r) 3) i) (md_G N (ab_rwf (rl_S M N m d) t r) 3).toNat) n ∧ ab_sm (fun r => ab_sm (fun i => ab_by (K 3 (ab_rwf (rl_S M N m d) t r)) (md_G N (ab_rwf (rl_S M N m d) t r) 3) i) (md_G N (ab_rwf (rl_S M N m d) t r) 3).toNat) n ≤ 2040 * (n : Int) := by
    intro n hn
    refine ab_sm_rng (a := 0) (b := 2040) n (fun r a b => ?_)
    obtain ⟨-, -, -, w5⟩ := hr r a (by omega)
    have h2 := ab_sm_rng (f := fun i => ab_by (K 3 (ab_rwf (rl_S M N m d) t r)) (md_G N (ab_rwf (rl_S M N m d) t r) 3) i) (a := 0) (b := 255) (md_G N (ab_rwf (rl_S M N m d) t r) 3).toNat (fun j a b => ab_by_rng _ ⟨a, by omega⟩ w5.2)
    omega
  refine ⟨key, ?_⟩
  have := key ((rl_S M N m d).2 t).length (Int.le_refl _)
  unfold rl_bt
  omega
theorem rl_w_rng {M N : fw_F} {L K : fw_G} (hR : Rel M L N K) (m d : Int) {t : Int} (ht : 0 ≤ t ∧ t < 12) (hl : 0 ≤ ab_LB (rl_S M N m d) (rl_e N) t ∧ ab_LB (rl_S M N m d) (rl_e N) t ≤ 21) : (0 ≤ rl_w N K (rl_S M N m d) t ∧ rl_w N K (rl_S M N m d) t ≤ 8648) ∧ 0 ≤ t * rl_w N K (rl_S M N m d) t ∧ t * rl_w N K (rl_S M N m d) t ≤ 95128 := by
  have h1 := (rl_bt_rng hR m d ht).2
  have h2 := (rl_ti hR m d).2.2.1.1.1 t ht.1 ht.2
  have h3 : 0 ≤ rl_w N K (rl_S M N m d) t ∧ rl_w N K (rl_S M N m d) t ≤ 8648 := by unfold rl_w; omega
  refine ⟨h3, Int.mul_nonneg ht.1 h3.1, ?_⟩
  have := Int.mul_le_mul (show t ≤ 11 by omega) h3.2 h3.1 (by decide)
  omega
theorem rl_st_rng {M N : fw_F} {L K : fw_G} (hR : Rel M L N K) (m d : Int) (hl : ∀ t, 0 ≤ t → t < 12 → ¬ (rl_S M N m d).1 1 t = 0 → 0 ≤ ab_LB (rl_S M N m d) (rl_e N) t ∧ ab_LB (rl_S M N m d) (rl_e N) t ≤ 21) : ∀ n : Nat, n ≤ 12 → 0 * (n : Int) ≤ ab_sm (rl_st N K (rl_S M N m d)) n ∧ ab_sm (rl_st N K (rl_S M N m d)) n ≤ 95129 * (n : Int) := by
  intro n hn
  refine ab_sm_rng n (fun i a b => ?_)
  unfold rl_st
  split
  · omega
  · rename_i q
    have := (rl_w_rng hR m d (t := i) ⟨a, by omega⟩ (hl i a (by omega) q)).2
    omega

set_option maxRecDepth 20000 in
set_option maxHeartbeats 4000000 in
theorem lp_X5_sum (M N M1 : fw_F) (L K : fw_G) (hR : Rel M L N K) (m d : Int) (hm : 0 ≤ m ∧ m < N 0 2) (hd : 0 ≤ d ∧ d ≤ N 0 4) (g1 : ∀ k, k < 169 ∨ 177 < k → M1 k = M k) (g2 : cl_V M1 (rl_S M N m d) (rl_e N)) : ∀ (q : Nat) (c i : Int), 12 - i < q → 0 ≤ i → i ≤ 12 → c = ab_sm (rl_st N K (rl_S M N m d)) i.toNat % 1000003 → fw_C mX5_sum 36 [some (fw_r 0), some (fw_i m), some (fw_i d), some (fw_i c), some (fw_i i)] [] M1 L (fun r M2 L2 => r = some (fw_i (an_sum (N 0 2) (N 0 4) m d (ab_sm (rl_st N K (rl_S M N m d)) 12 % 1000003))) ∧ Rel M2 L2 N K) := by
  intro q
  induction q with
  | zero => intro c i h0 h1 h2; omega
  | succ q ih =>
    intro c i h0 h1 h2 h3
    have hl := fun t a b q => (by have h9 := g2.2.1 t a b q; rw [h9.1] at h9; exact h9.2 : 0 ≤ ab_LB (rl_S M N m d) (rl_e N) t ∧ ab_LB (rl_S M N m d) (rl_e N) t ≤ 21)
    have hr := rl_st_rng hR m d hl i.toNat (by omega)
    refine fw_iload dX5_sum_36 rfl ?_
    refine fw_bipush dX5_sum_38 ⟨by decide, by decide⟩ (by decide) ?_
    refine fw_icmp_ge 113 dX5_sum_40 (by decide) (fun h40 => ?_) (fun h40 => ?_)
    · skip
      refine fw_iload_n dX5_sum_113 rfl rfl ?_
      refine fw_iret dX5_sum_114 ⟨rfl, rfl, rfl⟩ ?_
      refine ⟨?_, rl_cl hR (fun k a b => ⟨g1 k a, rfl⟩)⟩
      rw [h3, show i.toNat = 12 by omega]
      congr 2; unfold an_sum; rw [if_neg (by omega)]
    · skip
      obtain ⟨e0, e1, e2, e3, e4, e5, e6, e7⟩ := g2.1 i (by omega) (by omega)
      have et := ti_there (rl_ti hR m d) (t := i) (by omega)
      have hs := ab_sm_s (rl_st N K (rl_S M N m d)) h1
      refine fw_aload_n dX5_sum_43 rfl rfl ?_
      refine fw_getr 1 168 rfl dX5_sum_44 ff_5_21 ly0_0 ⟨by decide, by decide⟩ rfl rfl (by decide) ?_
      refine fw_iload dX5_sum_47 rfl ?_
      refine fw_pV mX4_isThere [_] dX5_sum_49 mv_X4_isThere lk_5_107 ⟨⟨by decide, by decide⟩, rfl, rfl, rfl, by decide, by decide⟩ ly0_168 ⟨by decide, by decide⟩ rfl rfl (Nat.le_of_ble_eq_true rfl) (sp_X4_isThere _ _ _ (by omega) (by rw [e1]; exact et.1)) ?_
      refine fw_if_eq 107 dX5_sum_52 (by decide) (fun h52 => ?_) (fun h52 => ?_)
      · skip
        refine fw_iinc (ls2 := [_, _, _, _, _]) dX5_sum_107 rfl ⟨by omega, by omega⟩ (by decide) rfl ?_
        refine fw_goto 36 dX5_sum_110 (by decide) ?_
        exact ih _ (i + 1) (by omega) (by omega) (by omega) (by rw [hs]; rw [show rl_st N K (rl_S M N m d) i = 0 from if_pos (by omega)]; omega)
      · skip
        have hth : ¬ (rl_S M N m d).1 1 i = 0 := by omega
        have el := g2.2.1 i (by omega) (by omega) hth
        have hcb := (rl_cbc hR (t := i) (by omega) g1 g2).2.1
        have hrw := (rl_crw hR (t := i) (by omega) g1 g2).1
        have hwr := rl_w_rng hR m d (t := i) (by omega) (hl i (by omega) (by omega) hth)
        have hf := (rl_ti hR m d).2.2.1.1.1 i (by omega) (by omega)
        have hbr := (rl_bt_rng hR m d (t := i) (by omega)).2
        refine fw_bipush dX5_sum_55 ⟨by decide, by decide⟩ (by decide) ?_
        refine fw_aload_n dX5_sum_57 rfl rfl ?_
        refine fw_getr 1 168 rfl dX5_sum_58 ff_5_21 ly0_0 ⟨by decide, by decide⟩ rfl rfl (by decide) ?_
        refine fw_getr 4 172 rfl dX5_sum_61 ff_5_177 ly0_168 ⟨by decide, by decide⟩ rfl rfl (by decide) ?_
        refine fw_iload dX5_sum_64 rfl ?_
        refine fw_iaload dX5_sum_66 ly0_172 ⟨by decide, by decide⟩ ⟨by omega, by omega⟩ ?_
        refine fw_imul dX5_sum_67 ⟨by omega, by omega⟩ ?_
        refine fw_bipush dX5_sum_68 ⟨by decide, by decide⟩ (by decide) ?_
        refine fw_aload_n dX5_sum_70 rfl rfl ?_
        refine fw_getr 1 168 rfl dX5_sum_71 ff_5_21 ly0_0 ⟨by decide, by decide⟩ rfl rfl (by decide) ?_
        refine fw_getr 6 174 rfl dX5_sum_74 ff_5_179 ly0_168 ⟨by decide, by decide⟩ rfl rfl (by decide) ?_
        refine fw_iload dX5_sum_77 rfl ?_
        refine fw_iaload dX5_sum_79 ly0_174 ⟨by decide, by decide⟩ ⟨by omega, by omega⟩ ?_
        refine fw_imul dX5_sum_80 ⟨by omega, by omega⟩ ?_
        refine fw_iadd dX5_sum_81 ⟨by omega, by omega⟩ ?_
        refine fw_aload_n dX5_sum_82 rfl rfl ?_
        refine fw_getr 1 168 rfl dX5_sum_83 ff_5_21 ly0_0 ⟨by decide, by decide⟩ rfl rfl (by decide) ?_
        refine fw_iload dX5_sum_86 rfl ?_
        refine fw_pV mX4_byteTotal [_] dX5_sum_88 mv_X4_byteTotal lk_5_210 ⟨⟨by decide, by decide⟩, rfl, rfl, rfl, by decide, by decide⟩ ly0_168 ⟨by decide, by decide⟩ rfl rfl (Nat.le_of_ble_eq_true rfl) (sp_X4_byteTotal i M1 L hrw) ?_
        rw [hcb]
        refine fw_iadd dX5_sum_91 ⟨by omega, by omega⟩ ?_
        rw [e3, el.1, show 31 * (rl_S M N m d).1 3 i + 7 * ab_LB (rl_S M N m d) (rl_e N) i + rl_bt N K (rl_S M N m d) i = rl_w N K (rl_S M N m d) i from rfl]
        refine fw_istore (ls2 := [_, _, _, _, _, _]) dX5_sum_92 (by decide) rfl ?_
        refine fw_iload_n dX5_sum_94 rfl rfl ?_
        refine fw_iconst dX5_sum_95 ⟨by decide, by decide⟩ ?_
        refine fw_iadd dX5_sum_96 ⟨by omega, by omega⟩ ?_
        refine fw_iload dX5_sum_97 rfl ?_
        refine fw_iload dX5_sum_99 rfl ?_
        refine fw_imul dX5_sum_101 ⟨by omega, by omega⟩ ?_
        refine fw_iadd dX5_sum_102 ⟨by omega, by omega⟩ ?_
        refine fw_ldc (v := 1000003) dX5_sum_103 ck_5_213 rfl ⟨by decide, by decide⟩ ?_
        refine fw_irem dX5_sum_105 (by omega) (by omega) ?_
        refine fw_istore_n (ls2 := [_, _, _, _, _, _]) dX5_sum_106 rfl (by decide) rfl ?_
        refine fw_iinc (ls2 := [_, _, _, _, _, _]) dX5_sum_107 rfl ⟨by omega, by omega⟩ (by decide) rfl ?_
        refine fw_goto 36 dX5_sum_110 (by decide) ?_
        refine fw_take 5 ?_
        exact ih _ (i + 1) (by omega) (by omega) (by omega) (by rw [hs]; rw [show rl_st N K (rl_S M N m d) i = 1 + i * rl_w N K (rl_S M N m d) i from if_neg hth]; omega)

set_option maxRecDepth 20000 in
set_option maxHeartbeats 4000000 in
theorem sp_X5_sum (M N : fw_F) (L K : fw_G) (hR : Rel M L N K) (m d : Int) : fw_SC mX5_sum [fw_r 0, fw_i m, fw_i d] M L (fun r M2 L2 => r = some (fw_i (an_sum (N 0 2) (N 0 4) m d (ab_sm (rl_st N K (rl_S M N m d)) 12 % 1000003))) ∧ Rel M2 L2 N K) := by
  refine fw_SP_of pl_X5_sum (ls := [_, _, _]) rfl (Nat.le_of_ble_eq_true rfl) fun hA hM => ?_
  obtain ⟨ha1, ha2, ha3, ha4, ha5, ha6⟩ := hR.1
  have hn1 := hR.2.1.1.1.1
  have hn2 := hR.2.1.1.1.2.1
  refine fw_aload_n dX5_sum_0 rfl rfl ?_
  refine fw_iload_n dX5_sum_1 rfl rfl ?_
  refine fw_pV mX5_isMachine [_] dX5_sum_2 mv_X5_isMachine lk_5_62 ⟨⟨by decide, by decide⟩, rfl, rfl, rfl, by decide, by decide⟩ ly0_0 ⟨by decide, by decide⟩ rfl rfl (Nat.le_of_ble_eq_true rfl) (sp_X5_isMachine _ _ _) ?_
  refine fw_bifeq 16 dX5_sum_5 (by decide) (fun h5 => ?_) (fun h5 => ?_)
  · skip
    refine fw_iconst dX5_sum_16 ⟨by decide, by decide⟩ ?_
    exact fw_iret dX5_sum_17 ⟨rfl, rfl, rfl⟩ (⟨(by congr 2; unfold an_sum; (repeat' split) <;> omega), hR⟩)
  · skip
    refine fw_aload_n dX5_sum_8 rfl rfl ?_
    refine fw_iload_n dX5_sum_9 rfl rfl ?_
    refine fw_pV mX5_isDay [_] dX5_sum_10 mv_X5_isDay lk_5_165 ⟨⟨by decide, by decide⟩, rfl, rfl, rfl, by decide, by decide⟩ ly0_0 ⟨by decide, by decide⟩ rfl rfl (Nat.le_of_ble_eq_true rfl) (sp_X5_isDay _ _ _) ?_
    refine fw_bifne 18 dX5_sum_13 (by decide) (fun h13 => ?_) (fun h13 => ?_)
    · skip
      refine fw_aload_n dX5_sum_18 rfl rfl ?_
      refine fw_getr 1 168 rfl dX5_sum_19 ff_5_21 ly0_0 ⟨by decide, by decide⟩ rfl rfl (by decide) ?_
      refine fw_iload_n dX5_sum_22 rfl rfl ?_
      refine fw_iload_n dX5_sum_23 rfl rfl ?_
      refine fw_aload_n dX5_sum_24 rfl rfl ?_
      refine fw_geti 8 rfl dX5_sum_25 ff_5_59 ly0_0 ⟨by decide, by decide⟩ rfl ?_
      rw [ha2]
      refine fw_cV mX4_grow [_, _, _] dX5_sum_28 mv_X4_grow lk_5_168 ⟨⟨by decide, by decide⟩, rfl, rfl, rfl, by decide, by decide⟩ ly0_168 ⟨by decide, by decide⟩ rfl rfl (Nat.le_of_ble_eq_true rfl) (rl_grow hR (by omega) (by omega)) (fun r M1 L1 hp hM1 => ?_)
      obtain ⟨rfl, rfl, g1, g2⟩ := hp
      refine fw_iconst dX5_sum_31 ⟨by decide, by decide⟩ ?_
      refine fw_istore_n (ls2 := [_, _, _, _]) dX5_sum_32 rfl (by decide) rfl ?_
      refine fw_iconst dX5_sum_33 ⟨by decide, by decide⟩ ?_
      refine fw_istore (ls2 := [_, _, _, _, _]) dX5_sum_34 (by decide) rfl ?_
      exact lp_X5_sum M N M1 L1 K hR m d (by omega) (by omega) g1 g2 13 0 0 (by decide) (by decide) (by decide) rfl
    · skip
      refine fw_iconst dX5_sum_16 ⟨by decide, by decide⟩ ?_
      exact fw_iret dX5_sum_17 ⟨rfl, rfl, rfl⟩ (⟨(by congr 2; unfold an_sum; (repeat' split) <;> omega), hR⟩)

set_option maxRecDepth 20000 in
set_option maxHeartbeats 4000000 in
theorem l3_X6_sum (M N N1 : fw_F) (L K : fw_G) (hR : Rel M L N K) (m d : Int) (hm : 0 ≤ m ∧ m < N 0 2) (hd : 0 ≤ d ∧ d ≤ N 0 4) (g1 : ∀ k, k < 7 ∨ 19 < k → N1 k = N k) (g2 : md_V N1 (rl_S M N m d) (rl_e N)) (t k : Int) (v : Int64) (ht : 0 ≤ t ∧ t < 12) (hk : 0 ≤ k ∧ k < (((rl_S M N m d).2 t).length : Int)) (Q : fw_P) (a0 : Int) (hgo : fw_D mX6_sum 152 [some (fw_r 0), some (fw_i m), some (fw_i d), some (fw_l v), none, some (fw_i t), some (fw_l (Int64.ofInt (a0 + ab_sm (fun i => ab_by (K 3 (ab_rwf (rl_S M N m d) t k)) (md_G N (ab_rwf (rl_S M N m d) t k) 3) i) (md_G N (ab_rwf (rl_S M N m d) t k) 3).toNat))), none, some (fw_i k)] [] N1 K Q) : ∀ (q : Nat) (j a : Int), md_G N (ab_rwf (rl_S M N m d) t k) 3 - j < q → 0 ≤ j → j ≤ md_G N (ab_rwf (rl_S M N m d) t k) 3 → a = a0 + ab_sm (fun i => ab_by (K 3 (ab_rwf (rl_S M N m d) t k)) (md_G N (ab_rwf (rl_S M N m d) t k) 3) i) j.toNat → fw_D mX6_sum 111 [some (fw_r 0), some (fw_i m), some (fw_i d), some (fw_l v), none, some (fw_i t), some (fw_l (Int64.ofInt a)), none, some (fw_i k), some (fw_i (ab_rwf (rl_S M N m d) t k)), some (fw_i j)] [] N1 K Q := by
  intro q
  induction q with
  | zero => intro j a h0 h1 h2; omega
  | succ q ih =>
    intro j a h0 h1 h2 h3
    obtain ⟨r1, r2, r3⟩ := rl_mrw hR ht g1 g2
    obtain ⟨b1, b2, b4⟩ := r3 k hk.1 hk.2
    have b5 := ((rl_rows hR m d ht).2 k hk.1 hk.2).2.2.2
    refine fw_iload dX6_sum_111 rfl ?_
    refine fw_aload_n dX6_sum_113 rfl rfl ?_
    refine fw_iload dX6_sum_114 rfl ?_
    refine fw_pV mX6_sizeOf [_] dX6_sum_116 mv_X6_sizeOf lk_6_230 ⟨⟨by decide, by decide⟩, rfl, rfl, rfl, by decide, by decide⟩ ly1_0 ⟨by decide, by decide⟩ rfl rfl (Nat.le_of_ble_eq_true rfl) (sp_X6_sizeOf _ _ _ (by omega)) ?_
    rw [b2]
    refine fw_icmp_ge 152 dX6_sum_119 (by decide) (fun h119 => ?_) (fun h119 => ?_)
    · skip
      refine fw_take 9 ?_
      rw [h3, show j.toNat = (md_G N (ab_rwf (rl_S M N m d) t k) 3).toNat by omega]
      exact hgo
    · skip
      have hs := ab_sm_s (fun i => ab_by (K 3 (ab_rwf (rl_S M N m d) t k)) (md_G N (ab_rwf (rl_S M N m d) t k) 3) i) h1
      refine fw_lload dX6_sum_122 rfl ?_
      refine fw_aload_n dX6_sum_124 rfl rfl ?_
      refine fw_getr 7 3 rfl dX6_sum_125 ff_6_20 ly1_0 ⟨by decide, by decide⟩ rfl rfl (by decide) ?_
      refine fw_iload dX6_sum_128 rfl ?_
      refine fw_laload dX6_sum_130 ly1_3 ⟨by decide, by decide⟩ ⟨by omega, by omega⟩ ?_
      refine fw_aload_n dX6_sum_131 rfl rfl ?_
      refine fw_iload dX6_sum_132 rfl ?_
      refine fw_pV mX6_sizeOf [_] dX6_sum_134 mv_X6_sizeOf lk_6_230 ⟨⟨by decide, by decide⟩, rfl, rfl, rfl, by decide, by decide⟩ ly1_0 ⟨by decide, by decide⟩ rfl rfl (Nat.le_of_ble_eq_true rfl) (sp_X6_sizeOf _ _ _ (by omega)) ?_
      rw [b2]
      refine fw_iload dX6_sum_137 rfl ?_
      refine fw_pS mX6_byteOf [_, _, _] dX6_sum_139 mv_X6_byteOf lk_6_194 ⟨⟨by decide, by decide⟩, rfl, rfl, rfl, by decide, by decide⟩ rfl rfl (Nat.le_of_ble_eq_true rfl) (sp_X6_byteOf _ _ _ _ _ (by omega) (by omega)) ?_
      refine fw_i2l dX6_sum_142 ?_
      refine fw_ladd dX6_sum_143 ?_
      rw [i64_a]
      refine fw_lstore (ls2 := [_, _, _, _, _, _, _, _, _, _, _]) dX6_sum_144 (by decide) rfl ?_
      refine fw_iinc (ls2 := [_, _, _, _, _, _, _, _, _, _, _]) dX6_sum_146 rfl ⟨by omega, by omega⟩ (by decide) rfl ?_
      refine fw_goto 111 dX6_sum_149 (by decide) ?_
      exact ih (j + 1) _ (by omega) (by omega) (by omega) (by rw [hs, h3]; omega)

set_option maxRecDepth 20000 in
set_option maxHeartbeats 4000000 in
theorem l2_X6_sum (M N N1 : fw_F) (L K : fw_G) (hR : Rel M L N K) (m d : Int) (hm : 0 ≤ m ∧ m < N 0 2) (hd : 0 ≤ d ∧ d ≤ N 0 4) (g1 : ∀ k, k < 7 ∨ 19 < k → N1 k = N k) (g2 : md_V N1 (rl_S M N m d) (rl_e N)) (t : Int) (v : Int64) (ht : 0 ≤ t ∧ t < 12) (Q : fw_P) (a0 : Int) (hgo : fw_D mX6_sum 158 [some (fw_r 0), some (fw_i m), some (fw_i d), some (fw_l v), none, some (fw_i t), some (fw_l (Int64.ofInt (a0 + rl_bt N K (rl_S M N m d) t))), none] [] N1 K Q) : ∀ (q : Nat) (k a : Int), (((rl_S M N m d).2 t).length : Int) - k < q → 0 ≤ k → k ≤ (((rl_S M N m d).2 t).length : Int) → a = a0 + ab_sm (fun r => ab_sm (fun i => ab_by (K 3 (ab_rwf (rl_S M N m d) t r)) (md_G N (ab_rwf (rl_S M N m d) t r) 3) i) (md_G N (ab_rwf (rl_S M N m d) t r) 3).toNat) k.toNat → fw_D mX6_sum 81 [some (fw_r 0), some (fw_i m), some (fw_i d), some (fw_l v), none, some (fw_i t), some (fw_l (Int64.ofInt a)), none, some (fw_i k)] [] N1 K Q := by
  intro q
  induction q with
  | zero => intro k a h0 h1 h2; omega
  | succ q ih =>
    intro k a h0 h1 h2 h3
    obtain ⟨r1, r2, r3⟩ := rl_mrw hR ht g1 g2
    have r4 := (rl_rows hR m d ht).1
    refine fw_iload dX6_sum_81 rfl ?_
    refine fw_aload_n dX6_sum_83 rfl rfl ?_
    refine fw_getr 21 17 rfl dX6_sum_84 ff_6_64 ly1_0 ⟨by decide, by decide⟩ rfl rfl (by decide) ?_
    refine fw_iload dX6_sum_87 rfl ?_
    refine fw_iaload dX6_sum_89 ly1_17 ⟨by decide, by decide⟩ ⟨by omega, by omega⟩ ?_
    rw [r2]
    refine fw_icmp_ge 158 dX6_sum_90 (by decide) (fun h90 => ?_) (fun h90 => ?_)
    · skip
      refine fw_take 8 ?_
      rw [h3, show k.toNat = ((rl_S M N m d).2 t).length by omega]
      exact hgo
    · skip
      obtain ⟨b1, b2, b4⟩ := r3 k h1 (by omega)
      have b5 := ((rl_rows hR m d ht).2 k h1 (by omega)).2.2.2
      have hs := ab_sm_s (fun r => ab_sm (fun i => ab_by (K 3 (ab_rwf (rl_S M N m d) t r)) (md_G N (ab_rwf (rl_S M N m d) t r) 3) i) (md_G N (ab_rwf (rl_S M N m d) t r) 3).toNat) h1
      refine fw_aload_n dX6_sum_93 rfl rfl ?_
      refine fw_getr 22 18 rfl dX6_sum_94 ff_6_67 ly1_0 ⟨by decide, by decide⟩ rfl rfl (by decide) ?_
      refine fw_bipush dX6_sum_97 ⟨by decide, by decide⟩ (by decide) ?_
      refine fw_iload dX6_sum_99 rfl ?_
      refine fw_imul dX6_sum_101 ⟨by omega, by omega⟩ ?_
      refine fw_iload dX6_sum_102 rfl ?_
      refine fw_iadd dX6_sum_104 ⟨by omega, by omega⟩ ?_
      refine fw_iaload dX6_sum_105 ly1_18 ⟨by decide, by decide⟩ ⟨by omega, by omega⟩ ?_
      rw [b1]
      refine fw_istore (ls2 := [_, _, _, _, _, _, _, _, _, _]) dX6_sum_106 (by decide) rfl ?_
      refine fw_iconst dX6_sum_108 ⟨by decide, by decide⟩ ?_
      refine fw_istore (ls2 := [_, _, _, _, _, _, _, _, _, _, _]) dX6_sum_109 (by decide) rfl ?_
      refine l3_X6_sum M N N1 L K hR m d hm hd g1 g2 t k v ht ⟨h1, by omega⟩ Q a ?_ 9 0 a (by omega) (by decide) (by omega) (by simp [ab_sm])
      refine fw_iinc (ls2 := [_, _, _, _, _, _, _, _, _]) dX6_sum_152 rfl ⟨by omega, by omega⟩ (by decide) rfl ?_
      refine fw_goto 81 dX6_sum_155 (by decide) ?_
      exact ih (k + 1) _ (by omega) (by omega) (by omega) (by rw [hs, h3]; omega)

set_option maxRecDepth 20000 in
set_option maxHeartbeats 4000000 in
theorem lp_X6_sum (M N N1 : fw_F) (L K : fw_G) (hR : Rel M L N K) (m d : Int) (hm : 0 ≤ m ∧ m < N 0 2) (hd : 0 ≤ d ∧ d ≤ N 0 4) (g1 : ∀ k, k < 7 ∨ 19 < k → N1 k = N k) (g2 : md_V N1 (rl_S M N m d) (rl_e N)) : ∀ (q : Nat) (v : Int64) (i : Int), 12 - i < q → 0 ≤ i → i ≤ 12 → v = Int64.ofInt (ab_sm (rl_st N K (rl_S M N m d)) i.toNat) → fw_D mX6_sum 34 [some (fw_r 0), some (fw_i m), some (fw_i d), some (fw_l v), none, some (fw_i i)] [] N1 K (fun r N2 K2 => r = some (fw_i (an_sum (N 0 2) (N 0 4) m d (ab_sm (rl_st N K (rl_S M N m d)) 12 % 1000003))) ∧ rl_mq N K N2 K2) := by
  intro q
  induction q with
  | zero => intro v i h0 h1 h2; omega
  | succ q ih =>
    intro v i h0 h1 h2 hv
    have hl := fun t a b q => (by have h9 := g2.2.1 t a b q; rw [h9.1] at h9; exact h9.2 : 0 ≤ ab_LB (rl_S M N m d) (rl_e N) t ∧ ab_LB (rl_S M N m d) (rl_e N) t ≤ 21)
    have hr := rl_st_rng hR m d hl i.toNat (by omega)
    refine fw_iload dX6_sum_34 rfl ?_
    refine fw_bipush dX6_sum_36 ⟨by decide, by decide⟩ (by decide) ?_
    refine fw_icmp_ge 175 dX6_sum_38 (by decide) (fun h38 => ?_) (fun h38 => ?_)
    · skip
      refine fw_lload_n dX6_sum_175 rfl rfl ?_
      refine fw_ldc2 dX6_sum_176 cl_6_257 ?_
      refine fw_lrem dX6_sum_179 (by decide) ?_
      rw [hv]
      refine fw_l2i dX6_sum_180 ?_
      rw [i64_rem (by omega) (by omega)]
      refine fw_iret dX6_sum_181 ⟨rfl, rfl, rfl⟩ ?_
      refine ⟨?_, rl_mq_of g1⟩
      rw [show i.toNat = 12 by omega]
      congr 2; unfold an_sum; rw [if_neg (by omega)]
    · skip
      obtain ⟨e0, e1, e2, e3, e4, e6, e7⟩ := g2.1 i (by omega) (by omega)
      have hs := ab_sm_s (rl_st N K (rl_S M N m d)) h1
      refine fw_aload_n dX6_sum_41 rfl rfl ?_
      refine fw_getr 15 11 rfl dX6_sum_42 ff_6_46 ly1_0 ⟨by decide, by decide⟩ rfl rfl (by decide) ?_
      refine fw_iload dX6_sum_45 rfl ?_
      refine fw_baload dX6_sum_47 ly1_11 ⟨by decide, by decide⟩ ⟨by omega, by omega⟩ ?_
      refine fw_if_eq 169 dX6_sum_48 (by decide) (fun h48 => ?_) (fun h48 => ?_)
      · skip
        refine fw_iinc (ls2 := [_, _, _, _, _, _]) dX6_sum_169 rfl ⟨by omega, by omega⟩ (by decide) rfl ?_
        refine fw_goto 34 dX6_sum_172 (by decide) ?_
        exact ih _ (i + 1) (by omega) (by omega) (by omega) (by rw [hs, show rl_st N K (rl_S M N m d) i = 0 from if_pos (by omega), Int.add_zero]; exact hv)
      · skip
        have hth : ¬ (rl_S M N m d).1 1 i = 0 := by omega
        have el := g2.2.1 i (by omega) (by omega) hth
        refine fw_ldc2 dX6_sum_51 cl_6_253 ?_
        refine fw_aload_n dX6_sum_54 rfl rfl ?_
        refine fw_getr 17 13 rfl dX6_sum_55 ff_6_52 ly1_0 ⟨by decide, by decide⟩ rfl rfl (by decide) ?_
        refine fw_iload dX6_sum_58 rfl ?_
        refine fw_iaload dX6_sum_60 ly1_13 ⟨by decide, by decide⟩ ⟨by omega, by omega⟩ ?_
        refine fw_i2l dX6_sum_61 ?_
        refine fw_lmul dX6_sum_62 ?_
        refine fw_ldc2 dX6_sum_63 cl_6_255 ?_
        refine fw_aload_n dX6_sum_66 rfl rfl ?_
        refine fw_getr 20 16 rfl dX6_sum_67 ff_6_61 ly1_0 ⟨by decide, by decide⟩ rfl rfl (by decide) ?_
        refine fw_iload dX6_sum_70 rfl ?_
        refine fw_iaload dX6_sum_72 ly1_16 ⟨by decide, by decide⟩ ⟨by omega, by omega⟩ ?_
        refine fw_i2l dX6_sum_73 ?_
        refine fw_lmul dX6_sum_74 ?_
        refine fw_ladd dX6_sum_75 ?_
        rw [e3, el.1, i64_31, i64_7, i64_m, i64_m, i64_a]
        refine fw_lstore (ls2 := [_, _, _, _, _, _, _]) dX6_sum_76 (by decide) rfl ?_
        refine fw_iconst dX6_sum_78 ⟨by decide, by decide⟩ ?_
        refine fw_istore (ls2 := [_, _, _, _, _, _, _, _, _]) dX6_sum_79 (by decide) rfl ?_
        refine l2_X6_sum M N N1 L K hR m d hm hd g1 g2 i v (by omega) _ (31 * (rl_S M N m d).1 3 i + 7 * ab_LB (rl_S M N m d) (rl_e N) i) ?_ 5 0 _ (by have := (rl_rows hR m d (t := i) (by omega)).1; omega) (by decide) (by omega) (by simp [ab_sm])
        rw [show 31 * (rl_S M N m d).1 3 i + 7 * ab_LB (rl_S M N m d) (rl_e N) i + rl_bt N K (rl_S M N m d) i = rl_w N K (rl_S M N m d) i from rfl]
        refine fw_lload_n dX6_sum_158 rfl rfl ?_
        refine fw_lconst (v := 1) dX6_sum_159 (by decide) ?_
        refine fw_iload dX6_sum_160 rfl ?_
        refine fw_i2l dX6_sum_162 ?_
        refine fw_lload dX6_sum_163 rfl ?_
        refine fw_lmul dX6_sum_165 ?_
        rw [i64_m, i64_1]
        refine fw_ladd dX6_sum_166 ?_
        rw [i64_a]
        refine fw_ladd dX6_sum_167 ?_
        rw [hv, i64_a]
        refine fw_lstore_n (ls2 := [_, _, _, _, _, _, _, _]) dX6_sum_168 rfl (by decide) rfl ?_
        refine fw_iinc (ls2 := [_, _, _, _, _, _, _, _]) dX6_sum_169 rfl ⟨by omega, by omega⟩ (by decide) rfl ?_
        refine fw_goto 34 dX6_sum_172 (by decide) ?_
        refine fw_take 6 ?_
        exact ih _ (i + 1) (by omega) (by omega) (by omega) (by rw [hs, show rl_st N K (rl_S M N m d) i = 1 + i * rl_w N K (rl_S M N m d) i from if_neg hth])

set_option maxRecDepth 20000 in
set_option maxHeartbeats 4000000 in
theorem pm_X6_sum (M N : fw_F) (L K : fw_G) (hR : Rel M L N K) (m d : Int) : fw_D mX6_sum 5 [some (fw_r 0), some (fw_i m), some (fw_i d)] [] N K (fun r N2 K2 => r = some (fw_i (an_sum (N 0 2) (N 0 4) m d (ab_sm (rl_st N K (rl_S M N m d)) 12 % 1000003))) ∧ rl_mq N K N2 K2) := by
  obtain ⟨ha1, ha2, ha3, ha4, ha5, ha6⟩ := hR.1
  have hn1 := hR.2.1.1.1.1
  have hn2 := hR.2.1.1.1.2.1
  refine fw_aload_n dX6_sum_5 rfl rfl ?_
  refine fw_iload_n dX6_sum_6 rfl rfl ?_
  refine fw_pV mX6_isMachine [_] dX6_sum_7 mv_X6_isMachine lk_6_179 ⟨⟨by decide, by decide⟩, rfl, rfl, rfl, by decide, by decide⟩ ly1_0 ⟨by decide, by decide⟩ rfl rfl (Nat.le_of_ble_eq_true rfl) (sp_X6_isMachine _ _ _ (by omega)) ?_
  refine fw_bifeq 21 dX6_sum_10 (by decide) (fun h10 => ?_) (fun h10 => ?_)
  · skip
    refine fw_iconst dX6_sum_21 ⟨by decide, by decide⟩ ?_
    exact fw_iret dX6_sum_22 ⟨rfl, rfl, rfl⟩ (⟨(by congr 2; unfold an_sum; (repeat' split) <;> omega), rl_mq_rf N K⟩)
  · skip
    refine fw_aload_n dX6_sum_13 rfl rfl ?_
    refine fw_iload_n dX6_sum_14 rfl rfl ?_
    refine fw_pV mX6_isDay [_] dX6_sum_15 mv_X6_isDay lk_6_224 ⟨⟨by decide, by decide⟩, rfl, rfl, rfl, by decide, by decide⟩ ly1_0 ⟨by decide, by decide⟩ rfl rfl (Nat.le_of_ble_eq_true rfl) (sp_X6_isDay _ _ _) ?_
    refine fw_bifne 23 dX6_sum_18 (by decide) (fun h18 => ?_) (fun h18 => ?_)
    · skip
      refine fw_aload_n dX6_sum_23 rfl rfl ?_
      refine fw_iload_n dX6_sum_24 rfl rfl ?_
      refine fw_iload_n dX6_sum_25 rfl rfl ?_
      refine fw_cV mX6_tellsOf [_, _] dX6_sum_26 mv_X6_tellsOf lk_6_227 ⟨⟨by decide, by decide⟩, rfl, rfl, rfl, by decide, by decide⟩ ly1_0 ⟨by decide, by decide⟩ rfl rfl (Nat.le_of_ble_eq_true rfl) (rl_tellsOf hR (by omega) (by omega)) (fun r M1 L1 hp hM1 => ?_)
      obtain ⟨rfl, rfl, g1, g2⟩ := hp
      refine fw_lconst (v := 0) dX6_sum_29 (by decide) ?_
      refine fw_lstore_n (ls2 := [_, _, _, _]) dX6_sum_30 rfl (by decide) rfl ?_
      refine fw_iconst dX6_sum_31 ⟨by decide, by decide⟩ ?_
      refine fw_istore (ls2 := [_, _, _, _, _, _]) dX6_sum_32 (by decide) rfl ?_
      exact lp_X6_sum M N M1 L L1 hR m d (by omega) (by omega) g1 g2 13 0 0 (by decide) (by decide) (by decide) rfl
    · skip
      refine fw_iconst dX6_sum_21 ⟨by decide, by decide⟩ ?_
      exact fw_iret dX6_sum_22 ⟨rfl, rfl, rfl⟩ (⟨(by congr 2; unfold an_sum; (repeat' split) <;> omega), rl_mq_rf N K⟩)

set_option maxRecDepth 20000 in
set_option maxHeartbeats 4000000 in
theorem sp_X6_sum (M N : fw_F) (L K : fw_G) (hR : Rel M L (fw_upd N 0 0 0) K) (m d : Int) : fw_SD mX6_sum [fw_r 0, fw_i m, fw_i d] N K (fun r N2 K2 => r = some (fw_i (an_sum ((fw_upd N 0 0 0) 0 2) ((fw_upd N 0 0 0) 0 4) m d (ab_sm (rl_st (fw_upd N 0 0 0) K (rl_S M (fw_upd N 0 0 0) m d)) 12 % 1000003))) ∧ rl_mq (fw_upd N 0 0 0) K N2 K2) := by
  refine fw_SP_of pl_X6_sum (ls := [_, _, _]) rfl (Nat.le_of_ble_eq_true rfl) fun hA hM => ?_
  refine fw_aload_n dX6_sum_0 rfl rfl ?_
  refine fw_iconst dX6_sum_1 ⟨by decide, by decide⟩ ?_
  refine fw_puti 0 rfl dX6_sum_2 fp_6_106 ly1_0 (by decide) ⟨by decide, by decide⟩ rfl ?_
  exact pm_X6_sum M (fw_upd N 0 0 0) L K hR m d
