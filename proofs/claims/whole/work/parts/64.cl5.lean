def ab_sm (f : Int → Int) : Nat → Int
  | 0 => 0
  | n + 1 => ab_sm f n + f n
theorem ab_sm_rng {f : Int → Int} {a b : Int} : ∀ n : Nat, (∀ i : Int, 0 ≤ i → i < n → a ≤ f i ∧ f i ≤ b) → a * n ≤ ab_sm f n ∧ ab_sm f n ≤ b * n := by
  intro n
  induction n with
  | zero => intro _; simp [ab_sm]
  | succ n ih =>
    intro h
    have h1 := ih (fun i a b => h i a (by omega))
    have h2 := h n (by omega) (by omega)
    have e1 : a * ((n + 1 : Nat) : Int) = a * n + a := by rw [show ((n + 1 : Nat) : Int) = (n : Int) + 1 from rfl, Int.mul_add, Int.mul_one]
    have e2 : b * ((n + 1 : Nat) : Int) = b * n + b := by rw [show ((n + 1 : Nat) : Int) = (n : Int) + 1 from rfl, Int.mul_add, Int.mul_one]
    rw [e1, e2]
    simp only [ab_sm]
    omega
theorem ab_sm_congr {f g : Int → Int} : ∀ n : Nat, (∀ i : Int, 0 ≤ i → i < n → f i = g i) → ab_sm f n = ab_sm g n := by
  intro n
  induction n with
  | zero => intro _; rfl
  | succ n ih =>
    intro h
    simp only [ab_sm]
    rw [ih (fun i a b => h i a (by omega)), h n (by omega) (by omega)]
theorem ab_sm_s (f : Int → Int) {i : Int} (h : 0 ≤ i) : ab_sm f (i + 1).toNat = ab_sm f i.toNat + f i := by
  rw [show (i + 1).toNat = i.toNat + 1 by omega]
  show ab_sm f i.toNat + f ((i.toNat : Nat) : Int) = _
  rw [show ((i.toNat : Nat) : Int) = i by omega]
def ab_pw (a : Int64) : Nat → Int64
  | 0 => 1
  | n + 1 => ab_pw a n * a
def ab_c1 (n : Int) : Nat → Int64
  | 0 => 1
  | i + 1 => ab_c1 n i * Int64.ofInt (n - i) / Int64.ofInt (i + 1)
def ab_c2 (n k : Int) : Nat → Int64
  | 0 => 1
  | i + 1 => ab_c2 n k i * Int64.ofInt (n - k + (i + 1)) / Int64.ofInt (i + 1)
theorem ab_nz {i : Int} (h0 : 0 < i) (h1 : i < 1000) : ¬ Int64.ofInt i = 0 := by
  intro q
  have e := congrArg Int64.toInt q
  rw [Int64.toInt_ofInt_of_le (by omega) (by omega)] at e
  have : (0 : Int64).toInt = 0 := by decide
  omega

set_option maxRecDepth 20000 in
set_option maxHeartbeats 4000000 in
theorem lp_X5_power (a e : Int) (M : fw_F) (L : fw_G) (he : 0 ≤ e ∧ e ≤ 20) : ∀ (q : Nat) (i : Int) (v : Int64), e - i < q → 0 ≤ i → i ≤ e → v = ab_pw (Int64.ofInt a) i.toNat → fw_C mX5_power 5 [some (fw_i a), some (fw_i e), some (fw_l v), none, some (fw_i i)] [] M L (fw_pure (some (fw_l (ab_pw (Int64.ofInt a) e.toNat))) M L) := by
  intro q
  induction q with
  | zero => intro i v h0 h1 h2; omega
  | succ q ih =>
    intro i v h0 h1 h2 h3
    refine fw_iload dX5_power_5 rfl ?_
    refine fw_iload_n dX5_power_7 rfl rfl ?_
    refine fw_icmp_ge 22 dX5_power_8 (by decide) (fun h8 => ?_) (fun h8 => ?_)
    · skip
      refine fw_lload_n dX5_power_22 rfl rfl ?_
      exact fw_lret dX5_power_23 ⟨rfl, rfl, rfl⟩ (⟨by rw [h3, show i.toNat = e.toNat by omega], rfl, rfl⟩)
    · skip
      refine fw_lload_n dX5_power_11 rfl rfl ?_
      refine fw_iload_n dX5_power_12 rfl rfl ?_
      refine fw_i2l dX5_power_13 ?_
      refine fw_lmul dX5_power_14 ?_
      refine fw_lstore_n (ls2 := [_, _, _, _, _]) dX5_power_15 rfl (by decide) rfl ?_
      refine fw_iinc (ls2 := [_, _, _, _, _]) dX5_power_16 rfl ⟨by omega, by omega⟩ (by decide) rfl ?_
      refine fw_goto 5 dX5_power_19 (by decide) ?_
      exact ih (i + 1) _ (by omega) (by omega) (by omega) (by rw [show (i + 1).toNat = i.toNat + 1 by omega, h3]; rfl)

set_option maxRecDepth 20000 in
set_option maxHeartbeats 4000000 in
theorem sp_X5_power (a e : Int) (M : fw_F) (L : fw_G) (he : 0 ≤ e ∧ e ≤ 20) : fw_SC mX5_power [fw_i a, fw_i e] M L (fw_pure (some (fw_l (ab_pw (Int64.ofInt a) e.toNat))) M L) := by
  refine fw_SP_of pl_X5_power (ls := [_, _]) rfl (Nat.le_of_ble_eq_true rfl) fun hA hM => ?_
  refine fw_lconst (v := 1) dX5_power_0 (by decide) ?_
  refine fw_lstore_n (ls2 := [_, _, _]) dX5_power_1 rfl (by decide) rfl ?_
  refine fw_iconst dX5_power_2 ⟨by decide, by decide⟩ ?_
  refine fw_istore (ls2 := [_, _, _, _, _]) dX5_power_3 (by decide) rfl ?_
  exact lp_X5_power a e M L he 21 0 1 (by omega) (by decide) (by omega) rfl

set_option maxRecDepth 20000 in
set_option maxHeartbeats 4000000 in
theorem lp_X6_power (a e : Int) (M : fw_F) (L : fw_G) (he : 0 ≤ e ∧ e ≤ 20) : ∀ (q : Nat) (i : Int) (v : Int64), e - i < q → 0 ≤ i → i ≤ e → v = ab_pw (Int64.ofInt a) i.toNat → fw_D mX6_power 5 [some (fw_i a), some (fw_i e), some (fw_l v), none, some (fw_i i)] [] M L (fw_pure (some (fw_l (ab_pw (Int64.ofInt a) e.toNat))) M L) := by
  intro q
  induction q with
  | zero => intro i v h0 h1 h2; omega
  | succ q ih =>
    intro i v h0 h1 h2 h3
    refine fw_iload dX6_power_5 rfl ?_
    refine fw_iload_n dX6_power_7 rfl rfl ?_
    refine fw_icmp_ge 22 dX6_power_8 (by decide) (fun h8 => ?_) (fun h8 => ?_)
    · skip
      refine fw_lload_n dX6_power_22 rfl rfl ?_
      exact fw_lret dX6_power_23 ⟨rfl, rfl, rfl⟩ (⟨by rw [h3, show i.toNat = e.toNat by omega], rfl, rfl⟩)
    · skip
      refine fw_lload_n dX6_power_11 rfl rfl ?_
      refine fw_iload_n dX6_power_12 rfl rfl ?_
      refine fw_i2l dX6_power_13 ?_
      refine fw_lmul dX6_power_14 ?_
      refine fw_lstore_n (ls2 := [_, _, _, _, _]) dX6_power_15 rfl (by decide) rfl ?_
      refine fw_iinc (ls2 := [_, _, _, _, _]) dX6_power_16 rfl ⟨by omega, by omega⟩ (by decide) rfl ?_
      refine fw_goto 5 dX6_power_19 (by decide) ?_
      exact ih (i + 1) _ (by omega) (by omega) (by omega) (by rw [show (i + 1).toNat = i.toNat + 1 by omega, h3]; rfl)

set_option maxRecDepth 20000 in
set_option maxHeartbeats 4000000 in
theorem sp_X6_power (a e : Int) (M : fw_F) (L : fw_G) (he : 0 ≤ e ∧ e ≤ 20) : fw_SD mX6_power [fw_i a, fw_i e] M L (fw_pure (some (fw_l (ab_pw (Int64.ofInt a) e.toNat))) M L) := by
  refine fw_SP_of pl_X6_power (ls := [_, _]) rfl (Nat.le_of_ble_eq_true rfl) fun hA hM => ?_
  refine fw_lconst (v := 1) dX6_power_0 (by decide) ?_
  refine fw_lstore_n (ls2 := [_, _, _]) dX6_power_1 rfl (by decide) rfl ?_
  refine fw_iconst dX6_power_2 ⟨by decide, by decide⟩ ?_
  refine fw_istore (ls2 := [_, _, _, _, _]) dX6_power_3 (by decide) rfl ?_
  exact lp_X6_power a e M L he 21 0 1 (by omega) (by decide) (by omega) rfl

set_option maxRecDepth 20000 in
set_option maxHeartbeats 4000000 in
theorem lp_X5_choose (a e : Int) (M : fw_F) (L : fw_G) (ha : 0 ≤ a ∧ a ≤ 20) (he : 0 ≤ e ∧ e ≤ 20) : ∀ (q : Nat) (i : Int) (v : Int64), e - i < q → 0 ≤ i → i ≤ e → v = ab_c1 a i.toNat → fw_C mX5_choose 5 [some (fw_i a), some (fw_i e), some (fw_l v), none, some (fw_i i)] [] M L (fw_pure (some (fw_l (ab_c1 a e.toNat))) M L) := by
  intro q
  induction q with
  | zero => intro i v h0 h1 h2; omega
  | succ q ih =>
    intro i v h0 h1 h2 h3
    refine fw_iload dX5_choose_5 rfl ?_
    refine fw_iload_n dX5_choose_7 rfl rfl ?_
    refine fw_icmp_ge 31 dX5_choose_8 (by decide) (fun h8 => ?_) (fun h8 => ?_)
    · skip
      refine fw_lload_n dX5_choose_31 rfl rfl ?_
      exact fw_lret dX5_choose_32 ⟨rfl, rfl, rfl⟩ (⟨by rw [h3, show i.toNat = e.toNat by omega], rfl, rfl⟩)
    · skip
      refine fw_lload_n dX5_choose_11 rfl rfl ?_
      refine fw_iload_n dX5_choose_12 rfl rfl ?_
      refine fw_iload dX5_choose_13 rfl ?_
      refine fw_isub dX5_choose_15 ⟨by omega, by omega⟩ ?_
      refine fw_i2l dX5_choose_16 ?_
      refine fw_lmul dX5_choose_17 ?_
      refine fw_iload dX5_choose_18 rfl ?_
      refine fw_iconst dX5_choose_20 ⟨by decide, by decide⟩ ?_
      refine fw_iadd dX5_choose_21 ⟨by omega, by omega⟩ ?_
      refine fw_i2l dX5_choose_22 ?_
      refine fw_ldiv dX5_choose_23 (ab_nz (by omega) (by omega)) ?_
      refine fw_lstore_n (ls2 := [_, _, _, _, _]) dX5_choose_24 rfl (by decide) rfl ?_
      refine fw_iinc (ls2 := [_, _, _, _, _]) dX5_choose_25 rfl ⟨by omega, by omega⟩ (by decide) rfl ?_
      refine fw_goto 5 dX5_choose_28 (by decide) ?_
      exact ih (i + 1) _ (by omega) (by omega) (by omega) (by rw [show (i + 1).toNat = i.toNat + 1 by omega, h3]; simp only [ab_c1]; rw [show ((i.toNat : Nat) : Int) = i by omega])

set_option maxRecDepth 20000 in
set_option maxHeartbeats 4000000 in
theorem sp_X5_choose (a e : Int) (M : fw_F) (L : fw_G) (ha : 0 ≤ a ∧ a ≤ 20) (he : 0 ≤ e ∧ e ≤ 20) : fw_SC mX5_choose [fw_i a, fw_i e] M L (fw_pure (some (fw_l (ab_c1 a e.toNat))) M L) := by
  refine fw_SP_of pl_X5_choose (ls := [_, _]) rfl (Nat.le_of_ble_eq_true rfl) fun hA hM => ?_
  refine fw_lconst (v := 1) dX5_choose_0 (by decide) ?_
  refine fw_lstore_n (ls2 := [_, _, _]) dX5_choose_1 rfl (by decide) rfl ?_
  refine fw_iconst dX5_choose_2 ⟨by decide, by decide⟩ ?_
  refine fw_istore (ls2 := [_, _, _, _, _]) dX5_choose_3 (by decide) rfl ?_
  exact lp_X5_choose a e M L ha he 21 0 1 (by omega) (by decide) (by omega) rfl

set_option maxRecDepth 20000 in
set_option maxHeartbeats 4000000 in
theorem lp_X6_choose (a e : Int) (M : fw_F) (L : fw_G) (ha : 0 ≤ a ∧ a ≤ 20) (he : 0 ≤ e ∧ e ≤ 20) : ∀ (q : Nat) (i : Int) (v : Int64), e + 1 - i < q → 1 ≤ i → i ≤ e + 1 → v = ab_c2 a e (i - 1).toNat → fw_D mX6_choose 5 [some (fw_i a), some (fw_i e), some (fw_l v), none, some (fw_i i)] [] M L (fw_pure (some (fw_l (ab_c2 a e e.toNat))) M L) := by
  intro q
  induction q with
  | zero => intro i v h0 h1 h2; omega
  | succ q ih =>
    intro i v h0 h1 h2 h3
    refine fw_iload dX6_choose_5 rfl ?_
    refine fw_iload_n dX6_choose_7 rfl rfl ?_
    refine fw_icmp_gt 31 dX6_choose_8 (by decide) (fun h8 => ?_) (fun h8 => ?_)
    · skip
      refine fw_lload_n dX6_choose_31 rfl rfl ?_
      exact fw_lret dX6_choose_32 ⟨rfl, rfl, rfl⟩ (⟨by rw [h3, show (i - 1).toNat = e.toNat by omega], rfl, rfl⟩)
    · skip
      refine fw_lload_n dX6_choose_11 rfl rfl ?_
      refine fw_iload_n dX6_choose_12 rfl rfl ?_
      refine fw_iload_n dX6_choose_13 rfl rfl ?_
      refine fw_isub dX6_choose_14 ⟨by omega, by omega⟩ ?_
      refine fw_iload dX6_choose_15 rfl ?_
      refine fw_iadd dX6_choose_17 ⟨by omega, by omega⟩ ?_
      refine fw_i2l dX6_choose_18 ?_
      refine fw_lmul dX6_choose_19 ?_
      refine fw_iload dX6_choose_20 rfl ?_
      refine fw_i2l dX6_choose_22 ?_
      refine fw_ldiv dX6_choose_23 (ab_nz (by omega) (by omega)) ?_
      refine fw_lstore_n (ls2 := [_, _, _, _, _]) dX6_choose_24 rfl (by decide) rfl ?_
      refine fw_iinc (ls2 := [_, _, _, _, _]) dX6_choose_25 rfl ⟨by omega, by omega⟩ (by decide) rfl ?_
      refine fw_goto 5 dX6_choose_28 (by decide) ?_
      exact ih (i + 1) _ (by omega) (by omega) (by omega) (by rw [show (i + 1 - 1).toNat = (i - 1).toNat + 1 by omega, h3]; simp only [ab_c2]; rw [show (((i - 1).toNat : Nat) : Int) + 1 = i by omega])

set_option maxRecDepth 20000 in
set_option maxHeartbeats 4000000 in
theorem sp_X6_choose (a e : Int) (M : fw_F) (L : fw_G) (ha : 0 ≤ a ∧ a ≤ 20) (he : 0 ≤ e ∧ e ≤ 20) : fw_SD mX6_choose [fw_i a, fw_i e] M L (fw_pure (some (fw_l (ab_c2 a e e.toNat))) M L) := by
  refine fw_SP_of pl_X6_choose (ls := [_, _]) rfl (Nat.le_of_ble_eq_true rfl) fun hA hM => ?_
  refine fw_lconst (v := 1) dX6_choose_0 (by decide) ?_
  refine fw_lstore_n (ls2 := [_, _, _]) dX6_choose_1 rfl (by decide) rfl ?_
  refine fw_iconst dX6_choose_2 ⟨by decide, by decide⟩ ?_
  refine fw_istore (ls2 := [_, _, _, _, _]) dX6_choose_3 (by decide) rfl ?_
  exact lp_X6_choose a e M L ha he 22 1 1 (by omega) (by decide) (by omega) rfl

set_option maxRecDepth 20000 in
set_option maxHeartbeats 4000000 in
theorem sp_X3_holds (s pe d : Int) (M : fw_F) (L : fw_G) (h : 0 ≤ s ∧ s < 20) : fw_SC mX3_holds [fw_r 198, fw_i s, fw_i pe, fw_i d] M L (fw_pure (some (fw_i (fw_b (M 199 s = pe ∧ M 201 s ≤ d ∧ (M 202 s = -9 ∨ d < M 202 s))))) M L) := by
  refine fw_SP_of pl_X3_holds (ls := [_, _, _, _]) rfl (Nat.le_of_ble_eq_true rfl) fun hA hM => ?_
  refine fw_aload_n dX3_holds_0 rfl rfl ?_
  refine fw_getr 3 202 rfl dX3_holds_1 ff_3_21 ly0_198 ⟨by decide, by decide⟩ rfl rfl (by decide) ?_
  refine fw_iload_n dX3_holds_4 rfl rfl ?_
  refine fw_iaload dX3_holds_5 ly0_202 ⟨by decide, by decide⟩ ⟨by omega, by omega⟩ ?_
  refine fw_bipush dX3_holds_6 ⟨by decide, by decide⟩ (by decide) ?_
  refine fw_icmp_eq 25 dX3_holds_8 (by decide) (fun h8 => ?_) (fun h8 => ?_)
  · skip
    refine fw_iconst dX3_holds_25 ⟨by decide, by decide⟩ ?_
    refine fw_istore (ls2 := [_, _, _, _, _]) dX3_holds_26 (by decide) rfl ?_
    refine fw_aload_n dX3_holds_28 rfl rfl ?_
    refine fw_getr 0 199 rfl dX3_holds_29 ff_3_9 ly0_198 ⟨by decide, by decide⟩ rfl rfl (by decide) ?_
    refine fw_iload_n dX3_holds_32 rfl rfl ?_
    refine fw_iaload dX3_holds_33 ly0_199 ⟨by decide, by decide⟩ ⟨by omega, by omega⟩ ?_
    refine fw_iload_n dX3_holds_34 rfl rfl ?_
    refine fw_icmp_ne 57 dX3_holds_35 (by decide) (fun h35 => ?_) (fun h35 => ?_)
    · skip
      refine fw_iconst dX3_holds_57 ⟨by decide, by decide⟩ ?_
      exact fw_zret dX3_holds_58 ⟨rfl, rfl, rfl⟩ (by first | decide | exact fw_b_01 _ | omega) (⟨by first | exact fw_zT (by omega) | exact fw_zF (by omega), rfl, rfl⟩)
    · skip
      refine fw_aload_n dX3_holds_38 rfl rfl ?_
      refine fw_getr 2 201 rfl dX3_holds_39 ff_3_18 ly0_198 ⟨by decide, by decide⟩ rfl rfl (by decide) ?_
      refine fw_iload_n dX3_holds_42 rfl rfl ?_
      refine fw_iaload dX3_holds_43 ly0_201 ⟨by decide, by decide⟩ ⟨by omega, by omega⟩ ?_
      refine fw_iload_n dX3_holds_44 rfl rfl ?_
      refine fw_icmp_gt 57 dX3_holds_45 (by decide) (fun h45 => ?_) (fun h45 => ?_)
      · skip
        refine fw_iconst dX3_holds_57 ⟨by decide, by decide⟩ ?_
        exact fw_zret dX3_holds_58 ⟨rfl, rfl, rfl⟩ (by first | decide | exact fw_b_01 _ | omega) (⟨by first | exact fw_zT (by omega) | exact fw_zF (by omega), rfl, rfl⟩)
      · skip
        refine fw_iload dX3_holds_48 rfl ?_
        refine fw_if_ne 57 dX3_holds_50 (by decide) (fun h50 => ?_) (fun h50 => ?_)
        · skip
          exfalso; omega
        · skip
          refine fw_iconst dX3_holds_53 ⟨by decide, by decide⟩ ?_
          refine fw_goto 58 dX3_holds_54 (by decide) ?_
          exact fw_zret dX3_holds_58 ⟨rfl, rfl, rfl⟩ (by first | decide | exact fw_b_01 _ | omega) (⟨by first | exact fw_zT (by omega) | exact fw_zF (by omega), rfl, rfl⟩)
  · skip
    refine fw_aload_n dX3_holds_11 rfl rfl ?_
    refine fw_getr 3 202 rfl dX3_holds_12 ff_3_21 ly0_198 ⟨by decide, by decide⟩ rfl rfl (by decide) ?_
    refine fw_iload_n dX3_holds_15 rfl rfl ?_
    refine fw_iaload dX3_holds_16 ly0_202 ⟨by decide, by decide⟩ ⟨by omega, by omega⟩ ?_
    refine fw_iload_n dX3_holds_17 rfl rfl ?_
    refine fw_icmp_gt 25 dX3_holds_18 (by decide) (fun h18 => ?_) (fun h18 => ?_)
    · skip
      refine fw_iconst dX3_holds_25 ⟨by decide, by decide⟩ ?_
      refine fw_istore (ls2 := [_, _, _, _, _]) dX3_holds_26 (by decide) rfl ?_
      refine fw_aload_n dX3_holds_28 rfl rfl ?_
      refine fw_getr 0 199 rfl dX3_holds_29 ff_3_9 ly0_198 ⟨by decide, by decide⟩ rfl rfl (by decide) ?_
      refine fw_iload_n dX3_holds_32 rfl rfl ?_
      refine fw_iaload dX3_holds_33 ly0_199 ⟨by decide, by decide⟩ ⟨by omega, by omega⟩ ?_
      refine fw_iload_n dX3_holds_34 rfl rfl ?_
      refine fw_icmp_ne 57 dX3_holds_35 (by decide) (fun h35 => ?_) (fun h35 => ?_)
      · skip
        refine fw_iconst dX3_holds_57 ⟨by decide, by decide⟩ ?_
        exact fw_zret dX3_holds_58 ⟨rfl, rfl, rfl⟩ (by first | decide | exact fw_b_01 _ | omega) (⟨by first | exact fw_zT (by omega) | exact fw_zF (by omega), rfl, rfl⟩)
      · skip
        refine fw_aload_n dX3_holds_38 rfl rfl ?_
        refine fw_getr 2 201 rfl dX3_holds_39 ff_3_18 ly0_198 ⟨by decide, by decide⟩ rfl rfl (by decide) ?_
        refine fw_iload_n dX3_holds_42 rfl rfl ?_
        refine fw_iaload dX3_holds_43 ly0_201 ⟨by decide, by decide⟩ ⟨by omega, by omega⟩ ?_
        refine fw_iload_n dX3_holds_44 rfl rfl ?_
        refine fw_icmp_gt 57 dX3_holds_45 (by decide) (fun h45 => ?_) (fun h45 => ?_)
        · skip
          refine fw_iconst dX3_holds_57 ⟨by decide, by decide⟩ ?_
          exact fw_zret dX3_holds_58 ⟨rfl, rfl, rfl⟩ (by first | decide | exact fw_b_01 _ | omega) (⟨by first | exact fw_zT (by omega) | exact fw_zF (by omega), rfl, rfl⟩)
        · skip
          refine fw_iload dX3_holds_48 rfl ?_
          refine fw_if_ne 57 dX3_holds_50 (by decide) (fun h50 => ?_) (fun h50 => ?_)
          · skip
            exfalso; omega
          · skip
            refine fw_iconst dX3_holds_53 ⟨by decide, by decide⟩ ?_
            refine fw_goto 58 dX3_holds_54 (by decide) ?_
            exact fw_zret dX3_holds_58 ⟨rfl, rfl, rfl⟩ (by first | decide | exact fw_b_01 _ | omega) (⟨by first | exact fw_zT (by omega) | exact fw_zF (by omega), rfl, rfl⟩)
    · skip
      refine fw_iconst dX3_holds_21 ⟨by decide, by decide⟩ ?_
      refine fw_goto 26 dX3_holds_22 (by decide) ?_
      refine fw_istore (ls2 := [_, _, _, _, _]) dX3_holds_26 (by decide) rfl ?_
      refine fw_aload_n dX3_holds_28 rfl rfl ?_
      refine fw_getr 0 199 rfl dX3_holds_29 ff_3_9 ly0_198 ⟨by decide, by decide⟩ rfl rfl (by decide) ?_
      refine fw_iload_n dX3_holds_32 rfl rfl ?_
      refine fw_iaload dX3_holds_33 ly0_199 ⟨by decide, by decide⟩ ⟨by omega, by omega⟩ ?_
      refine fw_iload_n dX3_holds_34 rfl rfl ?_
      refine fw_icmp_ne 57 dX3_holds_35 (by decide) (fun h35 => ?_) (fun h35 => ?_)
      · skip
        refine fw_iconst dX3_holds_57 ⟨by decide, by decide⟩ ?_
        exact fw_zret dX3_holds_58 ⟨rfl, rfl, rfl⟩ (by first | decide | exact fw_b_01 _ | omega) (⟨by first | exact fw_zT (by omega) | exact fw_zF (by omega), rfl, rfl⟩)
      · skip
        refine fw_aload_n dX3_holds_38 rfl rfl ?_
        refine fw_getr 2 201 rfl dX3_holds_39 ff_3_18 ly0_198 ⟨by decide, by decide⟩ rfl rfl (by decide) ?_
        refine fw_iload_n dX3_holds_42 rfl rfl ?_
        refine fw_iaload dX3_holds_43 ly0_201 ⟨by decide, by decide⟩ ⟨by omega, by omega⟩ ?_
        refine fw_iload_n dX3_holds_44 rfl rfl ?_
        refine fw_icmp_gt 57 dX3_holds_45 (by decide) (fun h45 => ?_) (fun h45 => ?_)
        · skip
          refine fw_iconst dX3_holds_57 ⟨by decide, by decide⟩ ?_
          exact fw_zret dX3_holds_58 ⟨rfl, rfl, rfl⟩ (by first | decide | exact fw_b_01 _ | omega) (⟨by first | exact fw_zT (by omega) | exact fw_zF (by omega), rfl, rfl⟩)
        · skip
          refine fw_iload dX3_holds_48 rfl ?_
          refine fw_if_ne 57 dX3_holds_50 (by decide) (fun h50 => ?_) (fun h50 => ?_)
          · skip
            refine fw_iconst dX3_holds_57 ⟨by decide, by decide⟩ ?_
            exact fw_zret dX3_holds_58 ⟨rfl, rfl, rfl⟩ (by first | decide | exact fw_b_01 _ | omega) (⟨by first | exact fw_zT (by omega) | exact fw_zF (by omega), rfl, rfl⟩)
          · skip
            exfalso; omega

set_option maxRecDepth 20000 in
set_option maxHeartbeats 4000000 in
theorem lp_X3_holding (M : fw_F) (L : fw_G) (hn : 0 ≤ M 198 4 ∧ M 198 4 ≤ 20) : ∀ (q : Nat) (c i : Int), M 198 4 - i < q → 0 ≤ i → i ≤ M 198 4 → c = ab_sm (fun i => if M 202 i = -9 then 1 else 0) i.toNat → fw_C mX3_holding 4 [some (fw_r 198), some (fw_i c), some (fw_i i)] [] M L (fw_pure (some (fw_i (ab_sm (fun i => if M 202 i = -9 then 1 else 0) (M 198 4).toNat))) M L) := by
  intro q
  induction q with
  | zero => intro c i h0 h1 h2; omega
  | succ q ih =>
    intro c i h0 h1 h2 h3
    have hr := ab_sm_rng (f := fun i => if M 202 i = -9 then 1 else 0) (a := 0) (b := 1) i.toNat (fun i _ _ => by split <;> omega)
    refine fw_iload_n dX3_holding_4 rfl rfl ?_
    refine fw_aload_n dX3_holding_5 rfl rfl ?_
    refine fw_geti 4 rfl dX3_holding_6 ff_3_24 ly0_198 ⟨by decide, by decide⟩ rfl ?_
    refine fw_icmp_ge 32 dX3_holding_9 (by decide) (fun h9 => ?_) (fun h9 => ?_)
    · skip
      refine fw_iload_n dX3_holding_32 rfl rfl ?_
      exact fw_iret dX3_holding_33 ⟨rfl, rfl, rfl⟩ (⟨by rw [h3, show i.toNat = (M 198 4).toNat by omega], rfl, rfl⟩)
    · skip
      refine fw_aload_n dX3_holding_12 rfl rfl ?_
      refine fw_getr 3 202 rfl dX3_holding_13 ff_3_21 ly0_198 ⟨by decide, by decide⟩ rfl rfl (by decide) ?_
      refine fw_iload_n dX3_holding_16 rfl rfl ?_
      refine fw_iaload dX3_holding_17 ly0_202 ⟨by decide, by decide⟩ ⟨by omega, by omega⟩ ?_
      refine fw_bipush dX3_holding_18 ⟨by decide, by decide⟩ (by decide) ?_
      refine fw_icmp_ne 26 dX3_holding_20 (by decide) (fun h20 => ?_) (fun h20 => ?_)
      · skip
        refine fw_iinc (ls2 := [_, _, _]) dX3_holding_26 rfl ⟨by omega, by omega⟩ (by decide) rfl ?_
        refine fw_goto 4 dX3_holding_29 (by decide) ?_
        exact ih _ (i + 1) (by omega) (by omega) (by omega) (by rw [ab_sm_s _ h1, if_neg h20, Int.add_zero, h3])
      · skip
        refine fw_iinc (ls2 := [_, _, _]) dX3_holding_23 rfl ⟨by omega, by omega⟩ (by decide) rfl ?_
        refine fw_iinc (ls2 := [_, _, _]) dX3_holding_26 rfl ⟨by omega, by omega⟩ (by decide) rfl ?_
        refine fw_goto 4 dX3_holding_29 (by decide) ?_
        exact ih _ (i + 1) (by omega) (by omega) (by omega) (by rw [ab_sm_s _ h1, if_pos h20, h3])

set_option maxRecDepth 20000 in
set_option maxHeartbeats 4000000 in
theorem sp_X3_holding (M : fw_F) (L : fw_G) (hn : 0 ≤ M 198 4 ∧ M 198 4 ≤ 20) : fw_SC mX3_holding [fw_r 198] M L (fw_pure (some (fw_i (ab_sm (fun i => if M 202 i = -9 then 1 else 0) (M 198 4).toNat))) M L) := by
  refine fw_SP_of pl_X3_holding (ls := [_]) rfl (Nat.le_of_ble_eq_true rfl) fun hA hM => ?_
  refine fw_iconst dX3_holding_0 ⟨by decide, by decide⟩ ?_
  refine fw_istore_n (ls2 := [_, _]) dX3_holding_1 rfl (by decide) rfl ?_
  refine fw_iconst dX3_holding_2 ⟨by decide, by decide⟩ ?_
  refine fw_istore_n (ls2 := [_, _, _]) dX3_holding_3 rfl (by decide) rfl ?_
  exact lp_X3_holding M L hn 21 0 0 (by omega) (by decide) (by omega) rfl

set_option maxRecDepth 20000 in
set_option maxHeartbeats 4000000 in
theorem lp_X4_childCount (t : Int) (M : fw_F) (L : fw_G) : ∀ (q : Nat) (c i : Int), 12 - i < q → 1 ≤ i → i ≤ 12 → c = ab_sm (fun i => if ¬ M 170 (i + 1) = 0 ∧ M 172 (i + 1) = t then 1 else 0) (i - 1).toNat → fw_C mX4_childCount 4 [some (fw_r 168), some (fw_i t), some (fw_i c), some (fw_i i)] [] M L (fw_pure (some (fw_i (ab_sm (fun i => if ¬ M 170 (i + 1) = 0 ∧ M 172 (i + 1) = t then 1 else 0) 11))) M L) := by
  intro q
  induction q with
  | zero => intro c i h0 h1 h2; omega
  | succ q ih =>
    intro c i h0 h1 h2 h3
    have hr := ab_sm_rng (f := fun i => if ¬ M 170 (i + 1) = 0 ∧ M 172 (i + 1) = t then 1 else 0) (a := 0) (b := 1) (i - 1).toNat (fun i _ _ => by split <;> omega)
    refine fw_iload_n dX4_childCount_4 rfl rfl ?_
    refine fw_bipush dX4_childCount_5 ⟨by decide, by decide⟩ (by decide) ?_
    refine fw_icmp_ge 38 dX4_childCount_7 (by decide) (fun h7 => ?_) (fun h7 => ?_)
    · skip
      refine fw_iload_n dX4_childCount_38 rfl rfl ?_
      exact fw_iret dX4_childCount_39 ⟨rfl, rfl, rfl⟩ (⟨by rw [h3, show (i - 1).toNat = 11 by omega], rfl, rfl⟩)
    · skip
      refine fw_aload_n dX4_childCount_10 rfl rfl ?_
      refine fw_getr 2 170 rfl dX4_childCount_11 ff_4_15 ly0_168 ⟨by decide, by decide⟩ rfl rfl (by decide) ?_
      refine fw_iload_n dX4_childCount_14 rfl rfl ?_
      refine fw_baload dX4_childCount_15 ly0_170 ⟨by decide, by decide⟩ ⟨by omega, by omega⟩ ?_
      refine fw_if_eq 32 dX4_childCount_16 (by decide) (fun h16 => ?_) (fun h16 => ?_)
      · skip
        refine fw_iinc (ls2 := [_, _, _, _]) dX4_childCount_32 rfl ⟨by omega, by omega⟩ (by decide) rfl ?_
        refine fw_goto 4 dX4_childCount_35 (by decide) ?_
        exact ih _ (i + 1) (by omega) (by omega) (by omega) (by rw [show i + 1 - 1 = (i - 1) + 1 by omega, ab_sm_s _ (show 0 ≤ i - 1 by omega), show i - 1 + 1 = i by omega, if_neg (fun z => z.1 h16), Int.add_zero, h3])
      · skip
        refine fw_aload_n dX4_childCount_19 rfl rfl ?_
        refine fw_getr 4 172 rfl dX4_childCount_20 ff_4_22 ly0_168 ⟨by decide, by decide⟩ rfl rfl (by decide) ?_
        refine fw_iload_n dX4_childCount_23 rfl rfl ?_
        refine fw_iaload dX4_childCount_24 ly0_172 ⟨by decide, by decide⟩ ⟨by omega, by omega⟩ ?_
        refine fw_iload_n dX4_childCount_25 rfl rfl ?_
        refine fw_icmp_ne 32 dX4_childCount_26 (by decide) (fun h26 => ?_) (fun h26 => ?_)
        · skip
          refine fw_iinc (ls2 := [_, _, _, _]) dX4_childCount_32 rfl ⟨by omega, by omega⟩ (by decide) rfl ?_
          refine fw_goto 4 dX4_childCount_35 (by decide) ?_
          exact ih _ (i + 1) (by omega) (by omega) (by omega) (by rw [show i + 1 - 1 = (i - 1) + 1 by omega, ab_sm_s _ (show 0 ≤ i - 1 by omega), show i - 1 + 1 = i by omega, if_neg (fun z => h26 z.2), Int.add_zero, h3])
        · skip
          refine fw_iinc (ls2 := [_, _, _, _]) dX4_childCount_29 rfl ⟨by omega, by omega⟩ (by decide) rfl ?_
          refine fw_iinc (ls2 := [_, _, _, _]) dX4_childCount_32 rfl ⟨by omega, by omega⟩ (by decide) rfl ?_
          refine fw_goto 4 dX4_childCount_35 (by decide) ?_
          exact ih _ (i + 1) (by omega) (by omega) (by omega) (by rw [show i + 1 - 1 = (i - 1) + 1 by omega, ab_sm_s _ (show 0 ≤ i - 1 by omega), show i - 1 + 1 = i by omega, if_pos ⟨h16, h26⟩, h3])

set_option maxRecDepth 20000 in
set_option maxHeartbeats 4000000 in
theorem sp_X4_childCount (t : Int) (M : fw_F) (L : fw_G) : fw_SC mX4_childCount [fw_r 168, fw_i t] M L (fw_pure (some (fw_i (ab_sm (fun i => if ¬ M 170 (i + 1) = 0 ∧ M 172 (i + 1) = t then 1 else 0) 11))) M L) := by
  refine fw_SP_of pl_X4_childCount (ls := [_, _]) rfl (Nat.le_of_ble_eq_true rfl) fun hA hM => ?_
  refine fw_iconst dX4_childCount_0 ⟨by decide, by decide⟩ ?_
  refine fw_istore_n (ls2 := [_, _, _]) dX4_childCount_1 rfl (by decide) rfl ?_
  refine fw_iconst dX4_childCount_2 ⟨by decide, by decide⟩ ?_
  refine fw_istore_n (ls2 := [_, _, _, _]) dX4_childCount_3 rfl (by decide) rfl ?_
  exact lp_X4_childCount t M L 12 0 1 (by decide) (by decide) (by decide) rfl
