def ab_ws (f : Int → Int64) (a : Int) : Nat → Int64
  | 0 => 0
  | n + 1 => ab_ws f a n + f (a + n)
theorem ab_ws_s (f : Int → Int64) {a j : Int} (h : a ≤ j) : ab_ws f a (j + 1 - a).toNat = ab_ws f a (j - a).toNat + f j := by
  rw [show (j + 1 - a).toNat = (j - a).toNat + 1 by omega]
  show ab_ws f a (j - a).toNat + f (a + (((j - a).toNat : Nat) : Int)) = _
  rw [show a + (((j - a).toNat : Nat) : Int) = j by omega]
theorem ab_ws_congr {f g : Int → Int64} {a : Int} : ∀ n : Nat, (∀ i : Int, a ≤ i → i < a + n → f i = g i) → ab_ws f a n = ab_ws g a n := by
  intro n
  induction n with
  | zero => intro _; rfl
  | succ n ih =>
    intro h
    simp only [ab_ws]
    rw [ih (fun i p q => h i p (by omega)), h (a + n) (by omega) (by omega)]

set_option maxRecDepth 20000 in
set_option maxHeartbeats 4000000 in
theorem lp_X5_waysOfAtLeast (a c d : Int) (M : fw_F) (L : fw_G) (ha : 0 ≤ a ∧ a ≤ c) (hc : c ≤ 12) (hd : 1 ≤ d ∧ d ≤ 8) : ∀ (q : Nat) (j : Int) (v : Int64), c + 1 - j < q → a ≤ j → j ≤ c + 1 → v = ab_ws (fun j => ab_c1 c j.toNat * ab_pw (Int64.ofInt (d - 1)) (c - j).toNat) a (j - a).toNat → fw_C mX5_waysOfAtLeast 5 [some (fw_i a), some (fw_i c), some (fw_i d), some (fw_l v), none, some (fw_i j)] [] M L (fw_pure (some (fw_l (ab_ws (fun j => ab_c1 c j.toNat * ab_pw (Int64.ofInt (d - 1)) (c - j).toNat) a (c + 1 - a).toNat))) M L) := by
  intro q
  induction q with
  | zero => intro j v h0 h1 h2; omega
  | succ q ih =>
    intro j v h0 h1 h2 h3
    refine fw_iload dX5_waysOfAtLeast_5 rfl ?_
    refine fw_iload_n dX5_waysOfAtLeast_7 rfl rfl ?_
    refine fw_icmp_gt 37 dX5_waysOfAtLeast_8 (by decide) (fun h8 => ?_) (fun h8 => ?_)
    · skip
      refine fw_lload_n dX5_waysOfAtLeast_37 rfl rfl ?_
      exact fw_lret dX5_waysOfAtLeast_38 ⟨rfl, rfl, rfl⟩ (⟨by rw [h3, show (j - a).toNat = (c + 1 - a).toNat by omega], rfl, rfl⟩)
    · skip
      refine fw_lload_n dX5_waysOfAtLeast_11 rfl rfl ?_
      refine fw_iload_n dX5_waysOfAtLeast_12 rfl rfl ?_
      refine fw_iload dX5_waysOfAtLeast_13 rfl ?_
      refine fw_pS mX5_choose [_, _] dX5_waysOfAtLeast_15 mv_X5_choose lk_5_341 ⟨⟨by decide, by decide⟩, rfl, rfl, rfl, by decide, by decide⟩ rfl rfl (Nat.le_of_ble_eq_true rfl) (sp_X5_choose _ _ _ _ (by omega) (by omega)) ?_
      refine fw_iload_n dX5_waysOfAtLeast_18 rfl rfl ?_
      refine fw_iconst dX5_waysOfAtLeast_19 ⟨by decide, by decide⟩ ?_
      refine fw_isub dX5_waysOfAtLeast_20 ⟨by omega, by omega⟩ ?_
      refine fw_iload_n dX5_waysOfAtLeast_21 rfl rfl ?_
      refine fw_iload dX5_waysOfAtLeast_22 rfl ?_
      refine fw_isub dX5_waysOfAtLeast_24 ⟨by omega, by omega⟩ ?_
      refine fw_pS mX5_power [_, _] dX5_waysOfAtLeast_25 mv_X5_power lk_5_285 ⟨⟨by decide, by decide⟩, rfl, rfl, rfl, by decide, by decide⟩ rfl rfl (Nat.le_of_ble_eq_true rfl) (sp_X5_power _ _ _ _ (by omega)) ?_
      refine fw_lmul dX5_waysOfAtLeast_28 ?_
      refine fw_ladd dX5_waysOfAtLeast_29 ?_
      refine fw_lstore_n (ls2 := [_, _, _, _, _, _]) dX5_waysOfAtLeast_30 rfl (by decide) rfl ?_
      refine fw_iinc (ls2 := [_, _, _, _, _, _]) dX5_waysOfAtLeast_31 rfl ⟨by omega, by omega⟩ (by decide) rfl ?_
      refine fw_goto 5 dX5_waysOfAtLeast_34 (by decide) ?_
      exact ih (j + 1) _ (by omega) (by omega) (by omega) (by rw [ab_ws_s _ h1, h3])

set_option maxRecDepth 20000 in
set_option maxHeartbeats 4000000 in
theorem sp_X5_waysOfAtLeast (a c d : Int) (M : fw_F) (L : fw_G) (ha : 0 ≤ a ∧ a ≤ c) (hc : c ≤ 12) (hd : 1 ≤ d ∧ d ≤ 8) : fw_SC mX5_waysOfAtLeast [fw_i a, fw_i c, fw_i d] M L (fw_pure (some (fw_l (ab_ws (fun j => ab_c1 c j.toNat * ab_pw (Int64.ofInt (d - 1)) (c - j).toNat) a (c + 1 - a).toNat))) M L) := by
  refine fw_SP_of pl_X5_waysOfAtLeast (ls := [_, _, _]) rfl (Nat.le_of_ble_eq_true rfl) fun hA hM => ?_
  refine fw_lconst (v := 0) dX5_waysOfAtLeast_0 (by decide) ?_
  refine fw_lstore_n (ls2 := [_, _, _, _]) dX5_waysOfAtLeast_1 rfl (by decide) rfl ?_
  refine fw_iload_n dX5_waysOfAtLeast_2 rfl rfl ?_
  refine fw_istore (ls2 := [_, _, _, _, _, _]) dX5_waysOfAtLeast_3 (by decide) rfl ?_
  exact lp_X5_waysOfAtLeast a c d M L ha hc hd 14 a 0 (by omega) (by omega) (by omega) (by rw [show (a - a).toNat = 0 by omega]; rfl)

set_option maxRecDepth 20000 in
theorem ab_c12 : ∀ n : Fin 13, ∀ k : Fin 13, k.val ≤ n.val → ab_c1 (n.val : Int) k.val = ab_c2 (n.val : Int) (k.val : Int) k.val := by decide +kernel

/-- byte i of the lowest n of a long -/
def ab_by (x : Int64) (n i : Int) : Int := ((x >>> (Int64.ofInt (8 * (n - 1 - i)) &&& 63)) &&& 255).toInt32.toInt

set_option maxRecDepth 20000 in
set_option maxHeartbeats 4000000 in
theorem sp_X6_byteOf (x : Int64) (n i : Int) (M : fw_F) (L : fw_G) (h : 0 ≤ n ∧ n ≤ 8) (hi : 0 ≤ i ∧ i ≤ 8) : fw_SD mX6_byteOf [fw_l x, fw_i n, fw_i i] M L (fw_pure (some (fw_i (ab_by x n i))) M L) := by
  refine fw_SP_of pl_X6_byteOf (ls := [_, _, _, _]) rfl (Nat.le_of_ble_eq_true rfl) fun hA hM => ?_
  refine fw_lload_n dX6_byteOf_0 rfl rfl ?_
  refine fw_bipush dX6_byteOf_1 ⟨by decide, by decide⟩ (by decide) ?_
  refine fw_iload_n dX6_byteOf_3 rfl rfl ?_
  refine fw_iconst dX6_byteOf_4 ⟨by decide, by decide⟩ ?_
  refine fw_isub dX6_byteOf_5 ⟨by omega, by omega⟩ ?_
  refine fw_iload_n dX6_byteOf_6 rfl rfl ?_
  refine fw_isub dX6_byteOf_7 ⟨by omega, by omega⟩ ?_
  refine fw_imul dX6_byteOf_8 ⟨by omega, by omega⟩ ?_
  refine fw_lshr dX6_byteOf_9 ?_
  refine fw_ldc2 dX6_byteOf_10 cl_6_192 ?_
  refine fw_land dX6_byteOf_13 ?_
  refine fw_l2i dX6_byteOf_14 ?_
  exact fw_iret dX6_byteOf_15 ⟨rfl, rfl, rfl⟩ (⟨rfl, rfl, rfl⟩)
