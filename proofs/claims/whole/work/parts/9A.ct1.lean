theorem fw_nwu {K : Nat} {R M : fw_F} {L : fw_G} {k j v : Int} (h : ¬ (K : Int) = k) (hn : fw_nw K R M L) : fw_nw K (fw_upd R k j v) M L := fun i => by
  rw [fw_updne h]
  exact hn i
theorem fw_nwm {K : Nat} {R M : fw_F} {L : fw_G} {k j v : Int} (h : ¬ (K : Int) = k) (hn : fw_nw K R M L) : fw_nw K R (fw_upd M k j v) L := fun i => by
  rw [fw_updne h]
  exact hn i

set_option maxRecDepth 20000 in
set_option maxHeartbeats 4000000 in
theorem sp_X3_init (R M : fw_F) (L : fw_G) (hnw : ∀ k : Nat, 199 ≤ k → fw_nw k R M L) : fw_SP mX3_init [fw_r 198] 199 R M L (fun r K2 R2 M2 L2 => r = none ∧ K2 = 203 ∧ R2 = (fw_upd (fw_upd (fw_upd (fw_upd R 198 0 199) 198 1 200) 198 2 201) 198 3 202) ∧ M2 = M ∧ L2 = L) := by
  refine fw_SP_of pl_X3_init (ls := [_]) rfl (Nat.le_of_ble_eq_true rfl) fun hA hM => ?_
  refine fw_aload_n dX3_init_0 rfl rfl ?_
  refine fw_obj dX3_init_1 ⟨lk_3_3, ow_1.1, ow_1.2⟩ ⟨by decide, by decide⟩ ?_
  refine fw_aload_n dX3_init_4 rfl rfl ?_
  refine fw_bipush dX3_init_5 ⟨by decide, by decide⟩ (by decide) ?_
  refine fw_newi (n := 20) (i := 0) 199 200 20 rfl rfl rfl dX3_init_7 rfl (by decide) aw_0 (fun _ => rfl) (fun _ _ h => h) (fun _ => rfl) (by decide) (by decide) ⟨by decide, by decide, by decide⟩ (hnw 199 (by decide)) ?_
  refine fw_putr 0 rfl dX3_init_9 fF_3_9 (fun _ => ⟨rfl, rfl⟩) rfl (by decide) rfl (by decide) ⟨by decide, by decide⟩ (by decide) ?_
  refine fw_aload_n dX3_init_12 rfl rfl ?_
  refine fw_bipush dX3_init_13 ⟨by decide, by decide⟩ (by decide) ?_
  refine fw_newi (n := 20) (i := 0) 200 201 40 rfl rfl rfl dX3_init_15 rfl (by decide) aw_0 (fun _ => rfl) (fun _ _ h => h) (fun _ => rfl) (by decide) (by decide) ⟨by decide, by decide, by decide⟩ (fw_nwu (by decide) (hnw 200 (by decide))) ?_
  refine fw_putr 1 rfl dX3_init_17 fF_3_15 (fun _ => ⟨rfl, rfl⟩) rfl (by decide) rfl (by decide) ⟨by decide, by decide⟩ (by decide) ?_
  refine fw_aload_n dX3_init_20 rfl rfl ?_
  refine fw_bipush dX3_init_21 ⟨by decide, by decide⟩ (by decide) ?_
  refine fw_newi (n := 20) (i := 0) 201 202 60 rfl rfl rfl dX3_init_23 rfl (by decide) aw_0 (fun _ => rfl) (fun _ _ h => h) (fun _ => rfl) (by decide) (by decide) ⟨by decide, by decide, by decide⟩ (fw_nwu (by decide) (fw_nwu (by decide) (hnw 201 (by decide)))) ?_
  refine fw_putr 2 rfl dX3_init_25 fF_3_18 (fun _ => ⟨rfl, rfl⟩) rfl (by decide) rfl (by decide) ⟨by decide, by decide⟩ (by decide) ?_
  refine fw_aload_n dX3_init_28 rfl rfl ?_
  refine fw_bipush dX3_init_29 ⟨by decide, by decide⟩ (by decide) ?_
  refine fw_newi (n := 20) (i := 0) 202 203 80 rfl rfl rfl dX3_init_31 rfl (by decide) aw_0 (fun _ => rfl) (fun _ _ h => h) (fun _ => rfl) (by decide) (by decide) ⟨by decide, by decide, by decide⟩ (fw_nwu (by decide) (fw_nwu (by decide) (fw_nwu (by decide) (hnw 202 (by decide))))) ?_
  refine fw_putr 3 rfl dX3_init_33 fF_3_21 (fun _ => ⟨rfl, rfl⟩) rfl (by decide) rfl (by decide) ⟨by decide, by decide⟩ (by decide) ?_
  exact fw_vreturn dX3_init_36 rfl rfl rfl ⟨rfl, rfl, rfl, rfl, rfl⟩

set_option maxRecDepth 20000 in
set_option maxHeartbeats 4000000 in
theorem sp_X4_init (R M : fw_F) (L : fw_G) (hnw : ∀ k : Nat, 169 ≤ k → fw_nw k R M L) : fw_SP mX4_init [fw_r 168, fw_r 1] 169 R M L (fun r K2 R2 M2 L2 => r = none ∧ K2 = 178 ∧ R2 = (fw_upd (fw_upd (fw_upd (fw_upd (fw_upd (fw_upd (fw_upd (fw_upd (fw_upd (fw_upd R 168 1 169) 168 2 170) 168 3 171) 168 4 172) 168 5 173) 168 6 174) 168 7 175) 168 8 176) 168 9 177) 168 0 1) ∧ M2 = M ∧ L2 = L) := by
  refine fw_SP_of pl_X4_init (ls := [_, _]) rfl (Nat.le_of_ble_eq_true rfl) fun hA hM => ?_
  refine fw_aload_n dX4_init_0 rfl rfl ?_
  refine fw_obj dX4_init_1 ⟨lk_4_3, ow_1.1, ow_1.2⟩ ⟨by decide, by decide⟩ ?_
  refine fw_aload_n dX4_init_4 rfl rfl ?_
  refine fw_bipush dX4_init_5 ⟨by decide, by decide⟩ (by decide) ?_
  refine fw_newi (n := 12) (i := 1) 169 170 12 rfl rfl rfl dX4_init_7 rfl (by decide) aw_1 (fun _ => rfl) (fun _ _ h => h) (fun _ => rfl) (by decide) (by decide) ⟨by decide, by decide, by decide⟩ (hnw 169 (by decide)) ?_
  refine fw_putr 1 rfl dX4_init_9 fF_4_9 (fun _ => ⟨rfl, rfl⟩) rfl (by decide) rfl (by decide) ⟨by decide, by decide⟩ (by decide) ?_
  refine fw_aload_n dX4_init_12 rfl rfl ?_
  refine fw_bipush dX4_init_13 ⟨by decide, by decide⟩ (by decide) ?_
  refine fw_newi (n := 12) (i := 1) 170 171 24 rfl rfl rfl dX4_init_15 rfl (by decide) aw_1 (fun _ => rfl) (fun _ _ h => h) (fun _ => rfl) (by decide) (by decide) ⟨by decide, by decide, by decide⟩ (fw_nwu (by decide) (hnw 170 (by decide))) ?_
  refine fw_putr 2 rfl dX4_init_17 fF_4_15 (fun _ => ⟨rfl, rfl⟩) rfl (by decide) rfl (by decide) ⟨by decide, by decide⟩ (by decide) ?_
  refine fw_aload_n dX4_init_20 rfl rfl ?_
  refine fw_bipush dX4_init_21 ⟨by decide, by decide⟩ (by decide) ?_
  refine fw_newi (n := 12) (i := 0) 171 172 36 rfl rfl rfl dX4_init_23 rfl (by decide) aw_0 (fun _ => rfl) (fun _ _ h => h) (fun _ => rfl) (by decide) (by decide) ⟨by decide, by decide, by decide⟩ (fw_nwu (by decide) (fw_nwu (by decide) (hnw 171 (by decide)))) ?_
  refine fw_putr 3 rfl dX4_init_25 fF_4_18 (fun _ => ⟨rfl, rfl⟩) rfl (by decide) rfl (by decide) ⟨by decide, by decide⟩ (by decide) ?_
  refine fw_aload_n dX4_init_28 rfl rfl ?_
  refine fw_bipush dX4_init_29 ⟨by decide, by decide⟩ (by decide) ?_
  refine fw_newi (n := 12) (i := 0) 172 173 48 rfl rfl rfl dX4_init_31 rfl (by decide) aw_0 (fun _ => rfl) (fun _ _ h => h) (fun _ => rfl) (by decide) (by decide) ⟨by decide, by decide, by decide⟩ (fw_nwu (by decide) (fw_nwu (by decide) (fw_nwu (by decide) (hnw 172 (by decide))))) ?_
  refine fw_putr 4 rfl dX4_init_33 fF_4_22 (fun _ => ⟨rfl, rfl⟩) rfl (by decide) rfl (by decide) ⟨by decide, by decide⟩ (by decide) ?_
  refine fw_aload_n dX4_init_36 rfl rfl ?_
  refine fw_bipush dX4_init_37 ⟨by decide, by decide⟩ (by decide) ?_
  refine fw_newi (n := 12) (i := 0) 173 174 60 rfl rfl rfl dX4_init_39 rfl (by decide) aw_0 (fun _ => rfl) (fun _ _ h => h) (fun _ => rfl) (by decide) (by decide) ⟨by decide, by decide, by decide⟩ (fw_nwu (by decide) (fw_nwu (by decide) (fw_nwu (by decide) (fw_nwu (by decide) (hnw 173 (by decide)))))) ?_
  refine fw_putr 5 rfl dX4_init_41 fF_4_25 (fun _ => ⟨rfl, rfl⟩) rfl (by decide) rfl (by decide) ⟨by decide, by decide⟩ (by decide) ?_
  refine fw_aload_n dX4_init_44 rfl rfl ?_
  refine fw_bipush dX4_init_45 ⟨by decide, by decide⟩ (by decide) ?_
  refine fw_newi (n := 12) (i := 0) 174 175 72 rfl rfl rfl dX4_init_47 rfl (by decide) aw_0 (fun _ => rfl) (fun _ _ h => h) (fun _ => rfl) (by decide) (by decide) ⟨by decide, by decide, by decide⟩ (fw_nwu (by decide) (fw_nwu (by decide) (fw_nwu (by decide) (fw_nwu (by decide) (fw_nwu (by decide) (hnw 174 (by decide))))))) ?_
  refine fw_putr 6 rfl dX4_init_49 fF_4_28 (fun _ => ⟨rfl, rfl⟩) rfl (by decide) rfl (by decide) ⟨by decide, by decide⟩ (by decide) ?_
  refine fw_aload_n dX4_init_52 rfl rfl ?_
  refine fw_bipush dX4_init_53 ⟨by decide, by decide⟩ (by decide) ?_
  refine fw_newi (n := 12) (i := 0) 175 176 84 rfl rfl rfl dX4_init_55 rfl (by decide) aw_0 (fun _ => rfl) (fun _ _ h => h) (fun _ => rfl) (by decide) (by decide) ⟨by decide, by decide, by decide⟩ (fw_nwu (by decide) (fw_nwu (by decide) (fw_nwu (by decide) (fw_nwu (by decide) (fw_nwu (by decide) (fw_nwu (by decide) (hnw 175 (by decide)))))))) ?_
  refine fw_putr 7 rfl dX4_init_57 fF_4_31 (fun _ => ⟨rfl, rfl⟩) rfl (by decide) rfl (by decide) ⟨by decide, by decide⟩ (by decide) ?_
  refine fw_aload_n dX4_init_60 rfl rfl ?_
  refine fw_bipush dX4_init_61 ⟨by decide, by decide⟩ (by decide) ?_
  refine fw_newi (n := 12) (i := 0) 176 177 96 rfl rfl rfl dX4_init_63 rfl (by decide) aw_0 (fun _ => rfl) (fun _ _ h => h) (fun _ => rfl) (by decide) (by decide) ⟨by decide, by decide, by decide⟩ (fw_nwu (by decide) (fw_nwu (by decide) (fw_nwu (by decide) (fw_nwu (by decide) (fw_nwu (by decide) (fw_nwu (by decide) (fw_nwu (by decide) (hnw 176 (by decide))))))))) ?_
  refine fw_putr 8 rfl dX4_init_65 fF_4_34 (fun _ => ⟨rfl, rfl⟩) rfl (by decide) rfl (by decide) ⟨by decide, by decide⟩ (by decide) ?_
  refine fw_aload_n dX4_init_68 rfl rfl ?_
  refine fw_bipush dX4_init_69 ⟨by decide, by decide⟩ (by decide) ?_
  refine fw_newi (n := 48) (i := 0) 177 178 144 rfl rfl rfl dX4_init_71 rfl (by decide) aw_0 (fun _ => rfl) (fun _ _ h => h) (fun _ => rfl) (by decide) (by decide) ⟨by decide, by decide, by decide⟩ (fw_nwu (by decide) (fw_nwu (by decide) (fw_nwu (by decide) (fw_nwu (by decide) (fw_nwu (by decide) (fw_nwu (by decide) (fw_nwu (by decide) (fw_nwu (by decide) (hnw 177 (by decide)))))))))) ?_
  refine fw_putr 9 rfl dX4_init_73 fF_4_37 (fun _ => ⟨rfl, rfl⟩) rfl (by decide) rfl (by decide) ⟨by decide, by decide⟩ (by decide) ?_
  refine fw_aload_n dX4_init_76 rfl rfl ?_
  refine fw_aload_n dX4_init_77 rfl rfl ?_
  refine fw_putr 0 rfl dX4_init_78 fF_4_40 (fun _ => ⟨rfl, rfl⟩) rfl (by decide) rfl (by decide) ⟨by decide, by decide⟩ (by decide) ?_
  exact fw_vreturn dX4_init_81 rfl rfl rfl ⟨rfl, rfl, rfl, rfl, rfl⟩

set_option maxRecDepth 20000 in
set_option maxHeartbeats 4000000 in
theorem sp_X2_init (n : Nat) (hn : n ≤ 400) (p : Int) (K0 : Nat) (R M : fw_F) (L : fw_G) (hps : fw_ps p n) (hK : (K0 : Int) = p + 1) (hnw : ∀ k : Nat, K0 ≤ k → fw_nw k R M L) : fw_SP (mX2_init n) [fw_r p, fw_i n] K0 R M L (fun r K2 R2 M2 L2 => r = none ∧ K2 = K0 + 2 ∧ R2 = fw_upd (fw_upd R p 0 (p + 1)) p 1 (p + 2) ∧ M2 = M ∧ L2 = L) := by
  have hp := hps.2.2.2.2.2
  refine fw_SP_of (pl_X2_initn n) (ls := [_, _]) rfl (Nat.le_of_ble_eq_true rfl) fun hA hM => ?_
  refine fw_aload_n dX2_init_0 rfl rfl ?_
  refine fw_obj dX2_init_1 ⟨lk_2_3, ow_1.1, ow_1.2⟩ ⟨Nat.le_of_ble_eq_true rfl, Nat.le_of_ble_eq_true rfl⟩ ?_
  refine fw_aload_n dX2_init_4 rfl rfl ?_
  refine fw_iconst dX2_init_5 ⟨by decide, by decide⟩ ?_
  refine fw_iload_n dX2_init_6 rfl rfl ?_
  refine fw_max dX2_init_7 lk_2_9 lw_max ⟨Nat.le_of_ble_eq_true rfl, Nat.le_of_ble_eq_true rfl, by show K0 - K0 ≤ 2; omega, Nat.zero_le _⟩ ?_
  refine fw_newi (n := n) (i := 2) (p + 1) (K0 + 1) (0 + n) hK rfl rfl dX2_init_10 (by omega) (by omega) aw_2 (fun _ => rfl) (fun _ _ h => h) (fun _ => rfl) (by show n * 8 ≤ _; omega) (by rw [hK]; exact hps.2.1) ⟨by show 0 < 2; decide, by show K0 - K0 + 1 ≤ 2; omega, by show 0 + n ≤ 2 * n; omega⟩ (hnw K0 (Nat.le_refl _)) ?_
  refine fw_putr 0 rfl dX2_init_12 fF_2_15 (fun _ => ⟨rfl, rfl⟩) rfl hps.1 rfl (by show K0 + 1 ≤ 203; omega) ⟨by omega, by omega⟩ (by omega) ?_
  refine fw_aload_n dX2_init_15 rfl rfl ?_
  refine fw_iconst dX2_init_16 ⟨by decide, by decide⟩ ?_
  refine fw_iload_n dX2_init_17 rfl rfl ?_
  refine fw_max dX2_init_18 lk_2_9 lw_max ⟨Nat.le_of_ble_eq_true rfl, Nat.le_of_ble_eq_true rfl, by show K0 + 1 - K0 ≤ 2; omega, by show 0 + n ≤ 2 * n; omega⟩ ?_
  refine fw_newi (n := n) (i := 0) (p + 2) (K0 + 1 + 1) (0 + n + n) (by omega) rfl rfl dX2_init_21 (by omega) (by omega) aw_0 (fun _ => rfl) (fun _ _ h => h) (fun _ => rfl) (by show n * 4 ≤ _; omega) (by rw [show ((K0 + 1 : Nat) : Int) = p + 2 by omega]; exact hps.2.2.1) ⟨by show 0 < 2; decide, by show K0 + 1 - K0 + 1 ≤ 2; omega, by show 0 + n + n ≤ 2 * n; omega⟩ (fw_nwu (by omega) (hnw (K0 + 1) (by omega))) ?_
  refine fw_putr 1 rfl dX2_init_23 fF_2_21 (fun _ => ⟨rfl, rfl⟩) rfl hps.1 rfl (by show K0 + 1 + 1 ≤ 203; omega) ⟨by omega, by omega⟩ (by omega) ?_
  exact fw_vreturn dX2_init_26 rfl (by show K0 + 1 + 1 = K0 + 2; omega) (by show 0 + n + n = 2 * n; omega) ⟨rfl, rfl, rfl, rfl, rfl⟩

set_option maxRecDepth 20000 in
set_option maxHeartbeats 4000000 in
theorem lp_X1_init (R M : fw_F) (L : fw_G) : ∀ (q i K sl : Nat) (R1 : fw_F), 80 - i < q → i ≤ 80 → K = 8 + 2 * i → sl = 652 + 16 * i → ((∀ j : Int, 0 ≤ j → j < 6 → R1 1 j = 2 + j) ∧ (∀ j : Int, 0 ≤ j → j < i → R1 2 j = 8 + 2 * j) ∧ (∀ x : Int, 0 ≤ x → x < i → R1 (8 + 2 * x) 0 = 8 + 2 * x + 1) ∧ (∀ k : Int, k < 1 ∨ 168 ≤ k → R1 k = R k)) → (∀ k : Nat, K ≤ k → fw_nw k R1 M L) → fw_WP mX1_init 2 53 [some (fw_r 1), some (fw_i i)] [] K sl R1 M L (fun r K2 R1 M2 L2 => r = none ∧ K2 = 168 ∧ ((∀ j : Int, 0 ≤ j → j < 6 → R1 1 j = 2 + j) ∧ (∀ j : Int, 0 ≤ j → j < 80 → R1 2 j = 8 + 2 * j) ∧ (∀ x : Int, 0 ≤ x → x < 80 → R1 (8 + 2 * x) 0 = 8 + 2 * x + 1) ∧ (∀ k : Int, k < 1 ∨ 168 ≤ k → R1 k = R k)) ∧ M2 = M ∧ L2 = L) := by
  intro q
  induction q with
  | zero => intro i K sl R1 h0; omega
  | succ q ih =>
    intro i K sl R1 h0 h1 hK hsl hI hnw
    obtain ⟨i1, i2, i3, i4⟩ := hI
    refine fw_iload_n dX1_init_53 rfl rfl ?_
    refine fw_bipush dX1_init_54 ⟨by decide, by decide⟩ (by decide) ?_
    refine fw_icmp_ge 78 dX1_init_56 (by decide) (fun h56 => ?_) (fun h56 => ?_)
    · have hi : i = 80 := by omega
      subst hi
      exact fw_vreturn dX1_init_78 rfl (by rw [hK]; rfl) (by rw [hsl]; rfl) ⟨rfl, by rw [hK], ⟨i1, i2, i3, i4⟩, rfl, rfl⟩
    · subst hK
      subst hsl
      refine fw_aload_n dX1_init_59 rfl rfl ?_
      refine fw_getr 0 2 rfl dX1_init_60 ff_1_11 (by decide) ⟨by decide, by omega⟩ rfl (i1 0 (by decide) (by decide)) (by decide) ?_
      refine fw_iload_n dX1_init_63 rfl rfl ?_
      refine fw_newo (8 + 2 * (i : Int)) (8 + 2 * i + 1) (652 + 16 * i + 12) (by omega) rfl rfl dX1_init_64 fw_cls0 df_0 nw_1_9 (by rw [show ((8 + 2 * i : Nat) : Int) = 8 + 2 * (i : Int) by omega]; exact ly_ch (by omega) (by omega) (by omega)) (by decide) ⟨by decide, by show 8 + 2 * i - 2 + 1 ≤ 166; omega, by show 652 + 16 * i + 12 ≤ 1932; omega⟩ (hnw _ (Nat.le_refl _)) ?_
      refine fw_dup dX1_init_67 rfl ?_
      refine fw_callIN (Qc := fun r K' R' M' L' => r = none ∧ K' = 8 + 2 * i + 1 + 1 ∧ R' = fw_upd R1 (8 + 2 * (i : Int)) 0 (8 + 2 * (i : Int) + 1) ∧ M' = M ∧ L' = L) (rest := [fw_r (8 + 2 * (i : Int)), fw_i i, fw_r 2]) mX0_init [] dX1_init_68 mv_X0_init.1 mv_X0_init.2 (fun s h => h.1) ⟨by decide, by decide⟩ rfl (fun _ => by decide) rfl rfl (Nat.le_of_ble_eq_true rfl) ⟨by show 8 + 2 * i + 1 - 2 + 1 ≤ 166; omega, by show 652 + 16 * i + 12 + 4 ≤ 1932; omega⟩ (sp_X0_init (8 + 2 * (i : Int)) (8 + 2 * i + 1) R1 M L (by omega) (by omega) (hnw _ (by omega))) (fun r R9 M9 L9 hp _ hM9 => ?_)
      obtain ⟨rfl, -, rfl, rfl, rfl⟩ := hp
      refine fw_aast (i := 3) (n := 80) dX1_init_71 fw_cls0 (fun _ => rfl) (Or.inl rfl) (by decide) (ly_ch (by omega) (by omega) (by omega)) (by decide) (by show 8 + 2 * i + 1 + 1 ≤ 203; omega) ⟨by decide, by omega⟩ ⟨by omega, by show _ < ((8 + 2 * i + 1 + 1 : Nat) : Int); omega⟩ ⟨by omega, by omega⟩ ?_
      refine fw_iinc (ls2 := [_, _]) dX1_init_72 rfl ⟨by omega, by omega⟩ (by decide) rfl ?_
      refine fw_goto 53 dX1_init_75 (by decide) ?_
      have hgo := ih (i + 1) (8 + 2 * i + 1 + 1) (652 + 16 * i + 12 + 4) (fw_upd (fw_upd R1 (8 + 2 * (i : Int)) 0 (8 + 2 * (i : Int) + 1)) 2 i (8 + 2 * (i : Int))) (by omega) (by omega) (by omega) (by omega) ⟨fun j a b => ?_, fun j a b => ?_, fun x a b => ?_, fun k a => ?_⟩ (fun k hk => fw_nwu (by omega) (fw_nwu (by omega) (hnw k (by omega))))
      · exact hgo
      · rw [fw_updne (by decide), fw_updne (by omega)]; exact i1 j a b
      · rw [fw_updeq]
        by_cases hj : j = i
        · rw [if_pos hj, hj]
        · rw [if_neg hj, fw_updne (by omega)]; exact i2 j a (by omega)
      · rw [fw_updne (by omega)]
        by_cases hx : x = i
        · rw [hx, fw_updj]
        · rw [fw_updne (by omega)]; exact i3 x a (by omega)
      · rw [fw_updne (by omega), fw_updne (by omega)]; exact i4 k a

set_option maxRecDepth 20000 in
set_option maxHeartbeats 4000000 in
theorem sp_X1_init (R M : fw_F) (L : fw_G) (hnw : ∀ k : Nat, 2 ≤ k → fw_nw k R M L) : fw_SP mX1_init [fw_r 1] 2 R M L (fun r K2 R1 M2 L2 => r = none ∧ K2 = 168 ∧ ((∀ j : Int, 0 ≤ j → j < 6 → R1 1 j = 2 + j) ∧ (∀ j : Int, 0 ≤ j → j < 80 → R1 2 j = 8 + 2 * j) ∧ (∀ x : Int, 0 ≤ x → x < 80 → R1 (8 + 2 * x) 0 = 8 + 2 * x + 1) ∧ (∀ k : Int, k < 1 ∨ 168 ≤ k → R1 k = R k)) ∧ M2 = M ∧ L2 = L) := by
  refine fw_SP_of pl_X1_init (ls := [_]) rfl (Nat.le_of_ble_eq_true rfl) fun hA hM => ?_
  refine fw_aload_n dX1_init_0 rfl rfl ?_
  refine fw_obj dX1_init_1 ⟨lk_1_3, ow_1.1, ow_1.2⟩ ⟨by decide, by decide⟩ ?_
  refine fw_aload_n dX1_init_4 rfl rfl ?_
  refine fw_bipush dX1_init_5 ⟨by decide, by decide⟩ (by decide) ?_
  refine fw_newq (n := 80) (i := 3) 2 3 80 rfl rfl rfl dX1_init_7 rfl (by decide) qw_1_9 (fun _ h => h.1) (fun _ => rfl) (by decide) (by decide) ⟨by decide, by decide, by decide⟩ (hnw 2 (by decide)) ?_
  refine fw_putr 0 rfl dX1_init_10 fF_1_11 (fun _ => ⟨rfl, rfl⟩) rfl (by decide) rfl (by decide) ⟨by decide, by decide⟩ (by decide) ?_
  refine fw_aload_n dX1_init_13 rfl rfl ?_
  refine fw_bipush dX1_init_14 ⟨by decide, by decide⟩ (by decide) ?_
  refine fw_newi (n := 80) (i := 0) 3 4 160 rfl rfl rfl dX1_init_16 rfl (by decide) aw_0 (fun _ => rfl) (fun _ _ h => h) (fun _ => rfl) (by decide) (by decide) ⟨by decide, by decide, by decide⟩ (fw_nwu (by decide) (hnw 3 (by decide))) ?_
  refine fw_putr 1 rfl dX1_init_18 fF_1_17 (fun _ => ⟨rfl, rfl⟩) rfl (by decide) rfl (by decide) ⟨by decide, by decide⟩ (by decide) ?_
  refine fw_aload_n dX1_init_21 rfl rfl ?_
  refine fw_iconst dX1_init_22 ⟨by decide, by decide⟩ ?_
  refine fw_newi (n := 4) (i := 0) 4 5 164 rfl rfl rfl dX1_init_23 rfl (by decide) aw_0 (fun _ => rfl) (fun _ _ h => h) (fun _ => rfl) (by decide) (by decide) ⟨by decide, by decide, by decide⟩ (fw_nwu (by decide) (fw_nwu (by decide) (hnw 4 (by decide)))) ?_
  refine fw_putr 2 rfl dX1_init_25 fF_1_21 (fun _ => ⟨rfl, rfl⟩) rfl (by decide) rfl (by decide) ⟨by decide, by decide⟩ (by decide) ?_
  refine fw_aload_n dX1_init_28 rfl rfl ?_
  refine fw_sipush dX1_init_29 ⟨by decide, by decide⟩ (by decide) ?_
  refine fw_newi (n := 480) (i := 0) 5 6 644 rfl rfl rfl dX1_init_32 rfl (by decide) aw_0 (fun _ => rfl) (fun _ _ h => h) (fun _ => rfl) (by decide) (by decide) ⟨by decide, by decide, by decide⟩ (fw_nwu (by decide) (fw_nwu (by decide) (fw_nwu (by decide) (hnw 5 (by decide))))) ?_
  refine fw_putr 3 rfl dX1_init_34 fF_1_24 (fun _ => ⟨rfl, rfl⟩) rfl (by decide) rfl (by decide) ⟨by decide, by decide⟩ (by decide) ?_
  refine fw_aload_n dX1_init_37 rfl rfl ?_
  refine fw_iconst dX1_init_38 ⟨by decide, by decide⟩ ?_
  refine fw_newi (n := 4) (i := 0) 6 7 648 rfl rfl rfl dX1_init_39 rfl (by decide) aw_0 (fun _ => rfl) (fun _ _ h => h) (fun _ => rfl) (by decide) (by decide) ⟨by decide, by decide, by decide⟩ (fw_nwu (by decide) (fw_nwu (by decide) (fw_nwu (by decide) (fw_nwu (by decide) (hnw 6 (by decide)))))) ?_
  refine fw_putr 4 rfl dX1_init_41 fF_1_27 (fun _ => ⟨rfl, rfl⟩) rfl (by decide) rfl (by decide) ⟨by decide, by decide⟩ (by decide) ?_
  refine fw_aload_n dX1_init_44 rfl rfl ?_
  refine fw_iconst dX1_init_45 ⟨by decide, by decide⟩ ?_
  refine fw_newi (n := 4) (i := 0) 7 8 652 rfl rfl rfl dX1_init_46 rfl (by decide) aw_0 (fun _ => rfl) (fun _ _ h => h) (fun _ => rfl) (by decide) (by decide) ⟨by decide, by decide, by decide⟩ (fw_nwu (by decide) (fw_nwu (by decide) (fw_nwu (by decide) (fw_nwu (by decide) (fw_nwu (by decide) (hnw 7 (by decide))))))) ?_
  refine fw_putr 5 rfl dX1_init_48 fF_1_30 (fun _ => ⟨rfl, rfl⟩) rfl (by decide) rfl (by decide) ⟨by decide, by decide⟩ (by decide) ?_
  refine fw_iconst dX1_init_51 ⟨by decide, by decide⟩ ?_
  refine fw_istore_n (ls2 := [_, _]) dX1_init_52 rfl (by decide) rfl ?_
  refine lp_X1_init R M L 81 0 8 652 (fw_upd (fw_upd (fw_upd (fw_upd (fw_upd (fw_upd R 1 0 2) 1 1 3) 1 2 4) 1 3 5) 1 4 6) 1 5 7) (by decide) (by decide) rfl rfl ⟨fun j a b => ?_, fun j a b => by omega, fun x a b => by omega, fun k a => ?_⟩ (fun k hk => ?_)
  · rcases (show j = 0 ∨ j = 1 ∨ j = 2 ∨ j = 3 ∨ j = 4 ∨ j = 5 by omega) with rfl | rfl | rfl | rfl | rfl | rfl <;> simp [fw_upd]
  · simp (disch := omega) only [fw_updne]
  · exact fw_nwu (by omega) (fw_nwu (by omega) (fw_nwu (by omega) (fw_nwu (by omega) (fw_nwu (by omega) (fw_nwu (by omega) (hnw k (by omega)))))))
