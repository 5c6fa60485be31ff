set_option maxRecDepth 20000 in
set_option maxHeartbeats 4000000 in
theorem sp_X5_init (R M : fw_F) (L : fw_G) (hnw : ∀ k : Nat, 1 ≤ k → fw_nw k R M L) : fw_SP mX5_init [fw_r 0] 1 R M L (fw_q (fun r M2 L2 => r = none ∧ L2 = L ∧ (∀ k, 8 ≤ k → k < 179 → M2 k = M k) ∧ (∀ k, 191 ≤ k → ¬ k = 197 → ¬ k = 198 → M2 k = M k) ∧ (M2 0 7 = 2 ∧ (∀ j, ¬ j = 7 → M2 0 j = M 0 j)) ∧ (M2 198 4 = 0) ∧ (M2 1 6 = 0 ∧ M2 1 7 = 0) ∧ (∀ p, 0 ≤ p → p < 4 → M2 4 p = 0 ∧ M2 6 p = -9 ∧ M2 7 p = 20) ∧ (∀ z, 0 ≤ z → z < 16 → M2 5 z = 0) ∧ (∀ p, 0 ≤ p → p < 4 → M2 197 p = 20 ∧ ps_at M2 L2 (179 + 3 * p) [])) 203 fw_RC) := by
  refine fw_SP_of pl_X5_init (ls := [_]) rfl (Nat.le_of_ble_eq_true rfl) fun hA hM => ?_
  refine fw_aload_n dX5_init_0 rfl rfl ?_
  refine fw_obj dX5_init_1 ⟨lk_5_3, ow_1.1, ow_1.2⟩ ⟨by decide, by decide⟩ ?_
  refine fw_aload_n dX5_init_4 rfl rfl ?_
  refine fw_newo 1 2 8 rfl rfl rfl dX5_init_5 fw_cls1 df_1 nw_5_9 ly0_1 (by decide) ⟨by decide, by decide, by decide⟩ (hnw 1 (by decide)) ?_
  refine fw_dup dX5_init_8 rfl ?_
  refine fw_callI (Qc := (fun r K2 R1 M2 L2 => r = none ∧ K2 = 168 ∧ ((∀ j : Int, 0 ≤ j → j < 6 → R1 1 j = 2 + j) ∧ (∀ j : Int, 0 ≤ j → j < 80 → R1 2 j = 8 + 2 * j) ∧ (∀ x : Int, 0 ≤ x → x < 80 → R1 (8 + 2 * x) 0 = 8 + 2 * x + 1) ∧ (∀ k : Int, k < 1 ∨ 168 ≤ k → R1 k = R k)) ∧ M2 = M ∧ L2 = L)) (rest := [fw_r 1, fw_r 0]) mX1_init [] dX5_init_9 mv_X1_init.1 mv_X1_init.2 lk_5_11 ⟨by decide, by decide⟩ rfl (fun _ => by decide) rfl rfl (Nat.le_of_ble_eq_true rfl) ⟨by decide, by decide⟩ (sp_X1_init R M L (fun k hk => hnw k (by omega))) (fun r R1 M9 L9 hp _ hM9 => ?_)
  obtain ⟨rfl, -, ⟨i1, i2, i3, i4⟩, e1, e2⟩ := hp
  rw [e1, e2]
  have hn1 : ∀ k : Nat, 168 ≤ k → fw_nw k R1 M L := fun k hk j => by
    rw [i4 k (Or.inr (by omega))]
    exact hnw k (by omega) j
  show fw_WP mX5_init 1 12 [some (fw_r 0)] [fw_r 1, fw_r 0] 168 1940 R1 M L _
  refine fw_putr 0 rfl dX5_init_12 fF_5_12 (fun _ => ⟨rfl, rfl⟩) rfl ly0_0 rfl (by decide) ⟨by decide, by decide⟩ (by decide) ?_
  refine fw_aload_n dX5_init_15 rfl rfl ?_
  refine fw_newo 168 169 1950 rfl rfl rfl dX5_init_16 fw_cls4 df_4 nw_5_16 ly0_168 (by decide) ⟨by decide, by decide, by decide⟩ (fw_nwu (by decide) (hn1 168 (by decide))) ?_
  refine fw_dup dX5_init_19 rfl ?_
  refine fw_aload_n dX5_init_20 rfl rfl ?_
  refine fw_getr 0 1 rfl dX5_init_21 ff_5_12 ly0_0 ⟨by decide, by decide⟩ rfl rfl (by decide) ?_
  refine fw_callI (Qc := fun r K2 R2 M2 L2 => r = none ∧ K2 = 178 ∧ R2 = _ ∧ M2 = M ∧ L2 = L) (rest := [fw_r 168, fw_r 0]) mX4_init [fw_r 1] dX5_init_24 mv_X4_init.1 mv_X4_init.2 lk_5_18 ⟨by decide, by decide⟩ rfl (fun _ => by decide) rfl rfl (Nat.le_of_ble_eq_true rfl) ⟨by decide, by decide⟩ (sp_X4_init _ M L (fun k hk => fw_nwu (by omega) (hn1 k (by omega)))) (fun r R9 M9 L9 hp _ hM9 => ?_)
  obtain ⟨rfl, -, rfl, e1, e2⟩ := hp
  rw [e1, e2]
  clear e1 e2 hM9 M9 L9
  show fw_WP mX5_init 1 27 [some (fw_r 0)] [fw_r 168, fw_r 0] 178 2094 _ M L _
  refine fw_putr 1 rfl dX5_init_27 fF_5_21 (fun _ => ⟨rfl, rfl⟩) rfl ly0_0 rfl (by decide) ⟨by decide, by decide⟩ (by decide) ?_
  refine fw_aload_n dX5_init_30 rfl rfl ?_
  refine fw_iconst dX5_init_31 ⟨by decide, by decide⟩ ?_
  refine fw_newq (n := 4) (i := 4) 178 179 2098 rfl rfl rfl dX5_init_32 rfl (by decide) qw_5_25 (fun _ h => h.2) (fun _ => rfl) (by decide) ly0_178 ⟨by decide, by decide, by decide⟩ (fw_nwu (by decide) (fw_nwu (by decide) (fw_nwu (by decide) (fw_nwu (by decide) (fw_nwu (by decide) (fw_nwu (by decide) (fw_nwu (by decide) (fw_nwu (by decide) (fw_nwu (by decide) (fw_nwu (by decide) (fw_nwu (by decide) (fw_nwu (by decide) (hn1 178 (by decide)))))))))))))) ?_
  refine fw_putr 2 rfl dX5_init_35 fF_5_27 (fun _ => ⟨rfl, rfl⟩) rfl ly0_0 rfl (by decide) ⟨by decide, by decide⟩ (by decide) ?_
  refine fw_iconst dX5_init_38 ⟨by decide, by decide⟩ ?_
  refine fw_istore_n (ls2 := [_, _]) dX5_init_39 rfl (by decide) rfl ?_
  show fw_WP mX5_init 1 40 [some (fw_r 0), some (fw_i 0)] [] 179 2098 _ M L _
  refine fw_iload_n dX5_init_40 rfl rfl ?_
  refine fw_iconst dX5_init_41 ⟨by decide, by decide⟩ ?_
  refine fw_icmp_ge 67 dX5_init_42 (by decide) (fun h => absurd h (by decide)) (fun h => ?_)
  clear h
  refine fw_aload_n dX5_init_45 rfl rfl ?_
  refine fw_getr 2 178 rfl dX5_init_46 ff_5_27 ly0_0 ⟨by decide, by decide⟩ rfl (by simp [fw_upd]) (by decide) ?_
  refine fw_iload_n dX5_init_49 rfl rfl ?_
  refine fw_newo 179 180 2102 rfl rfl rfl dX5_init_50 fw_cls2 df_2 nw_5_25 ly0_179 (by decide) ⟨by decide, by decide, by decide⟩ (fw_nwu (by decide) (fw_nwu (by decide) (fw_nwu (by decide) (fw_nwu (by decide) (fw_nwu (by decide) (fw_nwu (by decide) (fw_nwu (by decide) (fw_nwu (by decide) (fw_nwu (by decide) (fw_nwu (by decide) (fw_nwu (by decide) (fw_nwu (by decide) (fw_nwu (by decide) (hn1 179 (by decide))))))))))))))) ?_
  refine fw_dup dX5_init_53 rfl ?_
  refine fw_sipush dX5_init_54 ⟨by decide, by decide⟩ (by decide) ?_
  refine fw_callI (Qc := fun r K2 R2 M2 L2 => r = none ∧ K2 = 182 ∧ R2 = _ ∧ M2 = M ∧ L2 = L) (rest := [fw_r 179, fw_i 0, fw_r 178]) (mX2_init 200) [fw_i 200] dX5_init_57 (mv_X2_initn 200).1 (mv_X2_initn 200).2 lk_5_31 ⟨by decide, by decide⟩ rfl (fun _ => by decide) rfl rfl (Nat.le_of_ble_eq_true rfl) ⟨by decide, by decide⟩ (sp_X2_init 200 (by decide) 179 180 _ M L (show fw_ps 179 200 from ps_kept (m := 0) (by decide) (by decide)) rfl (fun k hk => fw_nwu (by omega) (fw_nwu (by omega) (fw_nwu (by omega) (fw_nwu (by omega) (fw_nwu (by omega) (fw_nwu (by omega) (fw_nwu (by omega) (fw_nwu (by omega) (fw_nwu (by omega) (fw_nwu (by omega) (fw_nwu (by omega) (fw_nwu (by omega) (fw_nwu (by omega) (hn1 k (by omega)))))))))))))))) (fun r R9 M9 L9 hp _ hM9 => ?_)
  obtain ⟨rfl, -, rfl, e1, e2⟩ := hp
  rw [e1, e2]
  clear e1 e2 hM9 M9 L9
  refine fw_aast (i := 4) (n := 4) dX5_init_60 fw_cls2 (fun _ => rfl) (Or.inr rfl) ly0_178 ly0_179 (by decide) (by decide) ⟨by decide, by decide⟩ ⟨by decide, by decide⟩ ⟨by decide, by decide⟩ ?_
  refine fw_iinc (ls2 := [_, _]) dX5_init_61 rfl ⟨by decide, by decide⟩ (by decide) rfl ?_
  refine fw_goto 40 dX5_init_64 (by decide) ?_
  show fw_WP mX5_init 1 40 [some (fw_r 0), some (fw_i 1)] [] 182 2502 _ M L _
  refine fw_iload_n dX5_init_40 rfl rfl ?_
  refine fw_iconst dX5_init_41 ⟨by decide, by decide⟩ ?_
  refine fw_icmp_ge 67 dX5_init_42 (by decide) (fun h => absurd h (by decide)) (fun h => ?_)
  clear h
  refine fw_aload_n dX5_init_45 rfl rfl ?_
  refine fw_getr 2 178 rfl dX5_init_46 ff_5_27 ly0_0 ⟨by decide, by decide⟩ rfl (by simp [fw_upd]) (by decide) ?_
  refine fw_iload_n dX5_init_49 rfl rfl ?_
  refine fw_newo 182 183 2506 rfl rfl rfl dX5_init_50 fw_cls2 df_2 nw_5_25 ly0_182 (by decide) ⟨by decide, by decide, by decide⟩ (fw_nwu (by decide) (fw_nwu (by decide) (fw_nwu (by decide) (fw_nwu (by decide) (fw_nwu (by decide) (fw_nwu (by decide) (fw_nwu (by decide) (fw_nwu (by decide) (fw_nwu (by decide) (fw_nwu (by decide) (fw_nwu (by decide) (fw_nwu (by decide) (fw_nwu (by decide) (fw_nwu (by decide) (fw_nwu (by decide) (fw_nwu (by decide) (hn1 182 (by decide)))))))))))))))))) ?_
  refine fw_dup dX5_init_53 rfl ?_
  refine fw_sipush dX5_init_54 ⟨by decide, by decide⟩ (by decide) ?_
  refine fw_callI (Qc := fun r K2 R2 M2 L2 => r = none ∧ K2 = 185 ∧ R2 = _ ∧ M2 = M ∧ L2 = L) (rest := [fw_r 182, fw_i 1, fw_r 178]) (mX2_init 200) [fw_i 200] dX5_init_57 (mv_X2_initn 200).1 (mv_X2_initn 200).2 lk_5_31 ⟨by decide, by decide⟩ rfl (fun _ => by decide) rfl rfl (Nat.le_of_ble_eq_true rfl) ⟨by decide, by decide⟩ (sp_X2_init 200 (by decide) 182 183 _ M L (show fw_ps 182 200 from ps_kept (m := 1) (by decide) (by decide)) rfl (fun k hk => fw_nwu (by omega) (fw_nwu (by omega) (fw_nwu (by omega) (fw_nwu (by omega) (fw_nwu (by omega) (fw_nwu (by omega) (fw_nwu (by omega) (fw_nwu (by omega) (fw_nwu (by omega) (fw_nwu (by omega) (fw_nwu (by omega) (fw_nwu (by omega) (fw_nwu (by omega) (fw_nwu (by omega) (fw_nwu (by omega) (fw_nwu (by omega) (hn1 k (by omega))))))))))))))))))) (fun r R9 M9 L9 hp _ hM9 => ?_)
  obtain ⟨rfl, -, rfl, e1, e2⟩ := hp
  rw [e1, e2]
  clear e1 e2 hM9 M9 L9
  refine fw_aast (i := 4) (n := 4) dX5_init_60 fw_cls2 (fun _ => rfl) (Or.inr rfl) ly0_178 ly0_182 (by decide) (by decide) ⟨by decide, by decide⟩ ⟨by decide, by decide⟩ ⟨by decide, by decide⟩ ?_
  refine fw_iinc (ls2 := [_, _]) dX5_init_61 rfl ⟨by decide, by decide⟩ (by decide) rfl ?_
  refine fw_goto 40 dX5_init_64 (by decide) ?_
  show fw_WP mX5_init 1 40 [some (fw_r 0), some (fw_i 2)] [] 185 2906 _ M L _
  refine fw_iload_n dX5_init_40 rfl rfl ?_
  refine fw_iconst dX5_init_41 ⟨by decide, by decide⟩ ?_
  refine fw_icmp_ge 67 dX5_init_42 (by decide) (fun h => absurd h (by decide)) (fun h => ?_)
  clear h
  refine fw_aload_n dX5_init_45 rfl rfl ?_
  refine fw_getr 2 178 rfl dX5_init_46 ff_5_27 ly0_0 ⟨by decide, by decide⟩ rfl (by simp [fw_upd]) (by decide) ?_
  refine fw_iload_n dX5_init_49 rfl rfl ?_
  refine fw_newo 185 186 2910 rfl rfl rfl dX5_init_50 fw_cls2 df_2 nw_5_25 ly0_185 (by decide) ⟨by decide, by decide, by decide⟩ (fw_nwu (by decide) (fw_nwu (by decide) (fw_nwu (by decide) (fw_nwu (by decide) (fw_nwu (by decide) (fw_nwu (by decide) (fw_nwu (by decide) (fw_nwu (by decide) (fw_nwu (by decide) (fw_nwu (by decide) (fw_nwu (by decide) (fw_nwu (by decide) (fw_nwu (by decide) (fw_nwu (by decide) (fw_nwu (by decide) (fw_nwu (by decide) (fw_nwu (by decide) (fw_nwu (by decide) (fw_nwu (by decide) (hn1 185 (by decide))))))))))))))))))))) ?_
  refine fw_dup dX5_init_53 rfl ?_
  refine fw_sipush dX5_init_54 ⟨by decide, by decide⟩ (by decide) ?_
  refine fw_callI (Qc := fun r K2 R2 M2 L2 => r = none ∧ K2 = 188 ∧ R2 = _ ∧ M2 = M ∧ L2 = L) (rest := [fw_r 185, fw_i 2, fw_r 178]) (mX2_init 200) [fw_i 200] dX5_init_57 (mv_X2_initn 200).1 (mv_X2_initn 200).2 lk_5_31 ⟨by decide, by decide⟩ rfl (fun _ => by decide) rfl rfl (Nat.le_of_ble_eq_true rfl) ⟨by decide, by decide⟩ (sp_X2_init 200 (by decide) 185 186 _ M L (show fw_ps 185 200 from ps_kept (m := 2) (by decide) (by decide)) rfl (fun k hk => fw_nwu (by omega) (fw_nwu (by omega) (fw_nwu (by omega) (fw_nwu (by omega) (fw_nwu (by omega) (fw_nwu (by omega) (fw_nwu (by omega) (fw_nwu (by omega) (fw_nwu (by omega) (fw_nwu (by omega) (fw_nwu (by omega) (fw_nwu (by omega) (fw_nwu (by omega) (fw_nwu (by omega) (fw_nwu (by omega) (fw_nwu (by omega) (fw_nwu (by omega) (fw_nwu (by omega) (fw_nwu (by omega) (hn1 k (by omega)))))))))))))))))))))) (fun r R9 M9 L9 hp _ hM9 => ?_)
  obtain ⟨rfl, -, rfl, e1, e2⟩ := hp
  rw [e1, e2]
  clear e1 e2 hM9 M9 L9
  refine fw_aast (i := 4) (n := 4) dX5_init_60 fw_cls2 (fun _ => rfl) (Or.inr rfl) ly0_178 ly0_185 (by decide) (by decide) ⟨by decide, by decide⟩ ⟨by decide, by decide⟩ ⟨by decide, by decide⟩ ?_
  refine fw_iinc (ls2 := [_, _]) dX5_init_61 rfl ⟨by decide, by decide⟩ (by decide) rfl ?_
  refine fw_goto 40 dX5_init_64 (by decide) ?_
  show fw_WP mX5_init 1 40 [some (fw_r 0), some (fw_i 3)] [] 188 3310 _ M L _
  refine fw_iload_n dX5_init_40 rfl rfl ?_
  refine fw_iconst dX5_init_41 ⟨by decide, by decide⟩ ?_
  refine fw_icmp_ge 67 dX5_init_42 (by decide) (fun h => absurd h (by decide)) (fun h => ?_)
  clear h
  refine fw_aload_n dX5_init_45 rfl rfl ?_
  refine fw_getr 2 178 rfl dX5_init_46 ff_5_27 ly0_0 ⟨by decide, by decide⟩ rfl (by simp [fw_upd]) (by decide) ?_
  refine fw_iload_n dX5_init_49 rfl rfl ?_
  refine fw_newo 188 189 3314 rfl rfl rfl dX5_init_50 fw_cls2 df_2 nw_5_25 ly0_188 (by decide) ⟨by decide, by decide, by decide⟩ (fw_nwu (by decide) (fw_nwu (by decide) (fw_nwu (by decide) (fw_nwu (by decide) (fw_nwu (by decide) (fw_nwu (by decide) (fw_nwu (by decide) (fw_nwu (by decide) (fw_nwu (by decide) (fw_nwu (by decide) (fw_nwu (by decide) (fw_nwu (by decide) (fw_nwu (by decide) (fw_nwu (by decide) (fw_nwu (by decide) (fw_nwu (by decide) (fw_nwu (by decide) (fw_nwu (by decide) (fw_nwu (by decide) (fw_nwu (by decide) (fw_nwu (by decide) (fw_nwu (by decide) (hn1 188 (by decide)))))))))))))))))))))))) ?_
  refine fw_dup dX5_init_53 rfl ?_
  refine fw_sipush dX5_init_54 ⟨by decide, by decide⟩ (by decide) ?_
  refine fw_callI (Qc := fun r K2 R2 M2 L2 => r = none ∧ K2 = 191 ∧ R2 = _ ∧ M2 = M ∧ L2 = L) (rest := [fw_r 188, fw_i 3, fw_r 178]) (mX2_init 200) [fw_i 200] dX5_init_57 (mv_X2_initn 200).1 (mv_X2_initn 200).2 lk_5_31 ⟨by decide, by decide⟩ rfl (fun _ => by decide) rfl rfl (Nat.le_of_ble_eq_true rfl) ⟨by decide, by decide⟩ (sp_X2_init 200 (by decide) 188 189 _ M L (show fw_ps 188 200 from ps_kept (m := 3) (by decide) (by decide)) rfl (fun k hk => fw_nwu (by omega) (fw_nwu (by omega) (fw_nwu (by omega) (fw_nwu (by omega) (fw_nwu (by omega) (fw_nwu (by omega) (fw_nwu (by omega) (fw_nwu (by omega) (fw_nwu (by omega) (fw_nwu (by omega) (fw_nwu (by omega) (fw_nwu (by omega) (fw_nwu (by omega) (fw_nwu (by omega) (fw_nwu (by omega) (fw_nwu (by omega) (fw_nwu (by omega) (fw_nwu (by omega) (fw_nwu (by omega) (fw_nwu (by omega) (fw_nwu (by omega) (fw_nwu (by omega) (hn1 k (by omega))))))))))))))))))))))))) (fun r R9 M9 L9 hp _ hM9 => ?_)
  obtain ⟨rfl, -, rfl, e1, e2⟩ := hp
  rw [e1, e2]
  clear e1 e2 hM9 M9 L9
  refine fw_aast (i := 4) (n := 4) dX5_init_60 fw_cls2 (fun _ => rfl) (Or.inr rfl) ly0_178 ly0_188 (by decide) (by decide) ⟨by decide, by decide⟩ ⟨by decide, by decide⟩ ⟨by decide, by decide⟩ ?_
  refine fw_iinc (ls2 := [_, _]) dX5_init_61 rfl ⟨by decide, by decide⟩ (by decide) rfl ?_
  refine fw_goto 40 dX5_init_64 (by decide) ?_
  show fw_WP mX5_init 1 40 [some (fw_r 0), some (fw_i 4)] [] 191 3714 _ M L _
  refine fw_iload_n dX5_init_40 rfl rfl ?_
  refine fw_iconst dX5_init_41 ⟨by decide, by decide⟩ ?_
  refine fw_icmp_ge 67 dX5_init_42 (by decide) (fun h => ?_) (fun h => absurd (by decide) h)
  clear h
  refine fw_aload_n dX5_init_67 rfl rfl ?_
  refine fw_newo 191 192 3718 rfl rfl rfl dX5_init_68 fw_cls2 df_2 nw_5_25 ly0_191 (by decide) ⟨by decide, by decide, by decide⟩ (fw_nwu (by decide) (fw_nwu (by decide) (fw_nwu (by decide) (fw_nwu (by decide) (fw_nwu (by decide) (fw_nwu (by decide) (fw_nwu (by decide) (fw_nwu (by decide) (fw_nwu (by decide) (fw_nwu (by decide) (fw_nwu (by decide) (fw_nwu (by decide) (fw_nwu (by decide) (fw_nwu (by decide) (fw_nwu (by decide) (fw_nwu (by decide) (fw_nwu (by decide) (fw_nwu (by decide) (fw_nwu (by decide) (fw_nwu (by decide) (fw_nwu (by decide) (fw_nwu (by decide) (fw_nwu (by decide) (fw_nwu (by decide) (fw_nwu (by decide) (hn1 191 (by decide))))))))))))))))))))))))))) ?_
  refine fw_dup dX5_init_71 rfl ?_
  refine fw_bipush dX5_init_72 ⟨by decide, by decide⟩ (by decide) ?_
  refine fw_callI (Qc := fun r K2 R2 M2 L2 => r = none ∧ K2 = 194 ∧ R2 = _ ∧ M2 = M ∧ L2 = L) (rest := [fw_r 191, fw_r 0]) (mX2_init 32) [fw_i 32] dX5_init_74 (mv_X2_initn 32).1 (mv_X2_initn 32).2 lk_5_31 ⟨by decide, by decide⟩ rfl (fun _ => by decide) rfl rfl (Nat.le_of_ble_eq_true rfl) ⟨by decide, by decide⟩ (sp_X2_init 32 (by decide) 191 192 _ M L ps_191 rfl (fun k hk => fw_nwu (by omega) (fw_nwu (by omega) (fw_nwu (by omega) (fw_nwu (by omega) (fw_nwu (by omega) (fw_nwu (by omega) (fw_nwu (by omega) (fw_nwu (by omega) (fw_nwu (by omega) (fw_nwu (by omega) (fw_nwu (by omega) (fw_nwu (by omega) (fw_nwu (by omega) (fw_nwu (by omega) (fw_nwu (by omega) (fw_nwu (by omega) (fw_nwu (by omega) (fw_nwu (by omega) (fw_nwu (by omega) (fw_nwu (by omega) (fw_nwu (by omega) (fw_nwu (by omega) (fw_nwu (by omega) (fw_nwu (by omega) (fw_nwu (by omega) (hn1 k (by omega)))))))))))))))))))))))))))) (fun r R9 M9 L9 hp _ hM9 => ?_)
  obtain ⟨rfl, -, rfl, e1, e2⟩ := hp
  rw [e1, e2]
  clear e1 e2 hM9 M9 L9
  refine fw_putr 3 rfl dX5_init_77 fF_5_34 (fun _ => ⟨rfl, rfl⟩) rfl ly0_0 rfl (by decide) ⟨by decide, by decide⟩ (by decide) ?_
  refine fw_aload_n dX5_init_80 rfl rfl ?_
  refine fw_newo 194 195 3786 rfl rfl rfl dX5_init_81 fw_cls2 df_2 nw_5_25 ly0_194 (by decide) ⟨by decide, by decide, by decide⟩ (fw_nwu (by decide) (fw_nwu (by decide) (fw_nwu (by decide) (fw_nwu (by decide) (fw_nwu (by decide) (fw_nwu (by decide) (fw_nwu (by decide) (fw_nwu (by decide) (fw_nwu (by decide) (fw_nwu (by decide) (fw_nwu (by decide) (fw_nwu (by decide) (fw_nwu (by decide) (fw_nwu (by decide) (fw_nwu (by decide) (fw_nwu (by decide) (fw_nwu (by decide) (fw_nwu (by decide) (fw_nwu (by decide) (fw_nwu (by decide) (fw_nwu (by decide) (fw_nwu (by decide) (fw_nwu (by decide) (fw_nwu (by decide) (fw_nwu (by decide) (fw_nwu (by decide) (fw_nwu (by decide) (fw_nwu (by decide) (hn1 194 (by decide)))))))))))))))))))))))))))))) ?_
  refine fw_dup dX5_init_84 rfl ?_
  refine fw_sipush dX5_init_85 ⟨by decide, by decide⟩ (by decide) ?_
  refine fw_callI (Qc := fun r K2 R2 M2 L2 => r = none ∧ K2 = 197 ∧ R2 = _ ∧ M2 = M ∧ L2 = L) (rest := [fw_r 194, fw_r 0]) (mX2_init 384) [fw_i 384] dX5_init_88 (mv_X2_initn 384).1 (mv_X2_initn 384).2 lk_5_31 ⟨by decide, by decide⟩ rfl (fun _ => by decide) rfl rfl (Nat.le_of_ble_eq_true rfl) ⟨by decide, by decide⟩ (sp_X2_init 384 (by decide) 194 195 _ M L ps_194 rfl (fun k hk => fw_nwu (by omega) (fw_nwu (by omega) (fw_nwu (by omega) (fw_nwu (by omega) (fw_nwu (by omega) (fw_nwu (by omega) (fw_nwu (by omega) (fw_nwu (by omega) (fw_nwu (by omega) (fw_nwu (by omega) (fw_nwu (by omega) (fw_nwu (by omega) (fw_nwu (by omega) (fw_nwu (by omega) (fw_nwu (by omega) (fw_nwu (by omega) (fw_nwu (by omega) (fw_nwu (by omega) (fw_nwu (by omega) (fw_nwu (by omega) (fw_nwu (by omega) (fw_nwu (by omega) (fw_nwu (by omega) (fw_nwu (by omega) (fw_nwu (by omega) (fw_nwu (by omega) (fw_nwu (by omega) (fw_nwu (by omega) (hn1 k (by omega))))))))))))))))))))))))))))))) (fun r R9 M9 L9 hp _ hM9 => ?_)
  obtain ⟨rfl, -, rfl, e1, e2⟩ := hp
  rw [e1, e2]
  clear e1 e2 hM9 M9 L9
  show fw_WP mX5_init 1 91 [some (fw_r 0), some (fw_i 4)] [fw_r 194, fw_r 0] 197 4554 _ M L _
  refine fw_putr 4 rfl dX5_init_91 fF_5_38 (fun _ => ⟨rfl, rfl⟩) rfl ly0_0 rfl (by decide) ⟨by decide, by decide⟩ (by decide) ?_
  refine fw_aload_n dX5_init_94 rfl rfl ?_
  refine fw_iconst dX5_init_95 ⟨by decide, by decide⟩ ?_
  refine fw_newi (n := 4) (i := 0) 197 198 4558 rfl rfl rfl dX5_init_96 rfl (by decide) aw_0 (fun _ => rfl) (fun _ _ h => h) (fun _ => rfl) (by decide) ly0_197 ⟨by decide, by decide, by decide⟩ (fw_nwu (by decide) (fw_nwu (by decide) (fw_nwu (by decide) (fw_nwu (by decide) (fw_nwu (by decide) (fw_nwu (by decide) (fw_nwu (by decide) (fw_nwu (by decide) (fw_nwu (by decide) (fw_nwu (by decide) (fw_nwu (by decide) (fw_nwu (by decide) (fw_nwu (by decide) (fw_nwu (by decide) (fw_nwu (by decide) (fw_nwu (by decide) (fw_nwu (by decide) (fw_nwu (by decide) (fw_nwu (by decide) (fw_nwu (by decide) (fw_nwu (by decide) (fw_nwu (by decide) (fw_nwu (by decide) (fw_nwu (by decide) (fw_nwu (by decide) (fw_nwu (by decide) (fw_nwu (by decide) (fw_nwu (by decide) (fw_nwu (by decide) (fw_nwu (by decide) (fw_nwu (by decide) (hn1 197 (by decide))))))))))))))))))))))))))))))))) ?_
  refine fw_putr 5 rfl dX5_init_98 fF_5_41 (fun _ => ⟨rfl, rfl⟩) rfl ly0_0 rfl (by decide) ⟨by decide, by decide⟩ (by decide) ?_
  refine fw_aload_n dX5_init_101 rfl rfl ?_
  refine fw_newo 198 199 4563 rfl rfl rfl dX5_init_102 fw_cls3 df_3 nw_5_45 ly0_198 (by decide) ⟨by decide, by decide, by decide⟩ (fw_nwu (by decide) (fw_nwu (by decide) (fw_nwu (by decide) (fw_nwu (by decide) (fw_nwu (by decide) (fw_nwu (by decide) (fw_nwu (by decide) (fw_nwu (by decide) (fw_nwu (by decide) (fw_nwu (by decide) (fw_nwu (by decide) (fw_nwu (by decide) (fw_nwu (by decide) (fw_nwu (by decide) (fw_nwu (by decide) (fw_nwu (by decide) (fw_nwu (by decide) (fw_nwu (by decide) (fw_nwu (by decide) (fw_nwu (by decide) (fw_nwu (by decide) (fw_nwu (by decide) (fw_nwu (by decide) (fw_nwu (by decide) (fw_nwu (by decide) (fw_nwu (by decide) (fw_nwu (by decide) (fw_nwu (by decide) (fw_nwu (by decide) (fw_nwu (by decide) (fw_nwu (by decide) (fw_nwu (by decide) (hn1 198 (by decide)))))))))))))))))))))))))))))))))) ?_
  refine fw_dup dX5_init_105 rfl ?_
  refine fw_callIN (Qc := fun r K2 R2 M2 L2 => r = none ∧ K2 = 203 ∧ R2 = _ ∧ M2 = M ∧ L2 = L) (rest := [fw_r 198, fw_r 0]) mX3_init [] dX5_init_106 mv_X3_init.1 mv_X3_init.2 (fun s h => h.2.1) ⟨by decide, by decide⟩ rfl (fun _ => by decide) rfl rfl (Nat.le_of_ble_eq_true rfl) ⟨by decide, by decide⟩ (sp_X3_init _ M L (fun k hk => fw_nwu (by omega) (fw_nwu (by omega) (fw_nwu (by omega) (fw_nwu (by omega) (fw_nwu (by omega) (fw_nwu (by omega) (fw_nwu (by omega) (fw_nwu (by omega) (fw_nwu (by omega) (fw_nwu (by omega) (fw_nwu (by omega) (fw_nwu (by omega) (fw_nwu (by omega) (fw_nwu (by omega) (fw_nwu (by omega) (fw_nwu (by omega) (fw_nwu (by omega) (fw_nwu (by omega) (fw_nwu (by omega) (fw_nwu (by omega) (fw_nwu (by omega) (fw_nwu (by omega) (fw_nwu (by omega) (fw_nwu (by omega) (fw_nwu (by omega) (fw_nwu (by omega) (fw_nwu (by omega) (fw_nwu (by omega) (fw_nwu (by omega) (fw_nwu (by omega) (fw_nwu (by omega) (fw_nwu (by omega) (hn1 k (by omega))))))))))))))))))))))))))))))))))) (fun r R9 M9 L9 hp _ hM9 => ?_)
  obtain ⟨rfl, -, rfl, e1, e2⟩ := hp
  rw [e1, e2]
  clear e1 e2 hM9 M9 L9
  show fw_WP mX5_init 1 109 [some (fw_r 0), some (fw_i 4)] [fw_r 198, fw_r 0] 203 4643 _ M L _
  refine fw_putr 6 rfl dX5_init_109 fF_5_48 (fun _ => ⟨rfl, rfl⟩) rfl ly0_0 rfl (by decide) ⟨by decide, by decide⟩ (by decide) ?_
  refine fw_Rsw (R2 := fw_RC) (fun k hk f hf hs => ?_) (fun k hk a b => fw_atg1 a) fw_ftg2 ?_
  · rcases fw_sl0 hk hf hs with ⟨rfl, q⟩ | ⟨rfl, q⟩ | ⟨rfl, q⟩ | ⟨q, q1, q2, rfl⟩ | ⟨rfl, q⟩ | ⟨rfl, q⟩ | ⟨q, q1, q2, q3⟩ | ⟨rfl, q⟩
    · rcases (show f = 0 ∨ f = 1 ∨ f = 2 ∨ f = 3 ∨ f = 4 ∨ f = 5 ∨ f = 6 by omega) with rfl | rfl | rfl | rfl | rfl | rfl | rfl <;> simp [fw_upd] <;> rfl
    · simp (disch := decide) only [fw_updne]
      exact i1 f (by omega) (by omega)
    · simp (disch := decide) only [fw_updne]
      exact i2 f (by omega) (by omega)
    · obtain ⟨x, rfl⟩ : ∃ x : Nat, k = 8 + 2 * x := ⟨(k - 8) / 2, by omega⟩
      simp (disch := omega) only [fw_updne]
      rw [show ((8 + 2 * x : Nat) : Int) = 8 + 2 * (x : Int) by omega]
      exact (i3 x (by omega) (by omega)).trans (rc_ch (by omega) (by omega)).symm
    · rcases (show f = 0 ∨ f = 1 ∨ f = 2 ∨ f = 3 ∨ f = 4 ∨ f = 5 ∨ f = 6 ∨ f = 7 ∨ f = 8 ∨ f = 9 by omega) with rfl | rfl | rfl | rfl | rfl | rfl | rfl | rfl | rfl | rfl <;> simp [fw_upd] <;> rfl
    · rcases (show f = 0 ∨ f = 1 ∨ f = 2 ∨ f = 3 by omega) with rfl | rfl | rfl | rfl <;> simp [fw_upd] <;> rfl
    · rcases (show k = 179 ∨ k = 182 ∨ k = 185 ∨ k = 188 ∨ k = 191 ∨ k = 194 by omega) with rfl | rfl | rfl | rfl | rfl | rfl <;> rcases (show f = 0 ∨ f = 1 by omega) with rfl | rfl <;> simp [fw_upd] <;> rfl
    · rcases (show f = 0 ∨ f = 1 ∨ f = 2 ∨ f = 3 by omega) with rfl | rfl | rfl | rfl <;> simp [fw_upd] <;> rfl
  refine fw_aload_n dX5_init_112 rfl rfl ?_
  refine fw_iconst dX5_init_113 ⟨by decide, by decide⟩ ?_
  refine fw_cV mX5_beginAnew [_] dX5_init_114 mv_X5_beginAnew lk_5_52 ⟨⟨by decide, by decide⟩, rfl, rfl, rfl, by decide, by decide⟩ ly0_0 ⟨by decide, by decide⟩ rfl rfl (Nat.le_of_ble_eq_true rfl) (sp_X5_beginAnew 2 M L) (fun r M1 L1 hp hM1 => ?_)
  obtain ⟨rfl, hp⟩ := hp
  exact fw_vreturn dX5_init_117 rfl rfl rfl ⟨rfl, rfl, rfl, hp⟩
