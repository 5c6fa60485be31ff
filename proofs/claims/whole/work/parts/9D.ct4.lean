set_option maxRecDepth 20000 in
theorem fw_sl1 {k f : Nat} (hk : k < 30) (hf : f < (fw_lay 1 k).2) (h : ((fw_lay 1 k).1 < 10 ∧ fw_ftg (fw_lay 1 k).1 f = 2) ∨ 13 ≤ (fw_lay 1 k).1) : k = 0 ∧ (f = 5 ∨ f = 6 ∨ f = 7 ∨ f = 8 ∨ f = 9 ∨ f = 10 ∨ f = 11 ∨ f = 12 ∨ f = 13 ∨ f = 14 ∨ f = 15 ∨ f = 16 ∨ f = 17 ∨ f = 18 ∨ f = 19 ∨ f = 20 ∨ f = 21 ∨ f = 22 ∨ f = 23 ∨ f = 24 ∨ f = 25 ∨ f = 26 ∨ f = 27 ∨ f = 29 ∨ f = 30 ∨ f = 32 ∨ f = 33 ∨ f = 34 ∨ f = 35) := by
  have h1 : ∀ k : Fin 30, (10 ≤ (fw_lay 1 (k.val : Int)).1 ∧ (fw_lay 1 (k.val : Int)).1 < 13) ∨ (k.val = 0 ∧ fw_lay 1 (k.val : Int) = (6, 36)) := by decide +kernel
  have w6 : ∀ f : Fin 36, fw_ftg 6 f.val = 2 → f.val = 5 ∨ f.val = 6 ∨ f.val = 7 ∨ f.val = 8 ∨ f.val = 9 ∨ f.val = 10 ∨ f.val = 11 ∨ f.val = 12 ∨ f.val = 13 ∨ f.val = 14 ∨ f.val = 15 ∨ f.val = 16 ∨ f.val = 17 ∨ f.val = 18 ∨ f.val = 19 ∨ f.val = 20 ∨ f.val = 21 ∨ f.val = 22 ∨ f.val = 23 ∨ f.val = 24 ∨ f.val = 25 ∨ f.val = 26 ∨ f.val = 27 ∨ f.val = 29 ∨ f.val = 30 ∨ f.val = 32 ∨ f.val = 33 ∨ f.val = 34 ∨ f.val = 35 := by decide +kernel
  rcases h1 ⟨k, hk⟩ with q | ⟨q, e⟩
  · simp only at q
    omega
  · simp only at e q
    rw [e] at hf h
    simp only at hf h
    have := w6 ⟨f, hf⟩; simp only at this; rcases h with ⟨-, h⟩ | h
    · exact ⟨q, this h⟩
    · omega

set_option maxRecDepth 20000 in
set_option maxHeartbeats 4000000 in
theorem sp_X6_init (R M : fw_F) (L : fw_G) (hnw : ∀ k : Nat, 1 ≤ k → fw_nw k R M L) : fw_SP mX6_init [fw_r 0] 1 R M L (fw_q (fun r M2 L2 => r = none ∧ L2 = L ∧ (∀ k, ¬ k = 0 → ¬ k = 1 → ¬ k = 4 → ¬ k = 6 → ¬ k = 20 → ¬ k = 21 → M2 k = (fw_upd M 0 2 2) k) ∧ (M2 0 4 = 0 ∧ M2 0 31 = 0 ∧ ∀ j, ¬ j = 4 → ¬ j = 31 → M2 0 j = (fw_upd M 0 2 2) 0 j) ∧ (∀ p, 0 ≤ p → p < 4 → M2 1 p = 0 ∧ M2 6 p = -9 ∧ M2 20 p = 20 ∧ M2 21 p = 0) ∧ (∀ z, 0 ≤ z → z < 16 → M2 4 z = 0)) 30 fw_RD) := by
  refine fw_SP_of pl_X6_init (ls := [_]) rfl (Nat.le_of_ble_eq_true rfl) fun hA hM => ?_
  refine fw_aload_n dX6_init_0 rfl rfl ?_
  refine fw_obj dX6_init_1 ⟨lk_6_1, ow_1.1, ow_1.2⟩ ⟨by decide, by decide⟩ ?_
  refine fw_aload_n dX6_init_4 rfl rfl ?_
  refine fw_iconst dX6_init_5 ⟨by decide, by decide⟩ ?_
  refine fw_puti 2 rfl dX6_init_6 fp_6_7 (by decide) (by decide) ⟨by decide, by decide⟩ rfl ?_
  refine fw_aload_n dX6_init_9 rfl rfl ?_
  refine fw_iconst dX6_init_10 ⟨by decide, by decide⟩ ?_
  refine fw_newi (n := 4) (i := 0) 1 2 4 rfl rfl rfl dX6_init_11 rfl (by decide) aw_0 (fun _ => rfl) (fun _ _ h => h) (fun _ => rfl) (by decide) (by decide) ⟨by decide, by decide, by decide⟩ (fw_nwm (by decide) (hnw 1 (by decide))) ?_
  refine fw_putr 5 rfl dX6_init_13 fF_6_13 (fun _ => ⟨rfl, rfl⟩) rfl (by decide) rfl (by decide) ⟨by decide, by decide⟩ (by decide) ?_
  refine fw_aload_n dX6_init_16 rfl rfl ?_
  refine fw_sipush dX6_init_17 ⟨by decide, by decide⟩ (by decide) ?_
  refine fw_newi (n := 960) (i := 0) 2 3 964 rfl rfl rfl dX6_init_20 rfl (by decide) aw_0 (fun _ => rfl) (fun _ _ h => h) (fun _ => rfl) (by decide) (by decide) ⟨by decide, by decide, by decide⟩ (fw_nwu (by decide) (fw_nwm (by decide) (hnw 2 (by decide)))) ?_
  refine fw_putr 6 rfl dX6_init_22 fF_6_17 (fun _ => ⟨rfl, rfl⟩) rfl (by decide) rfl (by decide) ⟨by decide, by decide⟩ (by decide) ?_
  refine fw_aload_n dX6_init_25 rfl rfl ?_
  refine fw_bipush dX6_init_26 ⟨by decide, by decide⟩ (by decide) ?_
  refine fw_newi (n := 80) (i := 2) 3 4 1044 rfl rfl rfl dX6_init_28 rfl (by decide) aw_2 (fun _ => rfl) (fun _ _ h => h) (fun _ => rfl) (by decide) (by decide) ⟨by decide, by decide, by decide⟩ (fw_nwu (by decide) (fw_nwu (by decide) (fw_nwm (by decide) (hnw 3 (by decide))))) ?_
  refine fw_putr 7 rfl dX6_init_30 fF_6_20 (fun _ => ⟨rfl, rfl⟩) rfl (by decide) rfl (by decide) ⟨by decide, by decide⟩ (by decide) ?_
  refine fw_aload_n dX6_init_33 rfl rfl ?_
  refine fw_bipush dX6_init_34 ⟨by decide, by decide⟩ (by decide) ?_
  refine fw_newi (n := 16) (i := 0) 4 5 1060 rfl rfl rfl dX6_init_36 rfl (by decide) aw_0 (fun _ => rfl) (fun _ _ h => h) (fun _ => rfl) (by decide) (by decide) ⟨by decide, by decide, by decide⟩ (fw_nwu (by decide) (fw_nwu (by decide) (fw_nwu (by decide) (fw_nwm (by decide) (hnw 4 (by decide)))))) ?_
  refine fw_putr 8 rfl dX6_init_38 fF_6_24 (fun _ => ⟨rfl, rfl⟩) rfl (by decide) rfl (by decide) ⟨by decide, by decide⟩ (by decide) ?_
  refine fw_aload_n dX6_init_41 rfl rfl ?_
  refine fw_sipush dX6_init_42 ⟨by decide, by decide⟩ (by decide) ?_
  refine fw_newi (n := 480) (i := 0) 5 6 1540 rfl rfl rfl dX6_init_45 rfl (by decide) aw_0 (fun _ => rfl) (fun _ _ h => h) (fun _ => rfl) (by decide) (by decide) ⟨by decide, by decide, by decide⟩ (fw_nwu (by decide) (fw_nwu (by decide) (fw_nwu (by decide) (fw_nwu (by decide) (fw_nwm (by decide) (hnw 5 (by decide))))))) ?_
  refine fw_putr 9 rfl dX6_init_47 fF_6_27 (fun _ => ⟨rfl, rfl⟩) rfl (by decide) rfl (by decide) ⟨by decide, by decide⟩ (by decide) ?_
  refine fw_aload_n dX6_init_50 rfl rfl ?_
  refine fw_iconst dX6_init_51 ⟨by decide, by decide⟩ ?_
  refine fw_newi (n := 4) (i := 0) 6 7 1544 rfl rfl rfl dX6_init_52 rfl (by decide) aw_0 (fun _ => rfl) (fun _ _ h => h) (fun _ => rfl) (by decide) (by decide) ⟨by decide, by decide, by decide⟩ (fw_nwu (by decide) (fw_nwu (by decide) (fw_nwu (by decide) (fw_nwu (by decide) (fw_nwu (by decide) (fw_nwm (by decide) (hnw 6 (by decide)))))))) ?_
  refine fw_putr 10 rfl dX6_init_54 fF_6_30 (fun _ => ⟨rfl, rfl⟩) rfl (by decide) rfl (by decide) ⟨by decide, by decide⟩ (by decide) ?_
  refine fw_aload_n dX6_init_57 rfl rfl ?_
  refine fw_iconst dX6_init_58 ⟨by decide, by decide⟩ ?_
  refine fw_newi (n := 4) (i := 0) 7 8 1548 rfl rfl rfl dX6_init_59 rfl (by decide) aw_0 (fun _ => rfl) (fun _ _ h => h) (fun _ => rfl) (by decide) (by decide) ⟨by decide, by decide, by decide⟩ (fw_nwu (by decide) (fw_nwu (by decide) (fw_nwu (by decide) (fw_nwu (by decide) (fw_nwu (by decide) (fw_nwu (by decide) (fw_nwm (by decide) (hnw 7 (by decide))))))))) ?_
  refine fw_putr 11 rfl dX6_init_61 fF_6_33 (fun _ => ⟨rfl, rfl⟩) rfl (by decide) rfl (by decide) ⟨by decide, by decide⟩ (by decide) ?_
  refine fw_aload_n dX6_init_64 rfl rfl ?_
  refine fw_iconst dX6_init_65 ⟨by decide, by decide⟩ ?_
  refine fw_newi (n := 4) (i := 0) 8 9 1552 rfl rfl rfl dX6_init_66 rfl (by decide) aw_0 (fun _ => rfl) (fun _ _ h => h) (fun _ => rfl) (by decide) (by decide) ⟨by decide, by decide, by decide⟩ (fw_nwu (by decide) (fw_nwu (by decide) (fw_nwu (by decide) (fw_nwu (by decide) (fw_nwu (by decide) (fw_nwu (by decide) (fw_nwu (by decide) (fw_nwm (by decide) (hnw 8 (by decide)))))))))) ?_
  refine fw_putr 12 rfl dX6_init_68 fF_6_36 (fun _ => ⟨rfl, rfl⟩) rfl (by decide) rfl (by decide) ⟨by decide, by decide⟩ (by decide) ?_
  refine fw_aload_n dX6_init_71 rfl rfl ?_
  refine fw_iconst dX6_init_72 ⟨by decide, by decide⟩ ?_
  refine fw_newi (n := 4) (i := 0) 9 10 1556 rfl rfl rfl dX6_init_73 rfl (by decide) aw_0 (fun _ => rfl) (fun _ _ h => h) (fun _ => rfl) (by decide) (by decide) ⟨by decide, by decide, by decide⟩ (fw_nwu (by decide) (fw_nwu (by decide) (fw_nwu (by decide) (fw_nwu (by decide) (fw_nwu (by decide) (fw_nwu (by decide) (fw_nwu (by decide) (fw_nwu (by decide) (fw_nwm (by decide) (hnw 9 (by decide))))))))))) ?_
  refine fw_putr 13 rfl dX6_init_75 fF_6_39 (fun _ => ⟨rfl, rfl⟩) rfl (by decide) rfl (by decide) ⟨by decide, by decide⟩ (by decide) ?_
  refine fw_aload_n dX6_init_78 rfl rfl ?_
  refine fw_bipush dX6_init_79 ⟨by decide, by decide⟩ (by decide) ?_
  refine fw_newi (n := 12) (i := 1) 10 11 1568 rfl rfl rfl dX6_init_81 rfl (by decide) aw_1 (fun _ => rfl) (fun _ _ h => h) (fun _ => rfl) (by decide) (by decide) ⟨by decide, by decide, by decide⟩ (fw_nwu (by decide) (fw_nwu (by decide) (fw_nwu (by decide) (fw_nwu (by decide) (fw_nwu (by decide) (fw_nwu (by decide) (fw_nwu (by decide) (fw_nwu (by decide) (fw_nwu (by decide) (fw_nwm (by decide) (hnw 10 (by decide)))))))))))) ?_
  refine fw_putr 14 rfl dX6_init_83 fF_6_42 (fun _ => ⟨rfl, rfl⟩) rfl (by decide) rfl (by decide) ⟨by decide, by decide⟩ (by decide) ?_
  refine fw_aload_n dX6_init_86 rfl rfl ?_
  refine fw_bipush dX6_init_87 ⟨by decide, by decide⟩ (by decide) ?_
  refine fw_newi (n := 12) (i := 1) 11 12 1580 rfl rfl rfl dX6_init_89 rfl (by decide) aw_1 (fun _ => rfl) (fun _ _ h => h) (fun _ => rfl) (by decide) (by decide) ⟨by decide, by decide, by decide⟩ (fw_nwu (by decide) (fw_nwu (by decide) (fw_nwu (by decide) (fw_nwu (by decide) (fw_nwu (by decide) (fw_nwu (by decide) (fw_nwu (by decide) (fw_nwu (by decide) (fw_nwu (by decide) (fw_nwu (by decide) (fw_nwm (by decide) (hnw 11 (by decide))))))))))))) ?_
  refine fw_putr 15 rfl dX6_init_91 fF_6_46 (fun _ => ⟨rfl, rfl⟩) rfl (by decide) rfl (by decide) ⟨by decide, by decide⟩ (by decide) ?_
  refine fw_aload_n dX6_init_94 rfl rfl ?_
  refine fw_bipush dX6_init_95 ⟨by decide, by decide⟩ (by decide) ?_
  refine fw_newi (n := 12) (i := 0) 12 13 1592 rfl rfl rfl dX6_init_97 rfl (by decide) aw_0 (fun _ => rfl) (fun _ _ h => h) (fun _ => rfl) (by decide) (by decide) ⟨by decide, by decide, by decide⟩ (fw_nwu (by decide) (fw_nwu (by decide) (fw_nwu (by decide) (fw_nwu (by decide) (fw_nwu (by decide) (fw_nwu (by decide) (fw_nwu (by decide) (fw_nwu (by decide) (fw_nwu (by decide) (fw_nwu (by decide) (fw_nwu (by decide) (fw_nwm (by decide) (hnw 12 (by decide)))))))))))))) ?_
  refine fw_putr 16 rfl dX6_init_99 fF_6_49 (fun _ => ⟨rfl, rfl⟩) rfl (by decide) rfl (by decide) ⟨by decide, by decide⟩ (by decide) ?_
  refine fw_aload_n dX6_init_102 rfl rfl ?_
  refine fw_bipush dX6_init_103 ⟨by decide, by decide⟩ (by decide) ?_
  refine fw_newi (n := 12) (i := 0) 13 14 1604 rfl rfl rfl dX6_init_105 rfl (by decide) aw_0 (fun _ => rfl) (fun _ _ h => h) (fun _ => rfl) (by decide) (by decide) ⟨by decide, by decide, by decide⟩ (fw_nwu (by decide) (fw_nwu (by decide) (fw_nwu (by decide) (fw_nwu (by decide) (fw_nwu (by decide) (fw_nwu (by decide) (fw_nwu (by decide) (fw_nwu (by decide) (fw_nwu (by decide) (fw_nwu (by decide) (fw_nwu (by decide) (fw_nwu (by decide) (fw_nwm (by decide) (hnw 13 (by decide))))))))))))))) ?_
  refine fw_putr 17 rfl dX6_init_107 fF_6_52 (fun _ => ⟨rfl, rfl⟩) rfl (by decide) rfl (by decide) ⟨by decide, by decide⟩ (by decide) ?_
  refine fw_aload_n dX6_init_110 rfl rfl ?_
  refine fw_bipush dX6_init_111 ⟨by decide, by decide⟩ (by decide) ?_
  refine fw_newi (n := 12) (i := 0) 14 15 1616 rfl rfl rfl dX6_init_113 rfl (by decide) aw_0 (fun _ => rfl) (fun _ _ h => h) (fun _ => rfl) (by decide) (by decide) ⟨by decide, by decide, by decide⟩ (fw_nwu (by decide) (fw_nwu (by decide) (fw_nwu (by decide) (fw_nwu (by decide) (fw_nwu (by decide) (fw_nwu (by decide) (fw_nwu (by decide) (fw_nwu (by decide) (fw_nwu (by decide) (fw_nwu (by decide) (fw_nwu (by decide) (fw_nwu (by decide) (fw_nwu (by decide) (fw_nwm (by decide) (hnw 14 (by decide)))))))))))))))) ?_
  refine fw_putr 18 rfl dX6_init_115 fF_6_55 (fun _ => ⟨rfl, rfl⟩) rfl (by decide) rfl (by decide) ⟨by decide, by decide⟩ (by decide) ?_
  refine fw_aload_n dX6_init_118 rfl rfl ?_
  refine fw_bipush dX6_init_119 ⟨by decide, by decide⟩ (by decide) ?_
  refine fw_newi (n := 12) (i := 0) 15 16 1628 rfl rfl rfl dX6_init_121 rfl (by decide) aw_0 (fun _ => rfl) (fun _ _ h => h) (fun _ => rfl) (by decide) (by decide) ⟨by decide, by decide, by decide⟩ (fw_nwu (by decide) (fw_nwu (by decide) (fw_nwu (by decide) (fw_nwu (by decide) (fw_nwu (by decide) (fw_nwu (by decide) (fw_nwu (by decide) (fw_nwu (by decide) (fw_nwu (by decide) (fw_nwu (by decide) (fw_nwu (by decide) (fw_nwu (by decide) (fw_nwu (by decide) (fw_nwu (by decide) (fw_nwm (by decide) (hnw 15 (by decide))))))))))))))))) ?_
  refine fw_putr 19 rfl dX6_init_123 fF_6_58 (fun _ => ⟨rfl, rfl⟩) rfl (by decide) rfl (by decide) ⟨by decide, by decide⟩ (by decide) ?_
  refine fw_aload_n dX6_init_126 rfl rfl ?_
  refine fw_bipush dX6_init_127 ⟨by decide, by decide⟩ (by decide) ?_
  refine fw_newi (n := 12) (i := 0) 16 17 1640 rfl rfl rfl dX6_init_129 rfl (by decide) aw_0 (fun _ => rfl) (fun _ _ h => h) (fun _ => rfl) (by decide) (by decide) ⟨by decide, by decide, by decide⟩ (fw_nwu (by decide) (fw_nwu (by decide) (fw_nwu (by decide) (fw_nwu (by decide) (fw_nwu (by decide) (fw_nwu (by decide) (fw_nwu (by decide) (fw_nwu (by decide) (fw_nwu (by decide) (fw_nwu (by decide) (fw_nwu (by decide) (fw_nwu (by decide) (fw_nwu (by decide) (fw_nwu (by decide) (fw_nwu (by decide) (fw_nwm (by decide) (hnw 16 (by decide)))))))))))))))))) ?_
  refine fw_putr 20 rfl dX6_init_131 fF_6_61 (fun _ => ⟨rfl, rfl⟩) rfl (by decide) rfl (by decide) ⟨by decide, by decide⟩ (by decide) ?_
  refine fw_aload_n dX6_init_134 rfl rfl ?_
  refine fw_bipush dX6_init_135 ⟨by decide, by decide⟩ (by decide) ?_
  refine fw_newi (n := 12) (i := 0) 17 18 1652 rfl rfl rfl dX6_init_137 rfl (by decide) aw_0 (fun _ => rfl) (fun _ _ h => h) (fun _ => rfl) (by decide) (by decide) ⟨by decide, by decide, by decide⟩ (fw_nwu (by decide) (fw_nwu (by decide) (fw_nwu (by decide) (fw_nwu (by decide) (fw_nwu (by decide) (fw_nwu (by decide) (fw_nwu (by decide) (fw_nwu (by decide) (fw_nwu (by decide) (fw_nwu (by decide) (fw_nwu (by decide) (fw_nwu (by decide) (fw_nwu (by decide) (fw_nwu (by decide) (fw_nwu (by decide) (fw_nwu (by decide) (fw_nwm (by decide) (hnw 17 (by decide))))))))))))))))))) ?_
  refine fw_putr 21 rfl dX6_init_139 fF_6_64 (fun _ => ⟨rfl, rfl⟩) rfl (by decide) rfl (by decide) ⟨by decide, by decide⟩ (by decide) ?_
  refine fw_aload_n dX6_init_142 rfl rfl ?_
  refine fw_sipush dX6_init_143 ⟨by decide, by decide⟩ (by decide) ?_
  refine fw_newi (n := 192) (i := 0) 18 19 1844 rfl rfl rfl dX6_init_146 rfl (by decide) aw_0 (fun _ => rfl) (fun _ _ h => h) (fun _ => rfl) (by decide) (by decide) ⟨by decide, by decide, by decide⟩ (fw_nwu (by decide) (fw_nwu (by decide) (fw_nwu (by decide) (fw_nwu (by decide) (fw_nwu (by decide) (fw_nwu (by decide) (fw_nwu (by decide) (fw_nwu (by decide) (fw_nwu (by decide) (fw_nwu (by decide) (fw_nwu (by decide) (fw_nwu (by decide) (fw_nwu (by decide) (fw_nwu (by decide) (fw_nwu (by decide) (fw_nwu (by decide) (fw_nwu (by decide) (fw_nwm (by decide) (hnw 18 (by decide)))))))))))))))))))) ?_
  refine fw_putr 22 rfl dX6_init_148 fF_6_67 (fun _ => ⟨rfl, rfl⟩) rfl (by decide) rfl (by decide) ⟨by decide, by decide⟩ (by decide) ?_
  refine fw_aload_n dX6_init_151 rfl rfl ?_
  refine fw_bipush dX6_init_152 ⟨by decide, by decide⟩ (by decide) ?_
  refine fw_newi (n := 12) (i := 1) 19 20 1856 rfl rfl rfl dX6_init_154 rfl (by decide) aw_1 (fun _ => rfl) (fun _ _ h => h) (fun _ => rfl) (by decide) (by decide) ⟨by decide, by decide, by decide⟩ (fw_nwu (by decide) (fw_nwu (by decide) (fw_nwu (by decide) (fw_nwu (by decide) (fw_nwu (by decide) (fw_nwu (by decide) (fw_nwu (by decide) (fw_nwu (by decide) (fw_nwu (by decide) (fw_nwu (by decide) (fw_nwu (by decide) (fw_nwu (by decide) (fw_nwu (by decide) (fw_nwu (by decide) (fw_nwu (by decide) (fw_nwu (by decide) (fw_nwu (by decide) (fw_nwu (by decide) (fw_nwm (by decide) (hnw 19 (by decide))))))))))))))))))))) ?_
  refine fw_putr 23 rfl dX6_init_156 fF_6_70 (fun _ => ⟨rfl, rfl⟩) rfl (by decide) rfl (by decide) ⟨by decide, by decide⟩ (by decide) ?_
  refine fw_aload_n dX6_init_159 rfl rfl ?_
  refine fw_iconst dX6_init_160 ⟨by decide, by decide⟩ ?_
  refine fw_newi (n := 4) (i := 0) 20 21 1860 rfl rfl rfl dX6_init_161 rfl (by decide) aw_0 (fun _ => rfl) (fun _ _ h => h) (fun _ => rfl) (by decide) (by decide) ⟨by decide, by decide, by decide⟩ (fw_nwu (by decide) (fw_nwu (by decide) (fw_nwu (by decide) (fw_nwu (by decide) (fw_nwu (by decide) (fw_nwu (by decide) (fw_nwu (by decide) (fw_nwu (by decide) (fw_nwu (by decide) (fw_nwu (by decide) (fw_nwu (by decide) (fw_nwu (by decide) (fw_nwu (by decide) (fw_nwu (by decide) (fw_nwu (by decide) (fw_nwu (by decide) (fw_nwu (by decide) (fw_nwu (by decide) (fw_nwu (by decide) (fw_nwm (by decide) (hnw 20 (by decide)))))))))))))))))))))) ?_
  refine fw_putr 24 rfl dX6_init_163 fF_6_73 (fun _ => ⟨rfl, rfl⟩) rfl (by decide) rfl (by decide) ⟨by decide, by decide⟩ (by decide) ?_
  refine fw_aload_n dX6_init_166 rfl rfl ?_
  refine fw_iconst dX6_init_167 ⟨by decide, by decide⟩ ?_
  refine fw_newi (n := 4) (i := 0) 21 22 1864 rfl rfl rfl dX6_init_168 rfl (by decide) aw_0 (fun _ => rfl) (fun _ _ h => h) (fun _ => rfl) (by decide) (by decide) ⟨by decide, by decide, by decide⟩ (fw_nwu (by decide) (fw_nwu (by decide) (fw_nwu (by decide) (fw_nwu (by decide) (fw_nwu (by decide) (fw_nwu (by decide) (fw_nwu (by decide) (fw_nwu (by decide) (fw_nwu (by decide) (fw_nwu (by decide) (fw_nwu (by decide) (fw_nwu (by decide) (fw_nwu (by decide) (fw_nwu (by decide) (fw_nwu (by decide) (fw_nwu (by decide) (fw_nwu (by decide) (fw_nwu (by decide) (fw_nwu (by decide) (fw_nwu (by decide) (fw_nwm (by decide) (hnw 21 (by decide))))))))))))))))))))))) ?_
  refine fw_putr 25 rfl dX6_init_170 fF_6_76 (fun _ => ⟨rfl, rfl⟩) rfl (by decide) rfl (by decide) ⟨by decide, by decide⟩ (by decide) ?_
  refine fw_aload_n dX6_init_173 rfl rfl ?_
  refine fw_sipush dX6_init_174 ⟨by decide, by decide⟩ (by decide) ?_
  refine fw_newi (n := 800) (i := 2) 22 23 2664 rfl rfl rfl dX6_init_177 rfl (by decide) aw_2 (fun _ => rfl) (fun _ _ h => h) (fun _ => rfl) (by decide) (by decide) ⟨by decide, by decide, by decide⟩ (fw_nwu (by decide) (fw_nwu (by decide) (fw_nwu (by decide) (fw_nwu (by decide) (fw_nwu (by decide) (fw_nwu (by decide) (fw_nwu (by decide) (fw_nwu (by decide) (fw_nwu (by decide) (fw_nwu (by decide) (fw_nwu (by decide) (fw_nwu (by decide) (fw_nwu (by decide) (fw_nwu (by decide) (fw_nwu (by decide) (fw_nwu (by decide) (fw_nwu (by decide) (fw_nwu (by decide) (fw_nwu (by decide) (fw_nwu (by decide) (fw_nwu (by decide) (fw_nwm (by decide) (hnw 22 (by decide)))))))))))))))))))))))) ?_
  refine fw_putr 26 rfl dX6_init_179 fF_6_79 (fun _ => ⟨rfl, rfl⟩) rfl (by decide) rfl (by decide) ⟨by decide, by decide⟩ (by decide) ?_
  refine fw_aload_n dX6_init_182 rfl rfl ?_
  refine fw_sipush dX6_init_183 ⟨by decide, by decide⟩ (by decide) ?_
  refine fw_newi (n := 800) (i := 0) 23 24 3464 rfl rfl rfl dX6_init_186 rfl (by decide) aw_0 (fun _ => rfl) (fun _ _ h => h) (fun _ => rfl) (by decide) (by decide) ⟨by decide, by decide, by decide⟩ (fw_nwu (by decide) (fw_nwu (by decide) (fw_nwu (by decide) (fw_nwu (by decide) (fw_nwu (by decide) (fw_nwu (by decide) (fw_nwu (by decide) (fw_nwu (by decide) (fw_nwu (by decide) (fw_nwu (by decide) (fw_nwu (by decide) (fw_nwu (by decide) (fw_nwu (by decide) (fw_nwu (by decide) (fw_nwu (by decide) (fw_nwu (by decide) (fw_nwu (by decide) (fw_nwu (by decide) (fw_nwu (by decide) (fw_nwu (by decide) (fw_nwu (by decide) (fw_nwu (by decide) (fw_nwm (by decide) (hnw 23 (by decide))))))))))))))))))))))))) ?_
  refine fw_putr 27 rfl dX6_init_188 fF_6_82 (fun _ => ⟨rfl, rfl⟩) rfl (by decide) rfl (by decide) ⟨by decide, by decide⟩ (by decide) ?_
  refine fw_aload_n dX6_init_191 rfl rfl ?_
  refine fw_sipush dX6_init_192 ⟨by decide, by decide⟩ (by decide) ?_
  refine fw_newi (n := 704) (i := 2) 24 25 4168 rfl rfl rfl dX6_init_195 rfl (by decide) aw_2 (fun _ => rfl) (fun _ _ h => h) (fun _ => rfl) (by decide) (by decide) ⟨by decide, by decide, by decide⟩ (fw_nwu (by decide) (fw_nwu (by decide) (fw_nwu (by decide) (fw_nwu (by decide) (fw_nwu (by decide) (fw_nwu (by decide) (fw_nwu (by decide) (fw_nwu (by decide) (fw_nwu (by decide) (fw_nwu (by decide) (fw_nwu (by decide) (fw_nwu (by decide) (fw_nwu (by decide) (fw_nwu (by decide) (fw_nwu (by decide) (fw_nwu (by decide) (fw_nwu (by decide) (fw_nwu (by decide) (fw_nwu (by decide) (fw_nwu (by decide) (fw_nwu (by decide) (fw_nwu (by decide) (fw_nwu (by decide) (fw_nwm (by decide) (hnw 24 (by decide)))))))))))))))))))))))))) ?_
  refine fw_putr 29 rfl dX6_init_197 fF_6_85 (fun _ => ⟨rfl, rfl⟩) rfl (by decide) rfl (by decide) ⟨by decide, by decide⟩ (by decide) ?_
  refine fw_aload_n dX6_init_200 rfl rfl ?_
  refine fw_sipush dX6_init_201 ⟨by decide, by decide⟩ (by decide) ?_
  refine fw_newi (n := 704) (i := 0) 25 26 4872 rfl rfl rfl dX6_init_204 rfl (by decide) aw_0 (fun _ => rfl) (fun _ _ h => h) (fun _ => rfl) (by decide) (by decide) ⟨by decide, by decide, by decide⟩ (fw_nwu (by decide) (fw_nwu (by decide) (fw_nwu (by decide) (fw_nwu (by decide) (fw_nwu (by decide) (fw_nwu (by decide) (fw_nwu (by decide) (fw_nwu (by decide) (fw_nwu (by decide) (fw_nwu (by decide) (fw_nwu (by decide) (fw_nwu (by decide) (fw_nwu (by decide) (fw_nwu (by decide) (fw_nwu (by decide) (fw_nwu (by decide) (fw_nwu (by decide) (fw_nwu (by decide) (fw_nwu (by decide) (fw_nwu (by decide) (fw_nwu (by decide) (fw_nwu (by decide) (fw_nwu (by decide) (fw_nwu (by decide) (fw_nwm (by decide) (hnw 25 (by decide))))))))))))))))))))))))))) ?_
  refine fw_putr 30 rfl dX6_init_206 fF_6_88 (fun _ => ⟨rfl, rfl⟩) rfl (by decide) rfl (by decide) ⟨by decide, by decide⟩ (by decide) ?_
  refine fw_aload_n dX6_init_209 rfl rfl ?_
  refine fw_bipush dX6_init_210 ⟨by decide, by decide⟩ (by decide) ?_
  refine fw_newi (n := 20) (i := 0) 26 27 4892 rfl rfl rfl dX6_init_212 rfl (by decide) aw_0 (fun _ => rfl) (fun _ _ h => h) (fun _ => rfl) (by decide) (by decide) ⟨by decide, by decide, by decide⟩ (fw_nwu (by decide) (fw_nwu (by decide) (fw_nwu (by decide) (fw_nwu (by decide) (fw_nwu (by decide) (fw_nwu (by decide) (fw_nwu (by decide) (fw_nwu (by decide) (fw_nwu (by decide) (fw_nwu (by decide) (fw_nwu (by decide) (fw_nwu (by decide) (fw_nwu (by decide) (fw_nwu (by decide) (fw_nwu (by decide) (fw_nwu (by decide) (fw_nwu (by decide) (fw_nwu (by decide) (fw_nwu (by decide) (fw_nwu (by decide) (fw_nwu (by decide) (fw_nwu (by decide) (fw_nwu (by decide) (fw_nwu (by decide) (fw_nwu (by decide) (fw_nwm (by decide) (hnw 26 (by decide)))))))))))))))))))))))))))) ?_
  refine fw_putr 32 rfl dX6_init_214 fF_6_91 (fun _ => ⟨rfl, rfl⟩) rfl (by decide) rfl (by decide) ⟨by decide, by decide⟩ (by decide) ?_
  refine fw_aload_n dX6_init_217 rfl rfl ?_
  refine fw_bipush dX6_init_218 ⟨by decide, by decide⟩ (by decide) ?_
  refine fw_newi (n := 20) (i := 0) 27 28 4912 rfl rfl rfl dX6_init_220 rfl (by decide) aw_0 (fun _ => rfl) (fun _ _ h => h) (fun _ => rfl) (by decide) (by decide) ⟨by decide, by decide, by decide⟩ (fw_nwu (by decide) (fw_nwu (by decide) (fw_nwu (by decide) (fw_nwu (by decide) (fw_nwu (by decide) (fw_nwu (by decide) (fw_nwu (by decide) (fw_nwu (by decide) (fw_nwu (by decide) (fw_nwu (by decide) (fw_nwu (by decide) (fw_nwu (by decide) (fw_nwu (by decide) (fw_nwu (by decide) (fw_nwu (by decide) (fw_nwu (by decide) (fw_nwu (by decide) (fw_nwu (by decide) (fw_nwu (by decide) (fw_nwu (by decide) (fw_nwu (by decide) (fw_nwu (by decide) (fw_nwu (by decide) (fw_nwu (by decide) (fw_nwu (by decide) (fw_nwu (by decide) (fw_nwm (by decide) (hnw 27 (by decide))))))))))))))))))))))))))))) ?_
  refine fw_putr 33 rfl dX6_init_222 fF_6_94 (fun _ => ⟨rfl, rfl⟩) rfl (by decide) rfl (by decide) ⟨by decide, by decide⟩ (by decide) ?_
  refine fw_aload_n dX6_init_225 rfl rfl ?_
  refine fw_bipush dX6_init_226 ⟨by decide, by decide⟩ (by decide) ?_
  refine fw_newi (n := 20) (i := 0) 28 29 4932 rfl rfl rfl dX6_init_228 rfl (by decide) aw_0 (fun _ => rfl) (fun _ _ h => h) (fun _ => rfl) (by decide) (by decide) ⟨by decide, by decide, by decide⟩ (fw_nwu (by decide) (fw_nwu (by decide) (fw_nwu (by decide) (fw_nwu (by decide) (fw_nwu (by decide) (fw_nwu (by decide) (fw_nwu (by decide) (fw_nwu (by decide) (fw_nwu (by decide) (fw_nwu (by decide) (fw_nwu (by decide) (fw_nwu (by decide) (fw_nwu (by decide) (fw_nwu (by decide) (fw_nwu (by decide) (fw_nwu (by decide) (fw_nwu (by decide) (fw_nwu (by decide) (fw_nwu (by decide) (fw_nwu (by decide) (fw_nwu (by decide) (fw_nwu (by decide) (fw_nwu (by decide) (fw_nwu (by decide) (fw_nwu (by decide) (fw_nwu (by decide) (fw_nwu (by decide) (fw_nwm (by decide) (hnw 28 (by decide)))))))))))))))))))))))))))))) ?_
  refine fw_putr 34 rfl dX6_init_230 fF_6_97 (fun _ => ⟨rfl, rfl⟩) rfl (by decide) rfl (by decide) ⟨by decide, by decide⟩ (by decide) ?_
  refine fw_aload_n dX6_init_233 rfl rfl ?_
  refine fw_bipush dX6_init_234 ⟨by decide, by decide⟩ (by decide) ?_
  refine fw_newi (n := 20) (i := 0) 29 30 4952 rfl rfl rfl dX6_init_236 rfl (by decide) aw_0 (fun _ => rfl) (fun _ _ h => h) (fun _ => rfl) (by decide) (by decide) ⟨by decide, by decide, by decide⟩ (fw_nwu (by decide) (fw_nwu (by decide) (fw_nwu (by decide) (fw_nwu (by decide) (fw_nwu (by decide) (fw_nwu (by decide) (fw_nwu (by decide) (fw_nwu (by decide) (fw_nwu (by decide) (fw_nwu (by decide) (fw_nwu (by decide) (fw_nwu (by decide) (fw_nwu (by decide) (fw_nwu (by decide) (fw_nwu (by decide) (fw_nwu (by decide) (fw_nwu (by decide) (fw_nwu (by decide) (fw_nwu (by decide) (fw_nwu (by decide) (fw_nwu (by decide) (fw_nwu (by decide) (fw_nwu (by decide) (fw_nwu (by decide) (fw_nwu (by decide) (fw_nwu (by decide) (fw_nwu (by decide) (fw_nwu (by decide) (fw_nwm (by decide) (hnw 29 (by decide))))))))))))))))))))))))))))))) ?_
  refine fw_putr 35 rfl dX6_init_238 fF_6_100 (fun _ => ⟨rfl, rfl⟩) rfl (by decide) rfl (by decide) ⟨by decide, by decide⟩ (by decide) ?_
  refine fw_Rsw (R2 := fw_RD) (fun k hk f hf hs => ?_) (fun k hk a b => fw_atg1 a) fw_ftg2 ?_
  · obtain ⟨rfl, q⟩ := fw_sl1 hk hf hs
    rcases q with rfl | rfl | rfl | rfl | rfl | rfl | rfl | rfl | rfl | rfl | rfl | rfl | rfl | rfl | rfl | rfl | rfl | rfl | rfl | rfl | rfl | rfl | rfl | rfl | rfl | rfl | rfl | rfl | rfl <;> simp [fw_upd] <;> rfl
  refine fw_aload_n dX6_init_241 rfl rfl ?_
  refine fw_cV mX6_begins [] dX6_init_242 mv_X6_begins lk_6_103 ⟨⟨by decide, by decide⟩, rfl, rfl, rfl, by decide, by decide⟩ ly1_0 ⟨by decide, by decide⟩ rfl rfl (Nat.le_of_ble_eq_true rfl) (sp_X6_begins (fw_upd M 0 2 2) L) (fun r M1 L1 hp hM1 => ?_)
  obtain ⟨rfl, hp⟩ := hp
  exact fw_vreturn dX6_init_245 rfl rfl rfl ⟨rfl, rfl, rfl, hp⟩
