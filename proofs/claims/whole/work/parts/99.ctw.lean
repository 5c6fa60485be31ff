/-! words of the constructors -/
set_option maxRecDepth 20000 in
theorem df_0 : fw_df 0 12 tyX0 := by
  intro j hj b
  have h : ∀ i : Fin 12, defaultValue (tyX0 i.val) = (match fw_ftg 0 i.val with | 0 => .int 0 | 1 => .long 0 | _ => .null) := by decide
  have h2 := h ⟨j, hj⟩
  rw [show defaultValue (tyX0 j) = _ from h2]
  have h3 : fw_ftg 0 j = 0 ∨ fw_ftg 0 j = 1 ∨ fw_ftg 0 j = 2 := (by decide : ∀ i : Fin 12, fw_ftg 0 i.val = 0 ∨ fw_ftg 0 i.val = 1 ∨ fw_ftg 0 i.val = 2) ⟨j, hj⟩
  rcases h3 with h3 | h3 | h3 <;> rw [h3] <;> rfl
set_option maxRecDepth 20000 in
theorem df_1 : fw_df 1 8 tyX1 := by
  intro j hj b
  have h : ∀ i : Fin 8, defaultValue (tyX1 i.val) = (match fw_ftg 1 i.val with | 0 => .int 0 | 1 => .long 0 | _ => .null) := by decide
  have h2 := h ⟨j, hj⟩
  rw [show defaultValue (tyX1 j) = _ from h2]
  have h3 : fw_ftg 1 j = 0 ∨ fw_ftg 1 j = 1 ∨ fw_ftg 1 j = 2 := (by decide : ∀ i : Fin 8, fw_ftg 1 i.val = 0 ∨ fw_ftg 1 i.val = 1 ∨ fw_ftg 1 i.val = 2) ⟨j, hj⟩
  rcases h3 with h3 | h3 | h3 <;> rw [h3] <;> rfl
set_option maxRecDepth 20000 in
theorem df_2 : fw_df 2 4 tyX2 := by
  intro j hj b
  have h : ∀ i : Fin 4, defaultValue (tyX2 i.val) = (match fw_ftg 2 i.val with | 0 => .int 0 | 1 => .long 0 | _ => .null) := by decide
  have h2 := h ⟨j, hj⟩
  rw [show defaultValue (tyX2 j) = _ from h2]
  have h3 : fw_ftg 2 j = 0 ∨ fw_ftg 2 j = 1 ∨ fw_ftg 2 j = 2 := (by decide : ∀ i : Fin 4, fw_ftg 2 i.val = 0 ∨ fw_ftg 2 i.val = 1 ∨ fw_ftg 2 i.val = 2) ⟨j, hj⟩
  rcases h3 with h3 | h3 | h3 <;> rw [h3] <;> rfl
set_option maxRecDepth 20000 in
theorem df_3 : fw_df 3 5 tyX3 := by
  intro j hj b
  have h : ∀ i : Fin 5, defaultValue (tyX3 i.val) = (match fw_ftg 3 i.val with | 0 => .int 0 | 1 => .long 0 | _ => .null) := by decide
  have h2 := h ⟨j, hj⟩
  rw [show defaultValue (tyX3 j) = _ from h2]
  have h3 : fw_ftg 3 j = 0 ∨ fw_ftg 3 j = 1 ∨ fw_ftg 3 j = 2 := (by decide : ∀ i : Fin 5, fw_ftg 3 i.val = 0 ∨ fw_ftg 3 i.val = 1 ∨ fw_ftg 3 i.val = 2) ⟨j, hj⟩
  rcases h3 with h3 | h3 | h3 <;> rw [h3] <;> rfl
set_option maxRecDepth 20000 in
theorem df_4 : fw_df 4 10 tyX4 := by
  intro j hj b
  have h : ∀ i : Fin 10, defaultValue (tyX4 i.val) = (match fw_ftg 4 i.val with | 0 => .int 0 | 1 => .long 0 | _ => .null) := by decide
  have h2 := h ⟨j, hj⟩
  rw [show defaultValue (tyX4 j) = _ from h2]
  have h3 : fw_ftg 4 j = 0 ∨ fw_ftg 4 j = 1 ∨ fw_ftg 4 j = 2 := (by decide : ∀ i : Fin 10, fw_ftg 4 i.val = 0 ∨ fw_ftg 4 i.val = 1 ∨ fw_ftg 4 i.val = 2) ⟨j, hj⟩
  rcases h3 with h3 | h3 | h3 <;> rw [h3] <;> rfl
set_option maxRecDepth 20000 in
theorem df_5 : fw_df 5 10 tyX5 := by
  intro j hj b
  have h : ∀ i : Fin 10, defaultValue (tyX5 i.val) = (match fw_ftg 5 i.val with | 0 => .int 0 | 1 => .long 0 | _ => .null) := by decide
  have h2 := h ⟨j, hj⟩
  rw [show defaultValue (tyX5 j) = _ from h2]
  have h3 : fw_ftg 5 j = 0 ∨ fw_ftg 5 j = 1 ∨ fw_ftg 5 j = 2 := (by decide : ∀ i : Fin 10, fw_ftg 5 i.val = 0 ∨ fw_ftg 5 i.val = 1 ∨ fw_ftg 5 i.val = 2) ⟨j, hj⟩
  rcases h3 with h3 | h3 | h3 <;> rw [h3] <;> rfl
set_option maxRecDepth 20000 in
theorem df_6 : fw_df 6 36 tyX6 := by
  intro j hj b
  have h : ∀ i : Fin 36, defaultValue (tyX6 i.val) = (match fw_ftg 6 i.val with | 0 => .int 0 | 1 => .long 0 | _ => .null) := by decide
  have h2 := h ⟨j, hj⟩
  rw [show defaultValue (tyX6 j) = _ from h2]
  have h3 : fw_ftg 6 j = 0 ∨ fw_ftg 6 j = 1 ∨ fw_ftg 6 j = 2 := (by decide : ∀ i : Fin 36, fw_ftg 6 i.val = 0 ∨ fw_ftg 6 i.val = 1 ∨ fw_ftg 6 i.val = 2) ⟨j, hj⟩
  rcases h3 with h3 | h3 | h3 <;> rw [h3] <;> rfl
theorem ow_1 : Cond.instanceMethod Lib.objectInit ∈ fw_tbl ∧ Cond.code Lib.objectInit ⟨#[0xb1]⟩ 1 none ∈ fw_tbl := ⟨fw_mem 80 (by decide +kernel) rfl, fw_mem 81 (by decide +kernel) rfl⟩
theorem aw_0 : Cond.arrayClass .int ∈ fw_tbl := fw_mem 148 (by decide +kernel) rfl
theorem aw_1 : Cond.arrayClass .boolean ∈ fw_tbl := fw_mem 222 (by decide +kernel) rfl
theorem aw_2 : Cond.arrayClass .long ∈ fw_tbl := fw_mem 250 (by decide +kernel) rfl
theorem fF_0_9 : fw_fldF 0 9 0 12 0 (tyX0 0) := ⟨_, _, _, fw_cls0, by decide, fw_mem 95 (by decide +kernel) rfl, by decide, rfl, rfl, rfl⟩
theorem qw_1_9 : Cond.classLink (fw_cn 1) 9 "FolderRows$Change" ∈ fw_tbl := fw_mem 88 (by decide +kernel) rfl
theorem fF_1_11 : fw_fldF 1 11 1 8 0 (tyX1 0) := ⟨_, _, _, fw_cls1, by decide, fw_mem 149 (by decide +kernel) rfl, by decide, rfl, rfl, rfl⟩
theorem fF_1_17 : fw_fldF 1 17 1 8 1 (tyX1 1) := ⟨_, _, _, fw_cls1, by decide, fw_mem 151 (by decide +kernel) rfl, by decide, rfl, rfl, rfl⟩
theorem fF_1_21 : fw_fldF 1 21 1 8 2 (tyX1 2) := ⟨_, _, _, fw_cls1, by decide, fw_mem 152 (by decide +kernel) rfl, by decide, rfl, rfl, rfl⟩
theorem fF_1_24 : fw_fldF 1 24 1 8 3 (tyX1 3) := ⟨_, _, _, fw_cls1, by decide, fw_mem 154 (by decide +kernel) rfl, by decide, rfl, rfl, rfl⟩
theorem fF_1_27 : fw_fldF 1 27 1 8 4 (tyX1 4) := ⟨_, _, _, fw_cls1, by decide, fw_mem 155 (by decide +kernel) rfl, by decide, rfl, rfl, rfl⟩
theorem fF_1_30 : fw_fldF 1 30 1 8 5 (tyX1 5) := ⟨_, _, _, fw_cls1, by decide, fw_mem 157 (by decide +kernel) rfl, by decide, rfl, rfl, rfl⟩
theorem nw_1_9 : Cond.classLink (fw_cn 1) 9 RX0 ∈ fw_tbl ∧ Cond.instantiable RX0 12 ∈ fw_tbl ∧ Cond.initialized RX0 ∈ fw_tbl := ⟨fw_mem 88 (by decide +kernel) rfl, fw_mem 90 (by decide +kernel) rfl, fw_mem 67 (by decide +kernel) rfl⟩
theorem fF_2_15 : fw_fldF 2 15 2 4 0 (tyX2 0) := ⟨_, _, _, fw_cls2, by decide, fw_mem 233 (by decide +kernel) rfl, by decide, rfl, rfl, rfl⟩
theorem fF_2_21 : fw_fldF 2 21 2 4 1 (tyX2 1) := ⟨_, _, _, fw_cls2, by decide, fw_mem 235 (by decide +kernel) rfl, by decide, rfl, rfl, rfl⟩
theorem fF_3_9 : fw_fldF 3 9 3 5 0 (tyX3 0) := ⟨_, _, _, fw_cls3, by decide, fw_mem 257 (by decide +kernel) rfl, by decide, rfl, rfl, rfl⟩
theorem fF_3_15 : fw_fldF 3 15 3 5 1 (tyX3 1) := ⟨_, _, _, fw_cls3, by decide, fw_mem 258 (by decide +kernel) rfl, by decide, rfl, rfl, rfl⟩
theorem fF_3_18 : fw_fldF 3 18 3 5 2 (tyX3 2) := ⟨_, _, _, fw_cls3, by decide, fw_mem 260 (by decide +kernel) rfl, by decide, rfl, rfl, rfl⟩
theorem fF_3_21 : fw_fldF 3 21 3 5 3 (tyX3 3) := ⟨_, _, _, fw_cls3, by decide, fw_mem 262 (by decide +kernel) rfl, by decide, rfl, rfl, rfl⟩
theorem fF_4_9 : fw_fldF 4 9 4 10 1 (tyX4 1) := ⟨_, _, _, fw_cls4, by decide, fw_mem 188 (by decide +kernel) rfl, by decide, rfl, rfl, rfl⟩
theorem fF_4_15 : fw_fldF 4 15 4 10 2 (tyX4 2) := ⟨_, _, _, fw_cls4, by decide, fw_mem 189 (by decide +kernel) rfl, by decide, rfl, rfl, rfl⟩
theorem fF_4_18 : fw_fldF 4 18 4 10 3 (tyX4 3) := ⟨_, _, _, fw_cls4, by decide, fw_mem 190 (by decide +kernel) rfl, by decide, rfl, rfl, rfl⟩
theorem fF_4_22 : fw_fldF 4 22 4 10 4 (tyX4 4) := ⟨_, _, _, fw_cls4, by decide, fw_mem 192 (by decide +kernel) rfl, by decide, rfl, rfl, rfl⟩
theorem fF_4_25 : fw_fldF 4 25 4 10 5 (tyX4 5) := ⟨_, _, _, fw_cls4, by decide, fw_mem 194 (by decide +kernel) rfl, by decide, rfl, rfl, rfl⟩
theorem fF_4_28 : fw_fldF 4 28 4 10 6 (tyX4 6) := ⟨_, _, _, fw_cls4, by decide, fw_mem 195 (by decide +kernel) rfl, by decide, rfl, rfl, rfl⟩
theorem fF_4_31 : fw_fldF 4 31 4 10 7 (tyX4 7) := ⟨_, _, _, fw_cls4, by decide, fw_mem 197 (by decide +kernel) rfl, by decide, rfl, rfl, rfl⟩
theorem fF_4_34 : fw_fldF 4 34 4 10 8 (tyX4 8) := ⟨_, _, _, fw_cls4, by decide, fw_mem 198 (by decide +kernel) rfl, by decide, rfl, rfl, rfl⟩
theorem fF_4_37 : fw_fldF 4 37 4 10 9 (tyX4 9) := ⟨_, _, _, fw_cls4, by decide, fw_mem 200 (by decide +kernel) rfl, by decide, rfl, rfl, rfl⟩
theorem fF_4_40 : fw_fldF 4 40 4 10 0 (tyX4 0) := ⟨_, _, _, fw_cls4, by decide, fw_mem 187 (by decide +kernel) rfl, by decide, rfl, rfl, rfl⟩
theorem nw_5_9 : Cond.classLink (fw_cn 5) 9 RX1 ∈ fw_tbl ∧ Cond.instantiable RX1 8 ∈ fw_tbl ∧ Cond.initialized RX1 ∈ fw_tbl := ⟨fw_mem 82 (by decide +kernel) rfl, fw_mem 83 (by decide +kernel) rfl, fw_mem 66 (by decide +kernel) rfl⟩
theorem fF_5_12 : fw_fldF 5 12 5 10 0 (tyX5 0) := ⟨_, _, _, fw_cls5, by decide, fw_mem 289 (by decide +kernel) rfl, by decide, rfl, rfl, rfl⟩
theorem nw_5_16 : Cond.classLink (fw_cn 5) 16 RX4 ∈ fw_tbl ∧ Cond.instantiable RX4 10 ∈ fw_tbl ∧ Cond.initialized RX4 ∈ fw_tbl := ⟨fw_mem 181 (by decide +kernel) rfl, fw_mem 182 (by decide +kernel) rfl, fw_mem 68 (by decide +kernel) rfl⟩
theorem fF_5_21 : fw_fldF 5 21 5 10 1 (tyX5 1) := ⟨_, _, _, fw_cls5, by decide, fw_mem 290 (by decide +kernel) rfl, by decide, rfl, rfl, rfl⟩
theorem qw_5_25 : Cond.classLink (fw_cn 5) 25 "FolderRows$PieceSet" ∈ fw_tbl := fw_mem 223 (by decide +kernel) rfl
theorem fF_5_27 : fw_fldF 5 27 5 10 2 (tyX5 2) := ⟨_, _, _, fw_cls5, by decide, fw_mem 291 (by decide +kernel) rfl, by decide, rfl, rfl, rfl⟩
theorem nw_5_25 : Cond.classLink (fw_cn 5) 25 RX2 ∈ fw_tbl ∧ Cond.instantiable RX2 4 ∈ fw_tbl ∧ Cond.initialized RX2 ∈ fw_tbl := ⟨fw_mem 223 (by decide +kernel) rfl, fw_mem 225 (by decide +kernel) rfl, fw_mem 69 (by decide +kernel) rfl⟩
theorem fF_5_34 : fw_fldF 5 34 5 10 3 (tyX5 3) := ⟨_, _, _, fw_cls5, by decide, fw_mem 292 (by decide +kernel) rfl, by decide, rfl, rfl, rfl⟩
theorem fF_5_38 : fw_fldF 5 38 5 10 4 (tyX5 4) := ⟨_, _, _, fw_cls5, by decide, fw_mem 293 (by decide +kernel) rfl, by decide, rfl, rfl, rfl⟩
theorem fF_5_41 : fw_fldF 5 41 5 10 5 (tyX5 5) := ⟨_, _, _, fw_cls5, by decide, fw_mem 294 (by decide +kernel) rfl, by decide, rfl, rfl, rfl⟩
theorem nw_5_45 : Cond.classLink (fw_cn 5) 45 RX3 ∈ fw_tbl ∧ Cond.instantiable RX3 5 ∈ fw_tbl ∧ Cond.initialized RX3 ∈ fw_tbl := ⟨fw_mem 251 (by decide +kernel) rfl, fw_mem 252 (by decide +kernel) rfl, fw_mem 71 (by decide +kernel) rfl⟩
theorem fF_5_48 : fw_fldF 5 48 5 10 6 (tyX5 6) := ⟨_, _, _, fw_cls5, by decide, fw_mem 295 (by decide +kernel) rfl, by decide, rfl, rfl, rfl⟩
theorem fF_6_13 : fw_fldF 6 13 6 36 5 (tyX6 5) := ⟨_, _, _, fw_cls6, by decide, fw_mem 780 (by decide +kernel) rfl, by decide, rfl, rfl, rfl⟩
theorem fF_6_17 : fw_fldF 6 17 6 36 6 (tyX6 6) := ⟨_, _, _, fw_cls6, by decide, fw_mem 781 (by decide +kernel) rfl, by decide, rfl, rfl, rfl⟩
theorem fF_6_20 : fw_fldF 6 20 6 36 7 (tyX6 7) := ⟨_, _, _, fw_cls6, by decide, fw_mem 782 (by decide +kernel) rfl, by decide, rfl, rfl, rfl⟩
theorem fF_6_24 : fw_fldF 6 24 6 36 8 (tyX6 8) := ⟨_, _, _, fw_cls6, by decide, fw_mem 783 (by decide +kernel) rfl, by decide, rfl, rfl, rfl⟩
theorem fF_6_27 : fw_fldF 6 27 6 36 9 (tyX6 9) := ⟨_, _, _, fw_cls6, by decide, fw_mem 784 (by decide +kernel) rfl, by decide, rfl, rfl, rfl⟩
theorem fF_6_30 : fw_fldF 6 30 6 36 10 (tyX6 10) := ⟨_, _, _, fw_cls6, by decide, fw_mem 785 (by decide +kernel) rfl, by decide, rfl, rfl, rfl⟩
theorem fF_6_33 : fw_fldF 6 33 6 36 11 (tyX6 11) := ⟨_, _, _, fw_cls6, by decide, fw_mem 786 (by decide +kernel) rfl, by decide, rfl, rfl, rfl⟩
theorem fF_6_36 : fw_fldF 6 36 6 36 12 (tyX6 12) := ⟨_, _, _, fw_cls6, by decide, fw_mem 787 (by decide +kernel) rfl, by decide, rfl, rfl, rfl⟩
theorem fF_6_39 : fw_fldF 6 39 6 36 13 (tyX6 13) := ⟨_, _, _, fw_cls6, by decide, fw_mem 788 (by decide +kernel) rfl, by decide, rfl, rfl, rfl⟩
theorem fF_6_42 : fw_fldF 6 42 6 36 14 (tyX6 14) := ⟨_, _, _, fw_cls6, by decide, fw_mem 789 (by decide +kernel) rfl, by decide, rfl, rfl, rfl⟩
theorem fF_6_46 : fw_fldF 6 46 6 36 15 (tyX6 15) := ⟨_, _, _, fw_cls6, by decide, fw_mem 790 (by decide +kernel) rfl, by decide, rfl, rfl, rfl⟩
theorem fF_6_49 : fw_fldF 6 49 6 36 16 (tyX6 16) := ⟨_, _, _, fw_cls6, by decide, fw_mem 791 (by decide +kernel) rfl, by decide, rfl, rfl, rfl⟩
theorem fF_6_52 : fw_fldF 6 52 6 36 17 (tyX6 17) := ⟨_, _, _, fw_cls6, by decide, fw_mem 792 (by decide +kernel) rfl, by decide, rfl, rfl, rfl⟩
theorem fF_6_55 : fw_fldF 6 55 6 36 18 (tyX6 18) := ⟨_, _, _, fw_cls6, by decide, fw_mem 793 (by decide +kernel) rfl, by decide, rfl, rfl, rfl⟩
theorem fF_6_58 : fw_fldF 6 58 6 36 19 (tyX6 19) := ⟨_, _, _, fw_cls6, by decide, fw_mem 794 (by decide +kernel) rfl, by decide, rfl, rfl, rfl⟩
theorem fF_6_61 : fw_fldF 6 61 6 36 20 (tyX6 20) := ⟨_, _, _, fw_cls6, by decide, fw_mem 795 (by decide +kernel) rfl, by decide, rfl, rfl, rfl⟩
theorem fF_6_64 : fw_fldF 6 64 6 36 21 (tyX6 21) := ⟨_, _, _, fw_cls6, by decide, fw_mem 796 (by decide +kernel) rfl, by decide, rfl, rfl, rfl⟩
theorem fF_6_67 : fw_fldF 6 67 6 36 22 (tyX6 22) := ⟨_, _, _, fw_cls6, by decide, fw_mem 797 (by decide +kernel) rfl, by decide, rfl, rfl, rfl⟩
theorem fF_6_70 : fw_fldF 6 70 6 36 23 (tyX6 23) := ⟨_, _, _, fw_cls6, by decide, fw_mem 798 (by decide +kernel) rfl, by decide, rfl, rfl, rfl⟩
theorem fF_6_73 : fw_fldF 6 73 6 36 24 (tyX6 24) := ⟨_, _, _, fw_cls6, by decide, fw_mem 799 (by decide +kernel) rfl, by decide, rfl, rfl, rfl⟩
theorem fF_6_76 : fw_fldF 6 76 6 36 25 (tyX6 25) := ⟨_, _, _, fw_cls6, by decide, fw_mem 800 (by decide +kernel) rfl, by decide, rfl, rfl, rfl⟩
theorem fF_6_79 : fw_fldF 6 79 6 36 26 (tyX6 26) := ⟨_, _, _, fw_cls6, by decide, fw_mem 801 (by decide +kernel) rfl, by decide, rfl, rfl, rfl⟩
theorem fF_6_82 : fw_fldF 6 82 6 36 27 (tyX6 27) := ⟨_, _, _, fw_cls6, by decide, fw_mem 802 (by decide +kernel) rfl, by decide, rfl, rfl, rfl⟩
theorem fF_6_85 : fw_fldF 6 85 6 36 29 (tyX6 29) := ⟨_, _, _, fw_cls6, by decide, fw_mem 804 (by decide +kernel) rfl, by decide, rfl, rfl, rfl⟩
theorem fF_6_88 : fw_fldF 6 88 6 36 30 (tyX6 30) := ⟨_, _, _, fw_cls6, by decide, fw_mem 805 (by decide +kernel) rfl, by decide, rfl, rfl, rfl⟩
theorem fF_6_91 : fw_fldF 6 91 6 36 32 (tyX6 32) := ⟨_, _, _, fw_cls6, by decide, fw_mem 807 (by decide +kernel) rfl, by decide, rfl, rfl, rfl⟩
theorem fF_6_94 : fw_fldF 6 94 6 36 33 (tyX6 33) := ⟨_, _, _, fw_cls6, by decide, fw_mem 808 (by decide +kernel) rfl, by decide, rfl, rfl, rfl⟩
theorem fF_6_97 : fw_fldF 6 97 6 36 34 (tyX6 34) := ⟨_, _, _, fw_cls6, by decide, fw_mem 809 (by decide +kernel) rfl, by decide, rfl, rfl, rfl⟩
theorem fF_6_100 : fw_fldF 6 100 6 36 35 (tyX6 35) := ⟨_, _, _, fw_cls6, by decide, fw_mem 810 (by decide +kernel) rfl, by decide, rfl, rfl, rfl⟩
set_option maxRecDepth 20000 in
theorem sp_X0_init (c : Int) (K0 : Nat) (R M : fw_F) (L : fw_G) (hc : 8 ≤ c ∧ c < 168 ∧ c % 2 = 0) (hK : (K0 : Int) = c + 1) (hnw : fw_nw K0 R M L) : fw_SP mX0_init [fw_r c] K0 R M L (fun r K' R' M' L' => r = none ∧ K' = K0 + 1 ∧ R' = fw_upd R c 0 (c + 1) ∧ M' = M ∧ L' = L) := by
  refine fw_SP_of pl_X0_init (ls := [_]) rfl (Nat.le_of_ble_eq_true rfl) fun hA hM => ?_
  refine fw_aload_n dX0_init_0 rfl rfl ?_
  refine fw_obj dX0_init_1 ⟨lk_0_3, ow_1.1, ow_1.2⟩ ⟨by decide, by decide⟩ ?_
  refine fw_aload_n dX0_init_4 rfl rfl ?_
  refine fw_iconst dX0_init_5 ⟨by decide, by decide⟩ ?_
  refine fw_newi (n := 4) (i := 0) (c + 1) (K0 + 1) 4 hK rfl rfl dX0_init_6 rfl (by decide) aw_0 (fun _ => rfl) (fun _ _ h => h) (fun _ => rfl) (by decide) (by rw [hK]; exact ly_gr (by omega) (by omega) (by omega)) ⟨by decide, by show K0 - K0 + 1 ≤ 1; omega, by decide⟩ hnw ?_
  refine fw_putr 0 rfl dX0_init_8 fF_0_9 (fun _ => ⟨rfl, rfl⟩) rfl (ly_ch (by omega) (by omega) (by omega)) rfl (by show K0 + 1 ≤ 203; omega) ⟨by omega, by omega⟩ (by omega) ?_
  exact fw_vreturn dX0_init_11 rfl rfl rfl ⟨rfl, rfl, rfl, rfl, rfl⟩
