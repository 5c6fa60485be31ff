def an_thing (n dy : Int) (S : ab_S) (lb : Int → Int) (m t d w : Int) : Int :=
  if ¬ ((0 ≤ m ∧ m < n) ∧ (0 ≤ t ∧ t < 12) ∧ (0 ≤ d ∧ d ≤ dy) ∧ (0 ≤ w ∧ w ≤ 3)) then -1 else if S.1 1 t = 0 then (if w = 0 then -9 else -2)
  else if w = 0 then (if 1 < ((S.2 t).length : Int) then 5 else S.1 2 t) else if w = 1 then (if t = 0 then -9 else S.1 3 t) else if w = 2 then lb t else ((S.2 t).length : Int)
theorem ti_there {S : ab_S} {G : fw_F} {O : Int → Int} {j : Nat} (h : ab_ti G O j S) {t : Int} (h0 : 0 ≤ t ∧ t < 12) : (S.1 1 t = 0 ∨ S.1 1 t = 1) ∧ (¬ S.1 1 t = 0 → ¬ S.1 0 t = 0) := by
  obtain ⟨a, b, c, d, e⟩ := h.1 t h0.1 h0.2
  exact ⟨b, fun q => by have := c (by omega); omega⟩

set_option maxRecDepth 20000 in
set_option maxHeartbeats 4000000 in
theorem sp_X5_thing (M N : fw_F) (L K : fw_G) (hR : Rel M L N K) (m t d w : Int) : fw_SC mX5_thing [fw_r 0, fw_i m, fw_i t, fw_i d, fw_i w] M L (fun r M2 L2 => r = some (fw_i (an_thing (N 0 2) (N 0 4) (rl_S M N m d) (ab_LB (rl_S M N m d) (rl_e N)) m t d w)) ∧ Rel M2 L2 N K) := by
  refine fw_SP_of pl_X5_thing (ls := [_, _, _, _, _]) rfl (Nat.le_of_ble_eq_true rfl) fun hA hM => ?_
  obtain ⟨ha1, ha2, ha3, ha4, ha5, ha6⟩ := hR.1
  have hn1 := hR.2.1.1.1.1
  have hn2 := hR.2.1.1.1.2.1
  refine fw_aload_n dX5_thing_0 rfl rfl ?_
  refine fw_iload_n dX5_thing_1 rfl rfl ?_
  refine fw_pV mX5_isMachine [_] dX5_thing_2 mv_X5_isMachine lk_5_62 ⟨⟨by decide, by decide⟩, rfl, rfl, rfl, by decide, by decide⟩ ly0_0 ⟨by decide, by decide⟩ rfl rfl (Nat.le_of_ble_eq_true rfl) (sp_X5_isMachine _ _ _) ?_
  refine fw_bifeq 34 dX5_thing_5 (by decide) (fun h5 => ?_) (fun h5 => ?_)
  · skip
    refine fw_iconst dX5_thing_34 ⟨by decide, by decide⟩ ?_
    exact fw_iret dX5_thing_35 ⟨rfl, rfl, rfl⟩ (⟨(by congr 2; unfold an_thing; (repeat' split) <;> omega), hR⟩)
  · skip
    refine fw_iload_n dX5_thing_8 rfl rfl ?_
    refine fw_pS mX5_isThing [_] dX5_thing_9 mv_X5_isThing lk_5_66 ⟨⟨by decide, by decide⟩, rfl, rfl, rfl, by decide, by decide⟩ rfl rfl (Nat.le_of_ble_eq_true rfl) (sp_X5_isThing _ _ _) ?_
    refine fw_bifeq 34 dX5_thing_12 (by decide) (fun h12 => ?_) (fun h12 => ?_)
    · skip
      refine fw_iconst dX5_thing_34 ⟨by decide, by decide⟩ ?_
      exact fw_iret dX5_thing_35 ⟨rfl, rfl, rfl⟩ (⟨(by congr 2; unfold an_thing; (repeat' split) <;> omega), hR⟩)
    · skip
      refine fw_aload_n dX5_thing_15 rfl rfl ?_
      refine fw_iload_n dX5_thing_16 rfl rfl ?_
      refine fw_pV mX5_isDay [_] dX5_thing_17 mv_X5_isDay lk_5_165 ⟨⟨by decide, by decide⟩, rfl, rfl, rfl, by decide, by decide⟩ ly0_0 ⟨by decide, by decide⟩ rfl rfl (Nat.le_of_ble_eq_true rfl) (sp_X5_isDay _ _ _) ?_
      refine fw_bifeq 34 dX5_thing_20 (by decide) (fun h20 => ?_) (fun h20 => ?_)
      · skip
        refine fw_iconst dX5_thing_34 ⟨by decide, by decide⟩ ?_
        exact fw_iret dX5_thing_35 ⟨rfl, rfl, rfl⟩ (⟨(by congr 2; unfold an_thing; (repeat' split) <;> omega), hR⟩)
      · skip
        refine fw_iload dX5_thing_23 rfl ?_
        refine fw_if_lt 34 dX5_thing_25 (by decide) (fun h25 => ?_) (fun h25 => ?_)
        · skip
          refine fw_iconst dX5_thing_34 ⟨by decide, by decide⟩ ?_
          exact fw_iret dX5_thing_35 ⟨rfl, rfl, rfl⟩ (⟨(by congr 2; unfold an_thing; (repeat' split) <;> omega), hR⟩)
        · skip
          refine fw_iload dX5_thing_28 rfl ?_
          refine fw_iconst dX5_thing_30 ⟨by decide, by decide⟩ ?_
          refine fw_icmp_le 36 dX5_thing_31 (by decide) (fun h31 => ?_) (fun h31 => ?_)
          · skip
            refine fw_aload_n dX5_thing_36 rfl rfl ?_
            refine fw_getr 1 168 rfl dX5_thing_37 ff_5_21 ly0_0 ⟨by decide, by decide⟩ rfl rfl (by decide) ?_
            refine fw_iload_n dX5_thing_40 rfl rfl ?_
            refine fw_iload_n dX5_thing_41 rfl rfl ?_
            refine fw_aload_n dX5_thing_42 rfl rfl ?_
            refine fw_geti 8 rfl dX5_thing_43 ff_5_59 ly0_0 ⟨by decide, by decide⟩ rfl ?_
            rw [ha2]
            refine fw_cV mX4_grow [_, _, _] dX5_thing_46 mv_X4_grow lk_5_168 ⟨⟨by decide, by decide⟩, rfl, rfl, rfl, by decide, by decide⟩ ly0_168 ⟨by decide, by decide⟩ rfl rfl (Nat.le_of_ble_eq_true rfl) (rl_grow hR (by omega) (by omega)) (fun r M1 L1 hp hM1 => ?_)
            obtain ⟨rfl, rfl, g1, g2⟩ := hp
            obtain ⟨e0, e1, e2, e3, e4, e5, e6, e7⟩ := g2.1 t (by omega) (by omega)
            have et := ti_there (rl_ti hR m d) (t := t) (by omega)
            have el := g2.2.1 t (by omega) (by omega)
            refine fw_aload_n dX5_thing_49 rfl rfl ?_
            refine fw_getr 1 168 rfl dX5_thing_50 ff_5_21 ly0_0 ⟨by decide, by decide⟩ rfl rfl (by decide) ?_
            refine fw_iload_n dX5_thing_53 rfl rfl ?_
            refine fw_pV mX4_isThere [_] dX5_thing_54 mv_X4_isThere lk_5_107 ⟨⟨by decide, by decide⟩, rfl, rfl, rfl, by decide, by decide⟩ ly0_168 ⟨by decide, by decide⟩ rfl rfl (Nat.le_of_ble_eq_true rfl) (sp_X4_isThere _ _ _ (by omega) (by rw [e1]; exact et.1)) ?_
            refine fw_if_ne 73 dX5_thing_57 (by decide) (fun h57 => ?_) (fun h57 => ?_)
            · skip
              refine fw_iload dX5_thing_73 rfl ?_
              refine fw_if_ne 105 dX5_thing_75 (by decide) (fun h75 => ?_) (fun h75 => ?_)
              · skip
                refine fw_iload dX5_thing_105 rfl ?_
                refine fw_iconst dX5_thing_107 ⟨by decide, by decide⟩ ?_
                refine fw_icmp_ne 130 dX5_thing_108 (by decide) (fun h108 => ?_) (fun h108 => ?_)
                · skip
                  refine fw_iload dX5_thing_130 rfl ?_
                  refine fw_iconst dX5_thing_132 ⟨by decide, by decide⟩ ?_
                  refine fw_icmp_ne 148 dX5_thing_133 (by decide) (fun h133 => ?_) (fun h133 => ?_)
                  · skip
                    refine fw_aload_n dX5_thing_148 rfl rfl ?_
                    refine fw_getr 1 168 rfl dX5_thing_149 ff_5_21 ly0_0 ⟨by decide, by decide⟩ rfl rfl (by decide) ?_
                    refine fw_getr 8 176 rfl dX5_thing_152 ff_5_172 ly0_168 ⟨by decide, by decide⟩ rfl rfl (by decide) ?_
                    refine fw_iload_n dX5_thing_155 rfl rfl ?_
                    refine fw_iaload dX5_thing_156 ly0_176 ⟨by decide, by decide⟩ ⟨by omega, by omega⟩ ?_
                    exact fw_iret dX5_thing_157 ⟨rfl, rfl, rfl⟩ (⟨(by congr 2; unfold an_thing; (repeat' split) <;> omega), (rl_cl hR (fun k a b => ⟨g1 k a, rfl⟩))⟩)
                  · skip
                    refine fw_aload_n dX5_thing_136 rfl rfl ?_
                    refine fw_getr 1 168 rfl dX5_thing_137 ff_5_21 ly0_0 ⟨by decide, by decide⟩ rfl rfl (by decide) ?_
                    refine fw_getr 6 174 rfl dX5_thing_140 ff_5_179 ly0_168 ⟨by decide, by decide⟩ rfl rfl (by decide) ?_
                    refine fw_iload_n dX5_thing_143 rfl rfl ?_
                    refine fw_iaload dX5_thing_144 ly0_174 ⟨by decide, by decide⟩ ⟨by omega, by omega⟩ ?_
                    refine fw_goto 157 dX5_thing_145 (by decide) ?_
                    exact fw_iret dX5_thing_157 ⟨rfl, rfl, rfl⟩ (⟨(by congr 2; unfold an_thing; (repeat' split) <;> omega), (rl_cl hR (fun k a b => ⟨g1 k a, rfl⟩))⟩)
                · skip
                  refine fw_iload_n dX5_thing_111 rfl rfl ?_
                  refine fw_if_ne 120 dX5_thing_112 (by decide) (fun h112 => ?_) (fun h112 => ?_)
                  · skip
                    refine fw_aload_n dX5_thing_120 rfl rfl ?_
                    refine fw_getr 1 168 rfl dX5_thing_121 ff_5_21 ly0_0 ⟨by decide, by decide⟩ rfl rfl (by decide) ?_
                    refine fw_getr 4 172 rfl dX5_thing_124 ff_5_177 ly0_168 ⟨by decide, by decide⟩ rfl rfl (by decide) ?_
                    refine fw_iload_n dX5_thing_127 rfl rfl ?_
                    refine fw_iaload dX5_thing_128 ly0_172 ⟨by decide, by decide⟩ ⟨by omega, by omega⟩ ?_
                    exact fw_iret dX5_thing_129 ⟨rfl, rfl, rfl⟩ (⟨(by congr 2; unfold an_thing; (repeat' split) <;> omega), (rl_cl hR (fun k a b => ⟨g1 k a, rfl⟩))⟩)
                  · skip
                    refine fw_bipush dX5_thing_115 ⟨by decide, by decide⟩ (by decide) ?_
                    refine fw_goto 129 dX5_thing_117 (by decide) ?_
                    exact fw_iret dX5_thing_129 ⟨rfl, rfl, rfl⟩ (⟨(by congr 2; unfold an_thing; (repeat' split) <;> omega), (rl_cl hR (fun k a b => ⟨g1 k a, rfl⟩))⟩)
              · skip
                refine fw_aload_n dX5_thing_78 rfl rfl ?_
                refine fw_getr 1 168 rfl dX5_thing_79 ff_5_21 ly0_0 ⟨by decide, by decide⟩ rfl rfl (by decide) ?_
                refine fw_getr 8 176 rfl dX5_thing_82 ff_5_172 ly0_168 ⟨by decide, by decide⟩ rfl rfl (by decide) ?_
                refine fw_iload_n dX5_thing_85 rfl rfl ?_
                refine fw_iaload dX5_thing_86 ly0_176 ⟨by decide, by decide⟩ ⟨by omega, by omega⟩ ?_
                refine fw_iconst dX5_thing_87 ⟨by decide, by decide⟩ ?_
                refine fw_icmp_le 95 dX5_thing_88 (by decide) (fun h88 => ?_) (fun h88 => ?_)
                · skip
                  refine fw_aload_n dX5_thing_95 rfl rfl ?_
                  refine fw_getr 1 168 rfl dX5_thing_96 ff_5_21 ly0_0 ⟨by decide, by decide⟩ rfl rfl (by decide) ?_
                  refine fw_getr 3 171 rfl dX5_thing_99 ff_5_175 ly0_168 ⟨by decide, by decide⟩ rfl rfl (by decide) ?_
                  refine fw_iload_n dX5_thing_102 rfl rfl ?_
                  refine fw_iaload dX5_thing_103 ly0_171 ⟨by decide, by decide⟩ ⟨by omega, by omega⟩ ?_
                  exact fw_iret dX5_thing_104 ⟨rfl, rfl, rfl⟩ (⟨(by congr 2; unfold an_thing; (repeat' split) <;> omega), (rl_cl hR (fun k a b => ⟨g1 k a, rfl⟩))⟩)
                · skip
                  refine fw_iconst dX5_thing_91 ⟨by decide, by decide⟩ ?_
                  refine fw_goto 104 dX5_thing_92 (by decide) ?_
                  exact fw_iret dX5_thing_104 ⟨rfl, rfl, rfl⟩ (⟨(by congr 2; unfold an_thing; (repeat' split) <;> omega), (rl_cl hR (fun k a b => ⟨g1 k a, rfl⟩))⟩)
            · skip
              refine fw_iload dX5_thing_60 rfl ?_
              refine fw_if_ne 70 dX5_thing_62 (by decide) (fun h62 => ?_) (fun h62 => ?_)
              · skip
                refine fw_bipush dX5_thing_70 ⟨by decide, by decide⟩ (by decide) ?_
                exact fw_iret dX5_thing_72 ⟨rfl, rfl, rfl⟩ (⟨(by congr 2; unfold an_thing; (repeat' split) <;> omega), (rl_cl hR (fun k a b => ⟨g1 k a, rfl⟩))⟩)
              · skip
                refine fw_bipush dX5_thing_65 ⟨by decide, by decide⟩ (by decide) ?_
                refine fw_goto 72 dX5_thing_67 (by decide) ?_
                exact fw_iret dX5_thing_72 ⟨rfl, rfl, rfl⟩ (⟨(by congr 2; unfold an_thing; (repeat' split) <;> omega), (rl_cl hR (fun k a b => ⟨g1 k a, rfl⟩))⟩)
          · skip
            refine fw_iconst dX5_thing_34 ⟨by decide, by decide⟩ ?_
            exact fw_iret dX5_thing_35 ⟨rfl, rfl, rfl⟩ (⟨(by congr 2; unfold an_thing; (repeat' split) <;> omega), hR⟩)

set_option maxRecDepth 20000 in
set_option maxHeartbeats 4000000 in
theorem pm_X6_thing (M N : fw_F) (L K : fw_G) (hR : Rel M L N K) (m t d w : Int) : fw_D mX6_thing 5 [some (fw_r 0), some (fw_i m), some (fw_i t), some (fw_i d), some (fw_i w)] [] N K (fun r N2 K2 => r = some (fw_i (an_thing (N 0 2) (N 0 4) (rl_S M N m d) (ab_LB (rl_S M N m d) (rl_e N)) m t d w)) ∧ rl_mq N K N2 K2) := by
  obtain ⟨ha1, ha2, ha3, ha4, ha5, ha6⟩ := hR.1
  have hn1 := hR.2.1.1.1.1
  have hn2 := hR.2.1.1.1.2.1
  refine fw_aload_n dX6_thing_5 rfl rfl ?_
  refine fw_iload_n dX6_thing_6 rfl rfl ?_
  refine fw_pV mX6_isMachine [_] dX6_thing_7 mv_X6_isMachine lk_6_179 ⟨⟨by decide, by decide⟩, rfl, rfl, rfl, by decide, by decide⟩ ly1_0 ⟨by decide, by decide⟩ rfl rfl (Nat.le_of_ble_eq_true rfl) (sp_X6_isMachine _ _ _ (by omega)) ?_
  refine fw_bifeq 38 dX6_thing_10 (by decide) (fun h10 => ?_) (fun h10 => ?_)
  · skip
    refine fw_iconst dX6_thing_38 ⟨by decide, by decide⟩ ?_
    exact fw_iret dX6_thing_39 ⟨rfl, rfl, rfl⟩ (⟨(by congr 2; unfold an_thing; (repeat' split) <;> omega), rl_mq_rf N K⟩)
  · skip
    refine fw_iload_n dX6_thing_13 rfl rfl ?_
    refine fw_pS mX6_isThing [_] dX6_thing_14 mv_X6_isThing lk_6_182 ⟨⟨by decide, by decide⟩, rfl, rfl, rfl, by decide, by decide⟩ rfl rfl (Nat.le_of_ble_eq_true rfl) (sp_X6_isThing _ _ _) ?_
    refine fw_bifeq 38 dX6_thing_17 (by decide) (fun h17 => ?_) (fun h17 => ?_)
    · skip
      refine fw_iconst dX6_thing_38 ⟨by decide, by decide⟩ ?_
      exact fw_iret dX6_thing_39 ⟨rfl, rfl, rfl⟩ (⟨(by congr 2; unfold an_thing; (repeat' split) <;> omega), rl_mq_rf N K⟩)
    · skip
      refine fw_aload_n dX6_thing_20 rfl rfl ?_
      refine fw_iload_n dX6_thing_21 rfl rfl ?_
      refine fw_pV mX6_isDay [_] dX6_thing_22 mv_X6_isDay lk_6_224 ⟨⟨by decide, by decide⟩, rfl, rfl, rfl, by decide, by decide⟩ ly1_0 ⟨by decide, by decide⟩ rfl rfl (Nat.le_of_ble_eq_true rfl) (sp_X6_isDay _ _ _) ?_
      refine fw_bifeq 38 dX6_thing_25 (by decide) (fun h25 => ?_) (fun h25 => ?_)
      · skip
        refine fw_iconst dX6_thing_38 ⟨by decide, by decide⟩ ?_
        exact fw_iret dX6_thing_39 ⟨rfl, rfl, rfl⟩ (⟨(by congr 2; unfold an_thing; (repeat' split) <;> omega), rl_mq_rf N K⟩)
      · skip
        refine fw_iload dX6_thing_28 rfl ?_
        refine fw_iconst dX6_thing_30 ⟨by decide, by decide⟩ ?_
        refine fw_iconst dX6_thing_31 ⟨by decide, by decide⟩ ?_
        refine fw_pS mX6_in [_, _, _] dX6_thing_32 mv_X6_in lk_6_115 ⟨⟨by decide, by decide⟩, rfl, rfl, rfl, by decide, by decide⟩ rfl rfl (Nat.le_of_ble_eq_true rfl) (sp_X6_in _ _ _ _ _) ?_
        refine fw_bifne 40 dX6_thing_35 (by decide) (fun h35 => ?_) (fun h35 => ?_)
        · skip
          refine fw_aload_n dX6_thing_40 rfl rfl ?_
          refine fw_iload_n dX6_thing_41 rfl rfl ?_
          refine fw_iload_n dX6_thing_42 rfl rfl ?_
          refine fw_cV mX6_tellsOf [_, _] dX6_thing_43 mv_X6_tellsOf lk_6_227 ⟨⟨by decide, by decide⟩, rfl, rfl, rfl, by decide, by decide⟩ ly1_0 ⟨by decide, by decide⟩ rfl rfl (Nat.le_of_ble_eq_true rfl) (rl_tellsOf hR (by omega) (by omega)) (fun r M1 L1 hp hM1 => ?_)
          obtain ⟨rfl, rfl, g1, g2⟩ := hp
          obtain ⟨e0, e1, e2, e3, e4, e6, e7⟩ := g2.1 t (by omega) (by omega)
          have et := ti_there (rl_ti hR m d) (t := t) (by omega)
          have el := g2.2.1 t (by omega) (by omega)
          refine fw_aload_n dX6_thing_46 rfl rfl ?_
          refine fw_getr 15 11 rfl dX6_thing_47 ff_6_46 ly1_0 ⟨by decide, by decide⟩ rfl rfl (by decide) ?_
          refine fw_iload_n dX6_thing_50 rfl rfl ?_
          refine fw_baload dX6_thing_51 ly1_11 ⟨by decide, by decide⟩ ⟨by omega, by omega⟩ ?_
          refine fw_if_ne 68 dX6_thing_52 (by decide) (fun h52 => ?_) (fun h52 => ?_)
          · skip
            refine fw_iload dX6_thing_68 rfl ?_
            refine fw_if_ne 96 dX6_thing_70 (by decide) (fun h70 => ?_) (fun h70 => ?_)
            · skip
              refine fw_iload dX6_thing_96 rfl ?_
              refine fw_iconst dX6_thing_98 ⟨by decide, by decide⟩ ?_
              refine fw_icmp_ne 120 dX6_thing_99 (by decide) (fun h99 => ?_) (fun h99 => ?_)
              · skip
                refine fw_iload dX6_thing_120 rfl ?_
                refine fw_iconst dX6_thing_122 ⟨by decide, by decide⟩ ?_
                refine fw_icmp_ne 135 dX6_thing_123 (by decide) (fun h123 => ?_) (fun h123 => ?_)
                · skip
                  refine fw_aload_n dX6_thing_135 rfl rfl ?_
                  refine fw_getr 21 17 rfl dX6_thing_136 ff_6_64 ly1_0 ⟨by decide, by decide⟩ rfl rfl (by decide) ?_
                  refine fw_iload_n dX6_thing_139 rfl rfl ?_
                  refine fw_iaload dX6_thing_140 ly1_17 ⟨by decide, by decide⟩ ⟨by omega, by omega⟩ ?_
                  exact fw_iret dX6_thing_141 ⟨rfl, rfl, rfl⟩ (⟨(by congr 2; unfold an_thing; (repeat' split) <;> omega), (rl_mq_of g1)⟩)
                · skip
                  refine fw_aload_n dX6_thing_126 rfl rfl ?_
                  refine fw_getr 20 16 rfl dX6_thing_127 ff_6_61 ly1_0 ⟨by decide, by decide⟩ rfl rfl (by decide) ?_
                  refine fw_iload_n dX6_thing_130 rfl rfl ?_
                  refine fw_iaload dX6_thing_131 ly1_16 ⟨by decide, by decide⟩ ⟨by omega, by omega⟩ ?_
                  refine fw_goto 141 dX6_thing_132 (by decide) ?_
                  exact fw_iret dX6_thing_141 ⟨rfl, rfl, rfl⟩ (⟨(by congr 2; unfold an_thing; (repeat' split) <;> omega), (rl_mq_of g1)⟩)
              · skip
                refine fw_iload_n dX6_thing_102 rfl rfl ?_
                refine fw_if_ne 111 dX6_thing_103 (by decide) (fun h103 => ?_) (fun h103 => ?_)
                · skip
                  refine fw_aload_n dX6_thing_111 rfl rfl ?_
                  refine fw_getr 17 13 rfl dX6_thing_112 ff_6_52 ly1_0 ⟨by decide, by decide⟩ rfl rfl (by decide) ?_
                  refine fw_iload_n dX6_thing_115 rfl rfl ?_
                  refine fw_iaload dX6_thing_116 ly1_13 ⟨by decide, by decide⟩ ⟨by omega, by omega⟩ ?_
                  refine fw_goto 141 dX6_thing_117 (by decide) ?_
                  exact fw_iret dX6_thing_141 ⟨rfl, rfl, rfl⟩ (⟨(by congr 2; unfold an_thing; (repeat' split) <;> omega), (rl_mq_of g1)⟩)
                · skip
                  refine fw_bipush dX6_thing_106 ⟨by decide, by decide⟩ (by decide) ?_
                  refine fw_goto 141 dX6_thing_108 (by decide) ?_
                  exact fw_iret dX6_thing_141 ⟨rfl, rfl, rfl⟩ (⟨(by congr 2; unfold an_thing; (repeat' split) <;> omega), (rl_mq_of g1)⟩)
            · skip
              refine fw_aload_n dX6_thing_73 rfl rfl ?_
              refine fw_getr 21 17 rfl dX6_thing_74 ff_6_64 ly1_0 ⟨by decide, by decide⟩ rfl rfl (by decide) ?_
              refine fw_iload_n dX6_thing_77 rfl rfl ?_
              refine fw_iaload dX6_thing_78 ly1_17 ⟨by decide, by decide⟩ ⟨by omega, by omega⟩ ?_
              refine fw_iconst dX6_thing_79 ⟨by decide, by decide⟩ ?_
              refine fw_icmp_le 87 dX6_thing_80 (by decide) (fun h80 => ?_) (fun h80 => ?_)
              · skip
                refine fw_aload_n dX6_thing_87 rfl rfl ?_
                refine fw_getr 16 12 rfl dX6_thing_88 ff_6_49 ly1_0 ⟨by decide, by decide⟩ rfl rfl (by decide) ?_
                refine fw_iload_n dX6_thing_91 rfl rfl ?_
                refine fw_iaload dX6_thing_92 ly1_12 ⟨by decide, by decide⟩ ⟨by omega, by omega⟩ ?_
                refine fw_goto 141 dX6_thing_93 (by decide) ?_
                exact fw_iret dX6_thing_141 ⟨rfl, rfl, rfl⟩ (⟨(by congr 2; unfold an_thing; (repeat' split) <;> omega), (rl_mq_of g1)⟩)
              · skip
                refine fw_iconst dX6_thing_83 ⟨by decide, by decide⟩ ?_
                refine fw_goto 141 dX6_thing_84 (by decide) ?_
                exact fw_iret dX6_thing_141 ⟨rfl, rfl, rfl⟩ (⟨(by congr 2; unfold an_thing; (repeat' split) <;> omega), (rl_mq_of g1)⟩)
          · skip
            refine fw_iload dX6_thing_55 rfl ?_
            refine fw_if_ne 65 dX6_thing_57 (by decide) (fun h57 => ?_) (fun h57 => ?_)
            · skip
              refine fw_bipush dX6_thing_65 ⟨by decide, by decide⟩ (by decide) ?_
              exact fw_iret dX6_thing_67 ⟨rfl, rfl, rfl⟩ (⟨(by congr 2; unfold an_thing; (repeat' split) <;> omega), (rl_mq_of g1)⟩)
            · skip
              refine fw_bipush dX6_thing_60 ⟨by decide, by decide⟩ (by decide) ?_
              refine fw_goto 67 dX6_thing_62 (by decide) ?_
              exact fw_iret dX6_thing_67 ⟨rfl, rfl, rfl⟩ (⟨(by congr 2; unfold an_thing; (repeat' split) <;> omega), (rl_mq_of g1)⟩)
        · skip
          refine fw_iconst dX6_thing_38 ⟨by decide, by decide⟩ ?_
          exact fw_iret dX6_thing_39 ⟨rfl, rfl, rfl⟩ (⟨(by congr 2; unfold an_thing; (repeat' split) <;> omega), rl_mq_rf N K⟩)

set_option maxRecDepth 20000 in
set_option maxHeartbeats 4000000 in
theorem sp_X6_thing (M N : fw_F) (L K : fw_G) (hR : Rel M L (fw_upd N 0 0 0) K) (m t d w : Int) : fw_SD mX6_thing [fw_r 0, fw_i m, fw_i t, fw_i d, fw_i w] N K (fun r N2 K2 => r = some (fw_i (an_thing ((fw_upd N 0 0 0) 0 2) ((fw_upd N 0 0 0) 0 4) (rl_S M (fw_upd N 0 0 0) m d) (ab_LB (rl_S M (fw_upd N 0 0 0) m d) (rl_e (fw_upd N 0 0 0))) m t d w)) ∧ rl_mq (fw_upd N 0 0 0) K N2 K2) := by
  refine fw_SP_of pl_X6_thing (ls := [_, _, _, _, _]) rfl (Nat.le_of_ble_eq_true rfl) fun hA hM => ?_
  refine fw_aload_n dX6_thing_0 rfl rfl ?_
  refine fw_iconst dX6_thing_1 ⟨by decide, by decide⟩ ?_
  refine fw_puti 0 rfl dX6_thing_2 fp_6_106 ly1_0 (by decide) ⟨by decide, by decide⟩ rfl ?_
  exact pm_X6_thing M (fw_upd N 0 0 0) L K hR m t d w

def an_things (n dy m d v : Int) : Int := if ¬ ((0 ≤ m ∧ m < n) ∧ (0 ≤ d ∧ d ≤ dy)) then -1 else v

set_option maxRecDepth 20000 in
set_option maxHeartbeats 4000000 in
theorem lp_X5_things (M N M1 : fw_F) (L K : fw_G) (hR : Rel M L N K) (m d : Int) (hm : 0 ≤ m ∧ m < N 0 2) (hd : 0 ≤ d ∧ d ≤ N 0 4) (g1 : ∀ k, k < 169 ∨ 177 < k → M1 k = M k) (g2 : cl_V M1 (rl_S M N m d) (rl_e N)) : ∀ (q : Nat) (c i : Int), 12 - i < q → 0 ≤ i → i ≤ 12 → c = ab_sm (fun t => if (rl_S M N m d).1 1 t = 0 then 0 else 1) i.toNat → fw_C mX5_things 36 [some (fw_r 0), some (fw_i m), some (fw_i d), some (fw_i c), some (fw_i i)] [] M1 L (fun r M2 L2 => r = some (fw_i (an_things (N 0 2) (N 0 4) m d (ab_sm (fun t => if (rl_S M N m d).1 1 t = 0 then 0 else 1) 12))) ∧ Rel M2 L2 N K) := by
  intro q
  induction q with
  | zero => intro c i h0 h1 h2; omega
  | succ q ih =>
    intro c i h0 h1 h2 h3
    have hr := ab_sm_rng (f := (fun t => if (rl_S M N m d).1 1 t = 0 then 0 else 1)) (a := 0) (b := 1) i.toNat (fun i _ _ => by split <;> omega)
    refine fw_iload dX5_things_36 rfl ?_
    refine fw_bipush dX5_things_38 ⟨by decide, by decide⟩ (by decide) ?_
    refine fw_icmp_ge 64 dX5_things_40 (by decide) (fun h40 => ?_) (fun h40 => ?_)
    · skip
      refine fw_iload_n dX5_things_64 rfl rfl ?_
      exact fw_iret dX5_things_65 ⟨rfl, rfl, rfl⟩ (⟨by rw [h3, show i.toNat = 12 by omega]; congr 2; unfold an_things; rw [if_neg (by omega)], (rl_cl hR (fun k a b => ⟨g1 k a, rfl⟩))⟩)
    · skip
      obtain ⟨e0, e1, e2, e3, e4, e5, e6, e7⟩ := g2.1 i (by omega) (by omega)
      have et := ti_there (rl_ti hR m d) (t := i) (by omega)
      have hs := ab_sm_s (fun t => if (rl_S M N m d).1 1 t = 0 then 0 else 1) h1
      refine fw_aload_n dX5_things_43 rfl rfl ?_
      refine fw_getr 1 168 rfl dX5_things_44 ff_5_21 ly0_0 ⟨by decide, by decide⟩ rfl rfl (by decide) ?_
      refine fw_iload dX5_things_47 rfl ?_
      refine fw_pV mX4_isThere [_] dX5_things_49 mv_X4_isThere lk_5_107 ⟨⟨by decide, by decide⟩, rfl, rfl, rfl, by decide, by decide⟩ ly0_168 ⟨by decide, by decide⟩ rfl rfl (Nat.le_of_ble_eq_true rfl) (sp_X4_isThere _ _ _ (by omega) (by rw [e1]; exact et.1)) ?_
      refine fw_if_eq 58 dX5_things_52 (by decide) (fun h52 => ?_) (fun h52 => ?_)
      · skip
        refine fw_iinc (ls2 := [_, _, _, _, _]) dX5_things_58 rfl ⟨by omega, by omega⟩ (by decide) rfl ?_
        refine fw_goto 36 dX5_things_61 (by decide) ?_
        exact ih _ (i + 1) (by omega) (by omega) (by omega) (by rw [hs, if_pos (by omega)]; omega)
      · skip
        refine fw_iinc (ls2 := [_, _, _, _, _]) dX5_things_55 rfl ⟨by omega, by omega⟩ (by decide) rfl ?_
        refine fw_iinc (ls2 := [_, _, _, _, _]) dX5_things_58 rfl ⟨by omega, by omega⟩ (by decide) rfl ?_
        refine fw_goto 36 dX5_things_61 (by decide) ?_
        exact ih _ (i + 1) (by omega) (by omega) (by omega) (by rw [hs, if_neg (by omega)]; omega)

set_option maxRecDepth 20000 in
set_option maxHeartbeats 4000000 in
theorem sp_X5_things (M N : fw_F) (L K : fw_G) (hR : Rel M L N K) (m d : Int) : fw_SC mX5_things [fw_r 0, fw_i m, fw_i d] M L (fun r M2 L2 => r = some (fw_i (an_things (N 0 2) (N 0 4) m d (ab_sm (fun t => if (rl_S M N m d).1 1 t = 0 then 0 else 1) 12))) ∧ Rel M2 L2 N K) := by
  refine fw_SP_of pl_X5_things (ls := [_, _, _]) rfl (Nat.le_of_ble_eq_true rfl) fun hA hM => ?_
  obtain ⟨ha1, ha2, ha3, ha4, ha5, ha6⟩ := hR.1
  have hn1 := hR.2.1.1.1.1
  have hn2 := hR.2.1.1.1.2.1
  refine fw_aload_n dX5_things_0 rfl rfl ?_
  refine fw_iload_n dX5_things_1 rfl rfl ?_
  refine fw_pV mX5_isMachine [_] dX5_things_2 mv_X5_isMachine lk_5_62 ⟨⟨by decide, by decide⟩, rfl, rfl, rfl, by decide, by decide⟩ ly0_0 ⟨by decide, by decide⟩ rfl rfl (Nat.le_of_ble_eq_true rfl) (sp_X5_isMachine _ _ _) ?_
  refine fw_bifeq 16 dX5_things_5 (by decide) (fun h5 => ?_) (fun h5 => ?_)
  · skip
    refine fw_iconst dX5_things_16 ⟨by decide, by decide⟩ ?_
    exact fw_iret dX5_things_17 ⟨rfl, rfl, rfl⟩ (⟨(by congr 2; unfold an_things; (repeat' split) <;> omega), hR⟩)
  · skip
    refine fw_aload_n dX5_things_8 rfl rfl ?_
    refine fw_iload_n dX5_things_9 rfl rfl ?_
    refine fw_pV mX5_isDay [_] dX5_things_10 mv_X5_isDay lk_5_165 ⟨⟨by decide, by decide⟩, rfl, rfl, rfl, by decide, by decide⟩ ly0_0 ⟨by decide, by decide⟩ rfl rfl (Nat.le_of_ble_eq_true rfl) (sp_X5_isDay _ _ _) ?_
    refine fw_bifne 18 dX5_things_13 (by decide) (fun h13 => ?_) (fun h13 => ?_)
    · skip
      refine fw_aload_n dX5_things_18 rfl rfl ?_
      refine fw_getr 1 168 rfl dX5_things_19 ff_5_21 ly0_0 ⟨by decide, by decide⟩ rfl rfl (by decide) ?_
      refine fw_iload_n dX5_things_22 rfl rfl ?_
      refine fw_iload_n dX5_things_23 rfl rfl ?_
      refine fw_aload_n dX5_things_24 rfl rfl ?_
      refine fw_geti 8 rfl dX5_things_25 ff_5_59 ly0_0 ⟨by decide, by decide⟩ rfl ?_
      rw [ha2]
      refine fw_cV mX4_grow [_, _, _] dX5_things_28 mv_X4_grow lk_5_168 ⟨⟨by decide, by decide⟩, rfl, rfl, rfl, by decide, by decide⟩ ly0_168 ⟨by decide, by decide⟩ rfl rfl (Nat.le_of_ble_eq_true rfl) (rl_grow hR (by omega) (by omega)) (fun r M1 L1 hp hM1 => ?_)
      obtain ⟨rfl, rfl, g1, g2⟩ := hp
      refine fw_iconst dX5_things_31 ⟨by decide, by decide⟩ ?_
      refine fw_istore_n (ls2 := [_, _, _, _]) dX5_things_32 rfl (by decide) rfl ?_
      refine fw_iconst dX5_things_33 ⟨by decide, by decide⟩ ?_
      refine fw_istore (ls2 := [_, _, _, _, _]) dX5_things_34 (by decide) rfl ?_
      exact lp_X5_things M N M1 L1 K hR m d (by omega) (by omega) g1 g2 13 0 0 (by decide) (by decide) (by decide) rfl
    · skip
      refine fw_iconst dX5_things_16 ⟨by decide, by decide⟩ ?_
      exact fw_iret dX5_things_17 ⟨rfl, rfl, rfl⟩ (⟨(by congr 2; unfold an_things; (repeat' split) <;> omega), hR⟩)

set_option maxRecDepth 20000 in
set_option maxHeartbeats 4000000 in
theorem lp_X6_things (M N N1 : fw_F) (L K : fw_G) (hR : Rel M L N K) (m d : Int) (hm : 0 ≤ m ∧ m < N 0 2) (hd : 0 ≤ d ∧ d ≤ N 0 4) (g1 : ∀ k, k < 7 ∨ 19 < k → N1 k = N k) (g2 : md_V N1 (rl_S M N m d) (rl_e N)) : ∀ (q : Nat) (c i : Int), 12 - i < q → 0 ≤ i → i ≤ 12 → c = ab_sm (fun t => if (rl_S M N m d).1 1 t = 0 then 0 else 1) i.toNat → fw_D mX6_things 34 [some (fw_r 0), some (fw_i m), some (fw_i d), some (fw_i c), some (fw_i i)] [] N1 K (fun r N2 K2 => r = some (fw_i (an_things (N 0 2) (N 0 4) m d (ab_sm (fun t => if (rl_S M N m d).1 1 t = 0 then 0 else 1) 12))) ∧ rl_mq N K N2 K2) := by
  intro q
  induction q with
  | zero => intro c i h0 h1 h2; omega
  | succ q ih =>
    intro c i h0 h1 h2 h3
    have hr := ab_sm_rng (f := (fun t => if (rl_S M N m d).1 1 t = 0 then 0 else 1)) (a := 0) (b := 1) i.toNat (fun i _ _ => by split <;> omega)
    refine fw_iload dX6_things_34 rfl ?_
    refine fw_bipush dX6_things_36 ⟨by decide, by decide⟩ (by decide) ?_
    refine fw_icmp_ge 65 dX6_things_38 (by decide) (fun h38 => ?_) (fun h38 => ?_)
    · skip
      refine fw_iload_n dX6_things_65 rfl rfl ?_
      exact fw_iret dX6_things_66 ⟨rfl, rfl, rfl⟩ (⟨by rw [h3, show i.toNat = 12 by omega]; congr 2; unfold an_things; rw [if_neg (by omega)], (rl_mq_of g1)⟩)
    · skip
      obtain ⟨e0, e1, e2, e3, e4, e6, e7⟩ := g2.1 i (by omega) (by omega)
      have hs := ab_sm_s (fun t => if (rl_S M N m d).1 1 t = 0 then 0 else 1) h1
      refine fw_iload_n dX6_things_41 rfl rfl ?_
      refine fw_aload_n dX6_things_42 rfl rfl ?_
      refine fw_getr 15 11 rfl dX6_things_43 ff_6_46 ly1_0 ⟨by decide, by decide⟩ rfl rfl (by decide) ?_
      refine fw_iload dX6_things_46 rfl ?_
      refine fw_baload dX6_things_48 ly1_11 ⟨by decide, by decide⟩ ⟨by omega, by omega⟩ ?_
      refine fw_if_eq 56 dX6_things_49 (by decide) (fun h49 => ?_) (fun h49 => ?_)
      · skip
        refine fw_iconst dX6_things_56 ⟨by decide, by decide⟩ ?_
        refine fw_iadd dX6_things_57 ⟨by omega, by omega⟩ ?_
        refine fw_istore_n (ls2 := [_, _, _, _, _]) dX6_things_58 rfl (by decide) rfl ?_
        refine fw_iinc (ls2 := [_, _, _, _, _]) dX6_things_59 rfl ⟨by omega, by omega⟩ (by decide) rfl ?_
        refine fw_goto 34 dX6_things_62 (by decide) ?_
        exact ih _ (i + 1) (by omega) (by omega) (by omega) (by rw [hs, if_pos (by omega)]; omega)
      · skip
        refine fw_iconst dX6_things_52 ⟨by decide, by decide⟩ ?_
        refine fw_goto 57 dX6_things_53 (by decide) ?_
        refine fw_iadd dX6_things_57 ⟨by omega, by omega⟩ ?_
        refine fw_istore_n (ls2 := [_, _, _, _, _]) dX6_things_58 rfl (by decide) rfl ?_
        refine fw_iinc (ls2 := [_, _, _, _, _]) dX6_things_59 rfl ⟨by omega, by omega⟩ (by decide) rfl ?_
        refine fw_goto 34 dX6_things_62 (by decide) ?_
        exact ih _ (i + 1) (by omega) (by omega) (by omega) (by rw [hs, if_neg (by omega)]; omega)

set_option maxRecDepth 20000 in
set_option maxHeartbeats 4000000 in
theorem pm_X6_things (M N : fw_F) (L K : fw_G) (hR : Rel M L N K) (m d : Int) : fw_D mX6_things 5 [some (fw_r 0), some (fw_i m), some (fw_i d)] [] N K (fun r N2 K2 => r = some (fw_i (an_things (N 0 2) (N 0 4) m d (ab_sm (fun t => if (rl_S M N m d).1 1 t = 0 then 0 else 1) 12))) ∧ rl_mq N K N2 K2) := by
  obtain ⟨ha1, ha2, ha3, ha4, ha5, ha6⟩ := hR.1
  have hn1 := hR.2.1.1.1.1
  have hn2 := hR.2.1.1.1.2.1
  refine fw_aload_n dX6_things_5 rfl rfl ?_
  refine fw_iload_n dX6_things_6 rfl rfl ?_
  refine fw_pV mX6_isMachine [_] dX6_things_7 mv_X6_isMachine lk_6_179 ⟨⟨by decide, by decide⟩, rfl, rfl, rfl, by decide, by decide⟩ ly1_0 ⟨by decide, by decide⟩ rfl rfl (Nat.le_of_ble_eq_true rfl) (sp_X6_isMachine _ _ _ (by omega)) ?_
  refine fw_bifeq 21 dX6_things_10 (by decide) (fun h10 => ?_) (fun h10 => ?_)
  · skip
    refine fw_iconst dX6_things_21 ⟨by decide, by decide⟩ ?_
    exact fw_iret dX6_things_22 ⟨rfl, rfl, rfl⟩ (⟨(by congr 2; unfold an_things; (repeat' split) <;> omega), rl_mq_rf N K⟩)
  · skip
    refine fw_aload_n dX6_things_13 rfl rfl ?_
    refine fw_iload_n dX6_things_14 rfl rfl ?_
    refine fw_pV mX6_isDay [_] dX6_things_15 mv_X6_isDay lk_6_224 ⟨⟨by decide, by decide⟩, rfl, rfl, rfl, by decide, by decide⟩ ly1_0 ⟨by decide, by decide⟩ rfl rfl (Nat.le_of_ble_eq_true rfl) (sp_X6_isDay _ _ _) ?_
    refine fw_bifne 23 dX6_things_18 (by decide) (fun h18 => ?_) (fun h18 => ?_)
    · skip
      refine fw_aload_n dX6_things_23 rfl rfl ?_
      refine fw_iload_n dX6_things_24 rfl rfl ?_
      refine fw_iload_n dX6_things_25 rfl rfl ?_
      refine fw_cV mX6_tellsOf [_, _] dX6_things_26 mv_X6_tellsOf lk_6_227 ⟨⟨by decide, by decide⟩, rfl, rfl, rfl, by decide, by decide⟩ ly1_0 ⟨by decide, by decide⟩ rfl rfl (Nat.le_of_ble_eq_true rfl) (rl_tellsOf hR (by omega) (by omega)) (fun r M1 L1 hp hM1 => ?_)
      obtain ⟨rfl, rfl, g1, g2⟩ := hp
      refine fw_iconst dX6_things_29 ⟨by decide, by decide⟩ ?_
      refine fw_istore_n (ls2 := [_, _, _, _]) dX6_things_30 rfl (by decide) rfl ?_
      refine fw_iconst dX6_things_31 ⟨by decide, by decide⟩ ?_
      refine fw_istore (ls2 := [_, _, _, _, _]) dX6_things_32 (by decide) rfl ?_
      exact lp_X6_things M N M1 L L1 hR m d (by omega) (by omega) g1 g2 13 0 0 (by decide) (by decide) (by decide) rfl
    · skip
      refine fw_iconst dX6_things_21 ⟨by decide, by decide⟩ ?_
      exact fw_iret dX6_things_22 ⟨rfl, rfl, rfl⟩ (⟨(by congr 2; unfold an_things; (repeat' split) <;> omega), rl_mq_rf N K⟩)

set_option maxRecDepth 20000 in
set_option maxHeartbeats 4000000 in
theorem sp_X6_things (M N : fw_F) (L K : fw_G) (hR : Rel M L (fw_upd N 0 0 0) K) (m d : Int) : fw_SD mX6_things [fw_r 0, fw_i m, fw_i d] N K (fun r N2 K2 => r = some (fw_i (an_things ((fw_upd N 0 0 0) 0 2) ((fw_upd N 0 0 0) 0 4) m d (ab_sm (fun t => if (rl_S M (fw_upd N 0 0 0) m d).1 1 t = 0 then 0 else 1) 12))) ∧ rl_mq (fw_upd N 0 0 0) K N2 K2) := by
  refine fw_SP_of pl_X6_things (ls := [_, _, _]) rfl (Nat.le_of_ble_eq_true rfl) fun hA hM => ?_
  refine fw_aload_n dX6_things_0 rfl rfl ?_
  refine fw_iconst dX6_things_1 ⟨by decide, by decide⟩ ?_
  refine fw_puti 0 rfl dX6_things_2 fp_6_106 ly1_0 (by decide) ⟨by decide, by decide⟩ rfl ?_
  exact pm_X6_things M (fw_upd N 0 0 0) L K hR m d

noncomputable def ab_fd (S : ab_S) (lb : Int → Int) (f v : Int) : Int := Classical.epsilon (fun q : Int => (q = -9 ∧ ∀ u, 1 ≤ u → u < 12 → ¬ (¬ S.1 1 u = 0 ∧ S.1 3 u = f ∧ lb u = v)) ∨ (1 ≤ q ∧ q < 12 ∧ ¬ S.1 1 q = 0 ∧ S.1 3 q = f ∧ lb q = v))
theorem ab_fd_of {S : ab_S} {e f v q : Int} (ha : ab_apt S e) (h : (q = -9 ∧ ∀ u, 1 ≤ u → u < 12 → ¬ (¬ S.1 1 u = 0 ∧ S.1 3 u = f ∧ ab_LB S e u = v)) ∨ (1 ≤ q ∧ q < 12 ∧ ¬ S.1 1 q = 0 ∧ S.1 3 q = f ∧ ab_LB S e q = v)) : q = ab_fd S (ab_LB S e) f v := by
  have hs := Classical.epsilon_spec (p := fun q : Int => (q = -9 ∧ ∀ u, 1 ≤ u → u < 12 → ¬ (¬ S.1 1 u = 0 ∧ S.1 3 u = f ∧ ab_LB S e u = v)) ∨ (1 ≤ q ∧ q < 12 ∧ ¬ S.1 1 q = 0 ∧ S.1 3 q = f ∧ ab_LB S e q = v)) ⟨q, h⟩
  rcases h with ⟨h1, h2⟩ | ⟨h1, h2, h3, h4, h5⟩ <;> rcases hs with ⟨s1, s2⟩ | ⟨s1, s2, s3, s4, s5⟩
  · exact h1.trans s1.symm
  · exact absurd ⟨s3, s4, s5⟩ (h2 _ s1 s2)
  · exact absurd ⟨h3, h4, h5⟩ (s2 _ h1 h2)
  · exact ha _ _ h1 h2 s1 s2 h3 s3 (h4.trans s4.symm) (h5.trans s5.symm)
def an_find (n : Int) (S : ab_S) (m f v z : Int) : Int := if ¬ ((0 ≤ m ∧ m < n) ∧ (0 ≤ f ∧ f < 12) ∧ (0 ≤ v ∧ v ≤ 22)) then -1 else if ¬ (¬ S.1 1 f = 0 ∧ S.1 2 f = 2) then -2 else z

set_option maxRecDepth 20000 in
set_option maxHeartbeats 4000000 in
theorem sp_X5_find (M N : fw_F) (L K : fw_G) (hR : Rel M L N K) (m f v : Int) : fw_SC mX5_find [fw_r 0, fw_i m, fw_i f, fw_i v] M L (fun r M2 L2 => r = some (fw_i (an_find (N 0 2) (rl_S M N m (N 0 4)) m f v (ab_fd (rl_S M N m (N 0 4)) (ab_LB (rl_S M N m (N 0 4)) (rl_e N)) f v))) ∧ Rel M2 L2 N K) := by
  refine fw_SP_of pl_X5_find (ls := [_, _, _, _]) rfl (Nat.le_of_ble_eq_true rfl) fun hA hM => ?_
  obtain ⟨ha1, ha2, ha3, ha4, ha5, ha6⟩ := hR.1
  have hn1 := hR.2.1.1.1.1
  have hn2 := hR.2.1.1.1.2.1
  refine fw_aload_n dX5_find_0 rfl rfl ?_
  refine fw_iload_n dX5_find_1 rfl rfl ?_
  refine fw_pV mX5_isMachine [_] dX5_find_2 mv_X5_isMachine lk_5_62 ⟨⟨by decide, by decide⟩, rfl, rfl, rfl, by decide, by decide⟩ ly0_0 ⟨by decide, by decide⟩ rfl rfl (Nat.le_of_ble_eq_true rfl) (sp_X5_isMachine _ _ _) ?_
  refine fw_bifeq 25 dX5_find_5 (by decide) (fun h5 => ?_) (fun h5 => ?_)
  · skip
    refine fw_iconst dX5_find_25 ⟨by decide, by decide⟩ ?_
    exact fw_iret dX5_find_26 ⟨rfl, rfl, rfl⟩ (⟨(by congr 2; unfold an_find; (repeat' split) <;> omega), hR⟩)
  · skip
    refine fw_iload_n dX5_find_8 rfl rfl ?_
    refine fw_pS mX5_isThing [_] dX5_find_9 mv_X5_isThing lk_5_66 ⟨⟨by decide, by decide⟩, rfl, rfl, rfl, by decide, by decide⟩ rfl rfl (Nat.le_of_ble_eq_true rfl) (sp_X5_isThing _ _ _) ?_
    refine fw_bifeq 25 dX5_find_12 (by decide) (fun h12 => ?_) (fun h12 => ?_)
    · skip
      refine fw_iconst dX5_find_25 ⟨by decide, by decide⟩ ?_
      exact fw_iret dX5_find_26 ⟨rfl, rfl, rfl⟩ (⟨(by congr 2; unfold an_find; (repeat' split) <;> omega), hR⟩)
    · skip
      refine fw_iload_n dX5_find_15 rfl rfl ?_
      refine fw_if_lt 25 dX5_find_16 (by decide) (fun h16 => ?_) (fun h16 => ?_)
      · skip
        refine fw_iconst dX5_find_25 ⟨by decide, by decide⟩ ?_
        exact fw_iret dX5_find_26 ⟨rfl, rfl, rfl⟩ (⟨(by congr 2; unfold an_find; (repeat' split) <;> omega), hR⟩)
      · skip
        refine fw_iload_n dX5_find_19 rfl rfl ?_
        refine fw_bipush dX5_find_20 ⟨by decide, by decide⟩ (by decide) ?_
        refine fw_icmp_le 27 dX5_find_22 (by decide) (fun h22 => ?_) (fun h22 => ?_)
        · skip
          refine fw_aload_n dX5_find_27 rfl rfl ?_
          refine fw_iload_n dX5_find_28 rfl rfl ?_
          refine fw_cV mX5_growNow [_] dX5_find_29 mv_X5_growNow lk_5_72 ⟨⟨by decide, by decide⟩, rfl, rfl, rfl, by decide, by decide⟩ ly0_0 ⟨by decide, by decide⟩ rfl rfl (Nat.le_of_ble_eq_true rfl) (rl_growNow hR (by omega)) (fun r M1 L1 hp hM1 => ?_)
          obtain ⟨rfl, rfl, g1, g2⟩ := hp
          obtain ⟨e0, e1, e2, e3, e4, e5, e6, e7⟩ := g2.1 f (by omega) (by omega)
          have et := ti_there (rl_ti hR m (N 0 4)) (t := f) (by omega)
          have el := g2.2.1 f (by omega) (by omega)
          refine fw_aload_n dX5_find_32 rfl rfl ?_
          refine fw_getr 1 168 rfl dX5_find_33 ff_5_21 ly0_0 ⟨by decide, by decide⟩ rfl rfl (by decide) ?_
          refine fw_iload_n dX5_find_36 rfl rfl ?_
          refine fw_pV mX4_isFolder [_] dX5_find_37 mv_X4_isFolder lk_5_75 ⟨⟨by decide, by decide⟩, rfl, rfl, rfl, by decide, by decide⟩ ly0_168 ⟨by decide, by decide⟩ rfl rfl (Nat.le_of_ble_eq_true rfl) (sp_X4_isFolder _ _ _ (by omega)) ?_
          rw [e1, e2]
          refine fw_bifne 46 dX5_find_40 (by decide) (fun h40 => ?_) (fun h40 => ?_)
          · skip
            refine fw_aload_n dX5_find_46 rfl rfl ?_
            refine fw_getr 1 168 rfl dX5_find_47 ff_5_21 ly0_0 ⟨by decide, by decide⟩ rfl rfl (by decide) ?_
            refine fw_iload_n dX5_find_50 rfl rfl ?_
            refine fw_iload_n dX5_find_51 rfl rfl ?_
            refine fw_cV mX4_thingNamed [_, _] dX5_find_52 mv_X4_thingNamed lk_5_206 ⟨⟨by decide, by decide⟩, rfl, rfl, rfl, by decide, by decide⟩ ly0_168 ⟨by decide, by decide⟩ rfl rfl (Nat.le_of_ble_eq_true rfl) (sp_X4_thingNamed _ _ _ _) (fun r M1 L1 hp hM1 => ?_)
            obtain ⟨rfl, rfl, q, rfl, hq⟩ := hp
            refine fw_iret dX5_find_55 ⟨rfl, rfl, rfl⟩ ?_
            refine ⟨?_, rl_cl hR (fun k a b => ⟨g1 k a, rfl⟩)⟩
            congr 2
            unfold an_find
            rw [if_neg (by omega), if_neg (fun z => z h40)]
            refine ab_fd_of g2.2.2 ?_
            rcases hq with ⟨q1, q2⟩ | ⟨q1, q2, q3, q4, q5⟩
            · refine Or.inl ⟨q1, fun u u0 u1 hu => q2 u u0 u1 ?_⟩
              obtain ⟨w0, w1, w2, w3, -⟩ := g2.1 u (by omega) u1
              rw [w1, w3, (g2.2.1 u (by omega) u1 hu.1).1]; exact hu
            · obtain ⟨w0, w1, w2, w3, -⟩ := g2.1 q (by omega) q2
              rw [w1] at q3
              rw [w3] at q4
              rw [(g2.2.1 q (by omega) q2 q3).1] at q5
              exact Or.inr ⟨q1, q2, q3, q4, q5⟩
          · skip
            refine fw_bipush dX5_find_43 ⟨by decide, by decide⟩ (by decide) ?_
            exact fw_iret dX5_find_45 ⟨rfl, rfl, rfl⟩ (⟨(by congr 2; unfold an_find; (repeat' split) <;> omega), (rl_cl hR (fun k a b => ⟨g1 k a, rfl⟩))⟩)
        · skip
          refine fw_iconst dX5_find_25 ⟨by decide, by decide⟩ ?_
          exact fw_iret dX5_find_26 ⟨rfl, rfl, rfl⟩ (⟨(by congr 2; unfold an_find; (repeat' split) <;> omega), hR⟩)

set_option maxRecDepth 20000 in
set_option maxHeartbeats 4000000 in
theorem lp_X6_find (M N N1 : fw_F) (L K : fw_G) (hR : Rel M L N K) (m f v : Int) (hm : 0 ≤ m ∧ m < N 0 2) (hf : 0 ≤ f ∧ f < 12) (hv : 0 ≤ v ∧ v ≤ 22) (hF : ¬ (rl_S M N m (N 0 4)).1 1 f = 0 ∧ (rl_S M N m (N 0 4)).1 2 f = 2) (g1 : ∀ k, k < 7 ∨ 19 < k → N1 k = N k) (g2 : md_V N1 (rl_S M N m (N 0 4)) (rl_e N)) : ∀ (q : Nat) (i z : Int), 12 - i < q → 1 ≤ i → i ≤ 12 → ((z = -9 ∧ ∀ u, 1 ≤ u → u < i → ¬ (¬ (rl_S M N m (N 0 4)).1 1 u = 0 ∧ (rl_S M N m (N 0 4)).1 3 u = f ∧ ab_LB (rl_S M N m (N 0 4)) (rl_e N) u = v)) ∨ (1 ≤ z ∧ z < i ∧ ¬ (rl_S M N m (N 0 4)).1 1 z = 0 ∧ (rl_S M N m (N 0 4)).1 3 z = f ∧ ab_LB (rl_S M N m (N 0 4)) (rl_e N) z = v)) → fw_D mX6_find 55 [some (fw_r 0), some (fw_i m), some (fw_i f), some (fw_i v), some (fw_i z), some (fw_i i)] [] N1 K (fun r N2 K2 => r = some (fw_i (an_find (N 0 2) (rl_S M N m (N 0 4)) m f v (ab_fd (rl_S M N m (N 0 4)) (ab_LB (rl_S M N m (N 0 4)) (rl_e N)) f v))) ∧ rl_mq N K N2 K2) := by
  intro q
  induction q with
  | zero => intro i z h0 h1 h2; omega
  | succ q ih =>
    intro i z h0 h1 h2 h3
    refine fw_iload dX6_find_55 rfl ?_
    refine fw_bipush dX6_find_57 ⟨by decide, by decide⟩ (by decide) ?_
    refine fw_icmp_ge 109 dX6_find_59 (by decide) (fun h59 => ?_) (fun h59 => ?_)
    · skip
      refine fw_iload dX6_find_109 rfl ?_
      refine fw_iret dX6_find_111 ⟨rfl, rfl, rfl⟩ ?_
      refine ⟨?_, rl_mq_of g1⟩
      congr 2
      unfold an_find
      rw [if_neg (by omega), if_neg (fun z => z hF)]
      rw [show i = 12 by omega] at h3
      exact ab_fd_of g2.2.2 h3
    · skip
      obtain ⟨e0, e1, e2, e3, e4, e6, e7⟩ := g2.1 i (by omega) (by omega)
      refine fw_aload_n dX6_find_62 rfl rfl ?_
      refine fw_getr 15 11 rfl dX6_find_63 ff_6_46 ly1_0 ⟨by decide, by decide⟩ rfl rfl (by decide) ?_
      refine fw_iload dX6_find_66 rfl ?_
      refine fw_baload dX6_find_68 ly1_11 ⟨by decide, by decide⟩ ⟨by omega, by omega⟩ ?_
      refine fw_if_eq 99 dX6_find_69 (by decide) (fun h69 => ?_) (fun h69 => ?_)
      · skip
        refine fw_iload dX6_find_99 rfl ?_
        refine fw_istore (ls2 := [_, _, _, _, _, _]) dX6_find_101 (by decide) rfl ?_
        refine fw_iinc (ls2 := [_, _, _, _, _, _]) dX6_find_103 rfl ⟨by omega, by omega⟩ (by decide) rfl ?_
        refine fw_goto 55 dX6_find_106 (by decide) ?_
        refine ih (i + 1) z (by omega) (by omega) (by omega) ?_
        rcases h3 with ⟨z1, z2⟩ | ⟨z1, z2, z3⟩
        · refine Or.inl ⟨z1, fun u u0 u1 hu => ?_⟩
          rcases (show u < i ∨ u = i by omega) with c | c
          · exact z2 u u0 c hu
          · subst c
            exact hu.1 (e1.symm.trans h69)
        · exact Or.inr ⟨z1, by omega, z3⟩
      · skip
        refine fw_aload_n dX6_find_72 rfl rfl ?_
        refine fw_getr 17 13 rfl dX6_find_73 ff_6_52 ly1_0 ⟨by decide, by decide⟩ rfl rfl (by decide) ?_
        refine fw_iload dX6_find_76 rfl ?_
        refine fw_iaload dX6_find_78 ly1_13 ⟨by decide, by decide⟩ ⟨by omega, by omega⟩ ?_
        refine fw_iload_n dX6_find_79 rfl rfl ?_
        refine fw_icmp_ne 99 dX6_find_80 (by decide) (fun h80 => ?_) (fun h80 => ?_)
        · skip
          refine fw_iload dX6_find_99 rfl ?_
          refine fw_istore (ls2 := [_, _, _, _, _, _]) dX6_find_101 (by decide) rfl ?_
          refine fw_iinc (ls2 := [_, _, _, _, _, _]) dX6_find_103 rfl ⟨by omega, by omega⟩ (by decide) rfl ?_
          refine fw_goto 55 dX6_find_106 (by decide) ?_
          refine ih (i + 1) z (by omega) (by omega) (by omega) ?_
          rcases h3 with ⟨z1, z2⟩ | ⟨z1, z2, z3⟩
          · refine Or.inl ⟨z1, fun u u0 u1 hu => ?_⟩
            rcases (show u < i ∨ u = i by omega) with c | c
            · exact z2 u u0 c hu
            · subst c
              exact h80 (e3.trans hu.2.1)
          · exact Or.inr ⟨z1, by omega, z3⟩
        · skip
          refine fw_aload_n dX6_find_83 rfl rfl ?_
          refine fw_getr 20 16 rfl dX6_find_84 ff_6_61 ly1_0 ⟨by decide, by decide⟩ rfl rfl (by decide) ?_
          refine fw_iload dX6_find_87 rfl ?_
          refine fw_iaload dX6_find_89 ly1_16 ⟨by decide, by decide⟩ ⟨by omega, by omega⟩ ?_
          refine fw_iload_n dX6_find_90 rfl rfl ?_
          refine fw_icmp_ne 99 dX6_find_91 (by decide) (fun h91 => ?_) (fun h91 => ?_)
          · skip
            refine fw_iload dX6_find_99 rfl ?_
            refine fw_istore (ls2 := [_, _, _, _, _, _]) dX6_find_101 (by decide) rfl ?_
            refine fw_iinc (ls2 := [_, _, _, _, _, _]) dX6_find_103 rfl ⟨by omega, by omega⟩ (by decide) rfl ?_
            refine fw_goto 55 dX6_find_106 (by decide) ?_
            refine ih (i + 1) z (by omega) (by omega) (by omega) ?_
            rcases h3 with ⟨z1, z2⟩ | ⟨z1, z2, z3⟩
            · refine Or.inl ⟨z1, fun u u0 u1 hu => ?_⟩
              rcases (show u < i ∨ u = i by omega) with c | c
              · exact z2 u u0 c hu
              · subst c
                exact h91 ((g2.2.1 u (by omega) (by omega) hu.1).1.trans hu.2.2)
            · exact Or.inr ⟨z1, by omega, z3⟩
          · skip
            refine fw_iload dX6_find_94 rfl ?_
            refine fw_goto 101 dX6_find_96 (by decide) ?_
            refine fw_istore (ls2 := [_, _, _, _, _, _]) dX6_find_101 (by decide) rfl ?_
            refine fw_iinc (ls2 := [_, _, _, _, _, _]) dX6_find_103 rfl ⟨by omega, by omega⟩ (by decide) rfl ?_
            refine fw_goto 55 dX6_find_106 (by decide) ?_
            rw [e1] at h69
            rw [e3] at h80
            rw [(g2.2.1 i (by omega) (by omega) h69).1] at h91
            exact ih (i + 1) i (by omega) (by omega) (by omega) (Or.inr ⟨h1, by omega, h69, h80, h91⟩)

set_option maxRecDepth 20000 in
set_option maxHeartbeats 4000000 in
theorem pm_X6_find (M N : fw_F) (L K : fw_G) (hR : Rel M L N K) (m f v : Int) : fw_D mX6_find 5 [some (fw_r 0), some (fw_i m), some (fw_i f), some (fw_i v)] [] N K (fun r N2 K2 => r = some (fw_i (an_find (N 0 2) (rl_S M N m (N 0 4)) m f v (ab_fd (rl_S M N m (N 0 4)) (ab_LB (rl_S M N m (N 0 4)) (rl_e N)) f v))) ∧ rl_mq N K N2 K2) := by
  obtain ⟨ha1, ha2, ha3, ha4, ha5, ha6⟩ := hR.1
  have hn1 := hR.2.1.1.1.1
  have hn2 := hR.2.1.1.1.2.1
  refine fw_aload_n dX6_find_5 rfl rfl ?_
  refine fw_iload_n dX6_find_6 rfl rfl ?_
  refine fw_pV mX6_isMachine [_] dX6_find_7 mv_X6_isMachine lk_6_179 ⟨⟨by decide, by decide⟩, rfl, rfl, rfl, by decide, by decide⟩ ly1_0 ⟨by decide, by decide⟩ rfl rfl (Nat.le_of_ble_eq_true rfl) (sp_X6_isMachine _ _ _ (by omega)) ?_
  refine fw_bifeq 30 dX6_find_10 (by decide) (fun h10 => ?_) (fun h10 => ?_)
  · skip
    refine fw_iconst dX6_find_30 ⟨by decide, by decide⟩ ?_
    exact fw_iret dX6_find_31 ⟨rfl, rfl, rfl⟩ (⟨(by congr 2; unfold an_find; (repeat' split) <;> omega), rl_mq_rf N K⟩)
  · skip
    refine fw_iload_n dX6_find_13 rfl rfl ?_
    refine fw_pS mX6_isThing [_] dX6_find_14 mv_X6_isThing lk_6_182 ⟨⟨by decide, by decide⟩, rfl, rfl, rfl, by decide, by decide⟩ rfl rfl (Nat.le_of_ble_eq_true rfl) (sp_X6_isThing _ _ _) ?_
    refine fw_bifeq 30 dX6_find_17 (by decide) (fun h17 => ?_) (fun h17 => ?_)
    · skip
      refine fw_iconst dX6_find_30 ⟨by decide, by decide⟩ ?_
      exact fw_iret dX6_find_31 ⟨rfl, rfl, rfl⟩ (⟨(by congr 2; unfold an_find; (repeat' split) <;> omega), rl_mq_rf N K⟩)
    · skip
      refine fw_iload_n dX6_find_20 rfl rfl ?_
      refine fw_iconst dX6_find_21 ⟨by decide, by decide⟩ ?_
      refine fw_bipush dX6_find_22 ⟨by decide, by decide⟩ (by decide) ?_
      refine fw_pS mX6_in [_, _, _] dX6_find_24 mv_X6_in lk_6_115 ⟨⟨by decide, by decide⟩, rfl, rfl, rfl, by decide, by decide⟩ rfl rfl (Nat.le_of_ble_eq_true rfl) (sp_X6_in _ _ _ _ _) ?_
      refine fw_bifne 32 dX6_find_27 (by decide) (fun h27 => ?_) (fun h27 => ?_)
      · skip
        refine fw_aload_n dX6_find_32 rfl rfl ?_
        refine fw_iload_n dX6_find_33 rfl rfl ?_
        refine fw_cV mX6_tellsNow [_] dX6_find_34 mv_X6_tellsNow lk_6_176 ⟨⟨by decide, by decide⟩, rfl, rfl, rfl, by decide, by decide⟩ ly1_0 ⟨by decide, by decide⟩ rfl rfl (Nat.le_of_ble_eq_true rfl) (rl_tellsNow hR (by omega)) (fun r M1 L1 hp hM1 => ?_)
        obtain ⟨rfl, rfl, g1, g2⟩ := hp
        obtain ⟨e0, e1, e2, e3, e4, e6, e7⟩ := g2.1 f (by omega) (by omega)
        have et := ti_there (rl_ti hR m (N 0 4)) (t := f) (by omega)
        have el := g2.2.1 f (by omega) (by omega)
        refine fw_aload_n dX6_find_37 rfl rfl ?_
        refine fw_iload_n dX6_find_38 rfl rfl ?_
        refine fw_pV mX6_isFolder [_] dX6_find_39 mv_X6_isFolder lk_6_137 ⟨⟨by decide, by decide⟩, rfl, rfl, rfl, by decide, by decide⟩ ly1_0 ⟨by decide, by decide⟩ rfl rfl (Nat.le_of_ble_eq_true rfl) (sp_X6_isFolder _ _ _ (by omega)) ?_
        refine fw_bifne 48 dX6_find_42 (by decide) (fun h42 => ?_) (fun h42 => ?_)
        · skip
          refine fw_bipush dX6_find_48 ⟨by decide, by decide⟩ (by decide) ?_
          refine fw_istore (ls2 := [_, _, _, _, _]) dX6_find_50 (by decide) rfl ?_
          refine fw_iconst dX6_find_52 ⟨by decide, by decide⟩ ?_
          refine fw_istore (ls2 := [_, _, _, _, _, _]) dX6_find_53 (by decide) rfl ?_
          have hF := (md_isF g2.1 (rl_ti hR m (N 0 4)) (u := f) (by omega) (by omega)).mp h42
          exact lp_X6_find M N M1 L L1 hR m f v (by omega) (by omega) (by omega) hF g1 g2 12 1 (-9) (by decide) (by decide) (by decide) (Or.inl ⟨rfl, fun u u0 u1 => by omega⟩)
        · skip
          refine fw_bipush dX6_find_45 ⟨by decide, by decide⟩ (by decide) ?_
          refine fw_iret dX6_find_47 ⟨rfl, rfl, rfl⟩ ?_
          refine ⟨?_, rl_mq_of g1⟩
          have hF := (not_congr (md_isF g2.1 (rl_ti hR m (N 0 4)) (u := f) (by omega) (by omega))).mp h42
          congr 2
          unfold an_find
          rw [if_neg (by omega), if_pos hF]
      · skip
        refine fw_iconst dX6_find_30 ⟨by decide, by decide⟩ ?_
        exact fw_iret dX6_find_31 ⟨rfl, rfl, rfl⟩ (⟨(by congr 2; unfold an_find; (repeat' split) <;> omega), rl_mq_rf N K⟩)

set_option maxRecDepth 20000 in
set_option maxHeartbeats 4000000 in
theorem sp_X6_find (M N : fw_F) (L K : fw_G) (hR : Rel M L (fw_upd N 0 0 0) K) (m f v : Int) : fw_SD mX6_find [fw_r 0, fw_i m, fw_i f, fw_i v] N K (fun r N2 K2 => r = some (fw_i (an_find ((fw_upd N 0 0 0) 0 2) (rl_S M (fw_upd N 0 0 0) m ((fw_upd N 0 0 0) 0 4)) m f v (ab_fd (rl_S M (fw_upd N 0 0 0) m ((fw_upd N 0 0 0) 0 4)) (ab_LB (rl_S M (fw_upd N 0 0 0) m ((fw_upd N 0 0 0) 0 4)) (rl_e (fw_upd N 0 0 0))) f v))) ∧ rl_mq (fw_upd N 0 0 0) K N2 K2) := by
  refine fw_SP_of pl_X6_find (ls := [_, _, _, _]) rfl (Nat.le_of_ble_eq_true rfl) fun hA hM => ?_
  refine fw_aload_n dX6_find_0 rfl rfl ?_
  refine fw_iconst dX6_find_1 ⟨by decide, by decide⟩ ?_
  refine fw_puti 0 rfl dX6_find_2 fp_6_106 ly1_0 (by decide) ⟨by decide, by decide⟩ rfl ?_
  exact pm_X6_find M (fw_upd N 0 0 0) L K hR m f v
