noncomputable def ab_ci (C : Prop) : Int := @ite Int C (Classical.propDecidable C) 1 0
theorem ab_ci_1 {C : Prop} (h : C) : ab_ci C = 1 := if_pos h
theorem ab_ci_0 {C : Prop} (h : ¬ C) : ab_ci C = 0 := if_neg h
def rl_C (M N : fw_F) (pe m t d b : Int) : Prop := ∃ i, 0 ≤ i ∧ i < b ∧ N 26 i = pe ∧ N 28 i ≤ d ∧ (N 29 i = -9 ∨ d < N 29 i) ∧ fw_up ((rl_S M N m d).1 3) (N 27 i) 12 t = N 27 i
def an_could (n dy : Int) (S : ab_S) (pe m t d z : Int) : Int := if ¬ ((0 ≤ pe ∧ pe < 8) ∧ (0 ≤ m ∧ m < n) ∧ (0 ≤ t ∧ t < 12) ∧ (0 ≤ d ∧ d ≤ dy)) then -1 else if S.1 1 t = 0 then -2 else z

set_option maxRecDepth 20000 in
set_option maxHeartbeats 4000000 in
theorem lp_X5_could (M N M1 : fw_F) (L K : fw_G) (hR : Rel M L N K) (pe m t d : Int) (hp : 0 ≤ pe ∧ pe < 8) (hm : 0 ≤ m ∧ m < N 0 2) (ht : 0 ≤ t ∧ t < 12) (hd : 0 ≤ d ∧ d ≤ N 0 4) (hth : ¬ (rl_S M N m d).1 1 t = 0) (g1 : ∀ k, k < 169 ∨ 177 < k → M1 k = M k) (g2 : cl_V M1 (rl_S M N m d) (rl_e N)) : ∀ (q : Nat) (i : Int), N 0 31 - i < q → 0 ≤ i → i ≤ N 0 31 → ¬ rl_C M N pe m t d i → fw_C mX5_could 64 [some (fw_r 0), some (fw_i pe), some (fw_i m), some (fw_i t), some (fw_i d), some (fw_i i)] [] M1 L (fun r M2 L2 => r = some (fw_i (an_could (N 0 2) (N 0 4) (rl_S M N m d) pe m t d (ab_ci (rl_C M N pe m t d (N 0 31))))) ∧ Rel M2 L2 N K) := by
  intro q
  induction q with
  | zero => intro i h0 h1 h2; omega
  | succ q ih =>
    intro i h0 h1 h2 h3
    obtain ⟨s1, s2, s3⟩ := hR.2.2.2.2.2
    have c198 := g1 198 (by omega)
    have c199 := g1 199 (by omega)
    have c200 := g1 200 (by omega)
    have c201 := g1 201 (by omega)
    have c202 := g1 202 (by omega)
    have hac := (rl_ti hR m d).2.2.1.1
    have hup := fun u (u0 : 0 ≤ u) (u1 : u < 12) => (g2.1 u u0 u1).2.2.2.1
    refine fw_iload dX5_could_64 rfl ?_
    refine fw_aload_n dX5_could_66 rfl rfl ?_
    refine fw_getr 6 198 rfl dX5_could_67 ff_5_48 ly0_0 ⟨by decide, by decide⟩ rfl rfl (by decide) ?_
    refine fw_geti 4 rfl dX5_could_70 ff_5_262 ly0_198 ⟨by decide, by decide⟩ rfl ?_
    rw [c198, s1]
    refine fw_icmp_ge 120 dX5_could_73 (by decide) (fun h73 => ?_) (fun h73 => ?_)
    · skip
      refine fw_iconst dX5_could_120 ⟨by decide, by decide⟩ ?_
      refine fw_iret dX5_could_121 ⟨rfl, rfl, rfl⟩ ?_
      refine ⟨?_, rl_cl hR (fun k a b => ⟨g1 k a, rfl⟩)⟩
      congr 2
      unfold an_could
      rw [if_neg (by omega), if_neg hth]
      rw [show i = N 0 31 by omega] at h3
      exact (ab_ci_0 h3).symm
    · skip
      obtain ⟨s4, s5, s6, s7⟩ := s3 i h1 (by omega)
      refine fw_aload_n dX5_could_76 rfl rfl ?_
      refine fw_getr 6 198 rfl dX5_could_77 ff_5_48 ly0_0 ⟨by decide, by decide⟩ rfl rfl (by decide) ?_
      refine fw_iload dX5_could_80 rfl ?_
      refine fw_iload_n dX5_could_82 rfl rfl ?_
      refine fw_iload dX5_could_83 rfl ?_
      refine fw_pV mX3_holds [_, _, _] dX5_could_85 mv_X3_holds lk_5_272 ⟨⟨by decide, by decide⟩, rfl, rfl, rfl, by decide, by decide⟩ ly0_198 ⟨by decide, by decide⟩ rfl rfl (Nat.le_of_ble_eq_true rfl) (sp_X3_holds _ _ _ _ _ (by omega)) ?_
      rw [c199, c201, c202, s4, s6, s7]
      refine fw_bifeq 114 dX5_could_88 (by decide) (fun h88 => ?_) (fun h88 => ?_)
      · skip
        refine fw_iinc (ls2 := [_, _, _, _, _, _]) dX5_could_114 rfl ⟨by omega, by omega⟩ (by decide) rfl ?_
        refine fw_goto 64 dX5_could_117 (by decide) ?_
        refine ih (i + 1) (by omega) (by omega) (by omega) (fun ⟨u, u1, u2, u3, u4, u5, u6⟩ => ?_)
        rcases (show u < i ∨ u = i by omega) with c | c
        · exact h3 ⟨u, u1, c, u3, u4, u5, u6⟩
        · subst c; exact h88 ⟨u3, u4, u5⟩
      · skip
        refine fw_aload_n dX5_could_91 rfl rfl ?_
        refine fw_getr 1 168 rfl dX5_could_92 ff_5_21 ly0_0 ⟨by decide, by decide⟩ rfl rfl (by decide) ?_
        refine fw_iload_n dX5_could_95 rfl rfl ?_
        refine fw_aload_n dX5_could_96 rfl rfl ?_
        refine fw_getr 6 198 rfl dX5_could_97 ff_5_48 ly0_0 ⟨by decide, by decide⟩ rfl rfl (by decide) ?_
        refine fw_getr 1 200 rfl dX5_could_100 ff_5_276 ly0_198 ⟨by decide, by decide⟩ rfl rfl (by decide) ?_
        refine fw_iload dX5_could_103 rfl ?_
        refine fw_iaload dX5_could_105 ly0_200 ⟨by decide, by decide⟩ ⟨by omega, by omega⟩ ?_
        rw [c200, s5]
        refine fw_pV mX4_isWithin [_, _] dX5_could_106 mv_X4_isWithin lk_5_278 ⟨⟨by decide, by decide⟩, rfl, rfl, rfl, by decide, by decide⟩ ly0_168 ⟨by decide, by decide⟩ rfl rfl (Nat.le_of_ble_eq_true rfl) (sp_X4_isWithin _ _ _ _ (fun u u0 u1 => by rw [hup u u0 u1]; exact hac.1 u u0 u1) ht) ?_
        rw [ab_up_congr hac hup _ 12 t ht.1 ht.2]
        refine fw_bifeq 114 dX5_could_109 (by decide) (fun h109 => ?_) (fun h109 => ?_)
        · skip
          refine fw_iinc (ls2 := [_, _, _, _, _, _]) dX5_could_114 rfl ⟨by omega, by omega⟩ (by decide) rfl ?_
          refine fw_goto 64 dX5_could_117 (by decide) ?_
          refine ih (i + 1) (by omega) (by omega) (by omega) (fun ⟨u, u1, u2, u3, u4, u5, u6⟩ => ?_)
          rcases (show u < i ∨ u = i by omega) with c | c
          · exact h3 ⟨u, u1, c, u3, u4, u5, u6⟩
          · subst c; exact h109 u6
        · skip
          refine fw_iconst dX5_could_112 ⟨by decide, by decide⟩ ?_
          refine fw_iret dX5_could_113 ⟨rfl, rfl, rfl⟩ ?_
          refine ⟨?_, rl_cl hR (fun k a b => ⟨g1 k a, rfl⟩)⟩
          congr 2
          unfold an_could
          rw [if_neg (by omega), if_neg hth]
          exact (ab_ci_1 ⟨i, h1, by omega, h88.1, h88.2.1, h88.2.2, h109⟩).symm

set_option maxRecDepth 20000 in
set_option maxHeartbeats 4000000 in
theorem sp_X5_could (M N : fw_F) (L K : fw_G) (hR : Rel M L N K) (pe m t d : Int) : fw_SC mX5_could [fw_r 0, fw_i pe, fw_i m, fw_i t, fw_i d] M L (fun r M2 L2 => r = some (fw_i (an_could (N 0 2) (N 0 4) (rl_S M N m d) pe m t d (ab_ci (rl_C M N pe m t d (N 0 31))))) ∧ Rel M2 L2 N K) := by
  refine fw_SP_of pl_X5_could (ls := [_, _, _, _, _]) rfl (Nat.le_of_ble_eq_true rfl) fun hA hM => ?_
  obtain ⟨ha1, ha2, ha3, ha4, ha5, ha6⟩ := hR.1
  have hn1 := hR.2.1.1.1.1
  have hn2 := hR.2.1.1.1.2.1
  refine fw_iload_n dX5_could_0 rfl rfl ?_
  refine fw_pS mX5_isPerson [_] dX5_could_1 mv_X5_isPerson lk_5_259 ⟨⟨by decide, by decide⟩, rfl, rfl, rfl, by decide, by decide⟩ rfl rfl (Nat.le_of_ble_eq_true rfl) (sp_X5_isPerson _ _ _) ?_
  refine fw_bifeq 31 dX5_could_4 (by decide) (fun h4 => ?_) (fun h4 => ?_)
  · skip
    refine fw_iconst dX5_could_31 ⟨by decide, by decide⟩ ?_
    exact fw_iret dX5_could_32 ⟨rfl, rfl, rfl⟩ (⟨(by congr 2; unfold an_could; (repeat' split) <;> omega), hR⟩)
  · skip
    refine fw_aload_n dX5_could_7 rfl rfl ?_
    refine fw_iload_n dX5_could_8 rfl rfl ?_
    refine fw_pV mX5_isMachine [_] dX5_could_9 mv_X5_isMachine lk_5_62 ⟨⟨by decide, by decide⟩, rfl, rfl, rfl, by decide, by decide⟩ ly0_0 ⟨by decide, by decide⟩ rfl rfl (Nat.le_of_ble_eq_true rfl) (sp_X5_isMachine _ _ _) ?_
    refine fw_bifeq 31 dX5_could_12 (by decide) (fun h12 => ?_) (fun h12 => ?_)
    · skip
      refine fw_iconst dX5_could_31 ⟨by decide, by decide⟩ ?_
      exact fw_iret dX5_could_32 ⟨rfl, rfl, rfl⟩ (⟨(by congr 2; unfold an_could; (repeat' split) <;> omega), hR⟩)
    · skip
      refine fw_iload_n dX5_could_15 rfl rfl ?_
      refine fw_pS mX5_isThing [_] dX5_could_16 mv_X5_isThing lk_5_66 ⟨⟨by decide, by decide⟩, rfl, rfl, rfl, by decide, by decide⟩ rfl rfl (Nat.le_of_ble_eq_true rfl) (sp_X5_isThing _ _ _) ?_
      refine fw_bifeq 31 dX5_could_19 (by decide) (fun h19 => ?_) (fun h19 => ?_)
      · skip
        refine fw_iconst dX5_could_31 ⟨by decide, by decide⟩ ?_
        exact fw_iret dX5_could_32 ⟨rfl, rfl, rfl⟩ (⟨(by congr 2; unfold an_could; (repeat' split) <;> omega), hR⟩)
      · skip
        refine fw_aload_n dX5_could_22 rfl rfl ?_
        refine fw_iload dX5_could_23 rfl ?_
        refine fw_pV mX5_isDay [_] dX5_could_25 mv_X5_isDay lk_5_165 ⟨⟨by decide, by decide⟩, rfl, rfl, rfl, by decide, by decide⟩ ly0_0 ⟨by decide, by decide⟩ rfl rfl (Nat.le_of_ble_eq_true rfl) (sp_X5_isDay _ _ _) ?_
        refine fw_bifne 33 dX5_could_28 (by decide) (fun h28 => ?_) (fun h28 => ?_)
        · skip
          refine fw_aload_n dX5_could_33 rfl rfl ?_
          refine fw_getr 1 168 rfl dX5_could_34 ff_5_21 ly0_0 ⟨by decide, by decide⟩ rfl rfl (by decide) ?_
          refine fw_iload_n dX5_could_37 rfl rfl ?_
          refine fw_iload dX5_could_38 rfl ?_
          refine fw_aload_n dX5_could_40 rfl rfl ?_
          refine fw_geti 8 rfl dX5_could_41 ff_5_59 ly0_0 ⟨by decide, by decide⟩ rfl ?_
          rw [ha2]
          refine fw_cV mX4_grow [_, _, _] dX5_could_44 mv_X4_grow lk_5_168 ⟨⟨by decide, by decide⟩, rfl, rfl, rfl, by decide, by decide⟩ ly0_168 ⟨by decide, by decide⟩ rfl rfl (Nat.le_of_ble_eq_true rfl) (rl_grow hR (by omega) (by omega)) (fun r M1 L1 hp hM1 => ?_)
          obtain ⟨rfl, rfl, g1, g2⟩ := hp
          obtain ⟨e0, e1, e2, e3, e4, e5, e6, e7⟩ := g2.1 t (by omega) (by omega)
          have et := ti_there (rl_ti hR m d) (t := t) (by omega)
          refine fw_aload_n dX5_could_47 rfl rfl ?_
          refine fw_getr 1 168 rfl dX5_could_48 ff_5_21 ly0_0 ⟨by decide, by decide⟩ rfl rfl (by decide) ?_
          refine fw_iload_n dX5_could_51 rfl rfl ?_
          refine fw_pV mX4_isThere [_] dX5_could_52 mv_X4_isThere lk_5_107 ⟨⟨by decide, by decide⟩, rfl, rfl, rfl, by decide, by decide⟩ ly0_168 ⟨by decide, by decide⟩ rfl rfl (Nat.le_of_ble_eq_true rfl) (sp_X4_isThere _ _ _ (by omega) (by rw [e1]; exact et.1)) ?_
          refine fw_if_ne 61 dX5_could_55 (by decide) (fun h55 => ?_) (fun h55 => ?_)
          · skip
            refine fw_iconst dX5_could_61 ⟨by decide, by decide⟩ ?_
            refine fw_istore (ls2 := [_, _, _, _, _, _]) dX5_could_62 (by decide) rfl ?_
            have hs2 := hR.2.2.2.2.2.2.1
            exact lp_X5_could M N M1 L1 K hR pe m t d (by omega) (by omega) (by omega) (by omega) (by omega) g1 g2 21 0 (by omega) (by decide) (by omega) (fun ⟨u, u1, u2, _⟩ => by omega)
          · skip
            refine fw_bipush dX5_could_58 ⟨by decide, by decide⟩ (by decide) ?_
            exact fw_iret dX5_could_60 ⟨rfl, rfl, rfl⟩ (⟨(by congr 2; unfold an_could; (repeat' split) <;> omega), (rl_cl hR (fun k a b => ⟨g1 k a, rfl⟩))⟩)
        · skip
          refine fw_iconst dX5_could_31 ⟨by decide, by decide⟩ ?_
          exact fw_iret dX5_could_32 ⟨rfl, rfl, rfl⟩ (⟨(by congr 2; unfold an_could; (repeat' split) <;> omega), hR⟩)

set_option maxRecDepth 20000 in
set_option maxHeartbeats 4000000 in
theorem lp_X6_could (M N N1 : fw_F) (L K : fw_G) (hR : Rel M L N K) (pe m t d : Int) (hp : 0 ≤ pe ∧ pe < 8) (hm : 0 ≤ m ∧ m < N 0 2) (ht : 0 ≤ t ∧ t < 12) (hd : 0 ≤ d ∧ d ≤ N 0 4) (hth : ¬ (rl_S M N m d).1 1 t = 0) (g1 : ∀ k, k < 7 ∨ 19 < k → N1 k = N k) (g2 : md_V N1 (rl_S M N m d) (rl_e N)) : ∀ (q : Nat) (i z : Int), N 0 31 - i < q → 0 ≤ i → i ≤ N 0 31 → (z = 0 ∨ z = 1) → (z = 1 ↔ rl_C M N pe m t d i) → fw_D mX6_could 66 [some (fw_r 0), some (fw_i pe), some (fw_i m), some (fw_i t), some (fw_i d), some (fw_i z), some (fw_i i)] [] N1 K (fun r N2 K2 => r = some (fw_i (an_could (N 0 2) (N 0 4) (rl_S M N m d) pe m t d (ab_ci (rl_C M N pe m t d (N 0 31))))) ∧ rl_mq N K N2 K2) := by
  intro q
  induction q with
  | zero => intro i z h0 h1 h2; omega
  | succ q ih =>
    intro i z h0 h1 h2 h3 h4
    have s2 := hR.2.2.2.2.2.2.1
    have c0 := g1 0 (by omega)
    have c26 := g1 26 (by omega)
    have c27 := g1 27 (by omega)
    have c28 := g1 28 (by omega)
    have c29 := g1 29 (by omega)
    have hac := (rl_ti hR m d).2.2.1.1
    have hup := fun u (u0 : 0 ≤ u) (u1 : u < 12) => (g2.1 u u0 u1).2.2.2.1
    refine fw_iload dX6_could_66 rfl ?_
    refine fw_aload_n dX6_could_68 rfl rfl ?_
    refine fw_geti 31 rfl dX6_could_69 ff_6_112 ly1_0 ⟨by decide, by decide⟩ rfl ?_
    rw [c0]
    refine fw_icmp_ge 153 dX6_could_72 (by decide) (fun h72 => ?_) (fun h72 => ?_)
    · skip
      refine fw_iload dX6_could_153 rfl ?_
      refine fw_if_eq 162 dX6_could_155 (by decide) (fun h155 => ?_) (fun h155 => ?_)
      · skip
        refine fw_iconst dX6_could_162 ⟨by decide, by decide⟩ ?_
        refine fw_iret dX6_could_163 ⟨rfl, rfl, rfl⟩ ?_
        refine ⟨?_, rl_mq_of g1⟩
        congr 2
        unfold an_could
        rw [if_neg (by omega), if_neg hth]
        rw [show i = N 0 31 by omega] at h4
        exact (ab_ci_0 (fun q => by have := h4.mpr q; omega)).symm
      · skip
        refine fw_iconst dX6_could_158 ⟨by decide, by decide⟩ ?_
        refine fw_goto 163 dX6_could_159 (by decide) ?_
        refine fw_iret dX6_could_163 ⟨rfl, rfl, rfl⟩ ?_
        refine ⟨?_, rl_mq_of g1⟩
        congr 2
        unfold an_could
        rw [if_neg (by omega), if_neg hth]
        rw [show i = N 0 31 by omega] at h4
        exact (ab_ci_1 (h4.mp (by omega))).symm
    · skip
      refine fw_iload dX6_could_75 rfl ?_
      refine fw_aload_n dX6_could_77 rfl rfl ?_
      refine fw_getr 32 26 rfl dX6_could_78 ff_6_91 ly1_0 ⟨by decide, by decide⟩ rfl rfl (by decide) ?_
      refine fw_iload dX6_could_81 rfl ?_
      refine fw_iaload dX6_could_83 ly1_26 ⟨by decide, by decide⟩ ⟨by omega, by omega⟩ ?_
      rw [c26]
      refine fw_iload_n dX6_could_84 rfl rfl ?_
      refine fw_icmp_ne 143 dX6_could_85 (by decide) (fun h85 => ?_) (fun h85 => ?_)
      · skip
        refine fw_iconst dX6_could_143 ⟨by decide, by decide⟩ ?_
        refine fw_ior dX6_could_144 ?_
        refine fw_istore (ls2 := [_, _, _, _, _, _, _]) dX6_could_145 (by decide) rfl ?_
        refine fw_iinc (ls2 := [_, _, _, _, _, _, _]) dX6_could_147 rfl ⟨by omega, by omega⟩ (by decide) rfl ?_
        refine fw_goto 66 dX6_could_150 (by decide) ?_
        rw [fw_or01 h3 (by first | exact Or.inl rfl | exact Or.inr rfl)]
        rw [if_pos (show (0 : Int) = 0 from rfl)]
        refine ih (i + 1) z (by omega) (by omega) (by omega) h3 (h4.trans ⟨fun ⟨u, u1, u2, u3⟩ => ⟨u, u1, by omega, u3⟩, fun ⟨u, u1, u2, u3, u4, u5, u6⟩ => ?_⟩)
        rcases (show u < i ∨ u = i by omega) with c | c
        · exact ⟨u, u1, c, u3, u4, u5, u6⟩
        · subst c; exfalso; omega
      · skip
        refine fw_aload_n dX6_could_88 rfl rfl ?_
        refine fw_getr 34 28 rfl dX6_could_89 ff_6_97 ly1_0 ⟨by decide, by decide⟩ rfl rfl (by decide) ?_
        refine fw_iload dX6_could_92 rfl ?_
        refine fw_iaload dX6_could_94 ly1_28 ⟨by decide, by decide⟩ ⟨by omega, by omega⟩ ?_
        rw [c28]
        refine fw_iload dX6_could_95 rfl ?_
        refine fw_icmp_gt 143 dX6_could_97 (by decide) (fun h97 => ?_) (fun h97 => ?_)
        · skip
          refine fw_iconst dX6_could_143 ⟨by decide, by decide⟩ ?_
          refine fw_ior dX6_could_144 ?_
          refine fw_istore (ls2 := [_, _, _, _, _, _, _]) dX6_could_145 (by decide) rfl ?_
          refine fw_iinc (ls2 := [_, _, _, _, _, _, _]) dX6_could_147 rfl ⟨by omega, by omega⟩ (by decide) rfl ?_
          refine fw_goto 66 dX6_could_150 (by decide) ?_
          rw [fw_or01 h3 (by first | exact Or.inl rfl | exact Or.inr rfl)]
          rw [if_pos (show (0 : Int) = 0 from rfl)]
          refine ih (i + 1) z (by omega) (by omega) (by omega) h3 (h4.trans ⟨fun ⟨u, u1, u2, u3⟩ => ⟨u, u1, by omega, u3⟩, fun ⟨u, u1, u2, u3, u4, u5, u6⟩ => ?_⟩)
          rcases (show u < i ∨ u = i by omega) with c | c
          · exact ⟨u, u1, c, u3, u4, u5, u6⟩
          · subst c; exfalso; omega
        · skip
          refine fw_aload_n dX6_could_100 rfl rfl ?_
          refine fw_getr 35 29 rfl dX6_could_101 ff_6_100 ly1_0 ⟨by decide, by decide⟩ rfl rfl (by decide) ?_
          refine fw_iload dX6_could_104 rfl ?_
          refine fw_iaload dX6_could_106 ly1_29 ⟨by decide, by decide⟩ ⟨by omega, by omega⟩ ?_
          rw [c29]
          refine fw_bipush dX6_could_107 ⟨by decide, by decide⟩ (by decide) ?_
          refine fw_icmp_eq 124 dX6_could_109 (by decide) (fun h109 => ?_) (fun h109 => ?_)
          · skip
            refine fw_aload_n dX6_could_124 rfl rfl ?_
            refine fw_iload_n dX6_could_125 rfl rfl ?_
            refine fw_aload_n dX6_could_126 rfl rfl ?_
            refine fw_getr 33 27 rfl dX6_could_127 ff_6_94 ly1_0 ⟨by decide, by decide⟩ rfl rfl (by decide) ?_
            refine fw_iload dX6_could_130 rfl ?_
            refine fw_iaload dX6_could_132 ly1_27 ⟨by decide, by decide⟩ ⟨by omega, by omega⟩ ?_
            rw [c27]
            refine fw_pV mX6_liesIn [_, _] dX6_could_133 mv_X6_liesIn lk_6_130 ⟨⟨by decide, by decide⟩, rfl, rfl, rfl, by decide, by decide⟩ ly1_0 ⟨by decide, by decide⟩ rfl rfl (Nat.le_of_ble_eq_true rfl) (sp_X6_liesIn _ _ _ _ (ab_ac_congr hac hup) ht) ?_
            rw [ab_up_congr hac hup _ 12 t ht.1 ht.2]
            refine fw_bifeq 143 dX6_could_136 (by decide) (fun h136 => ?_) (fun h136 => ?_)
            · skip
              refine fw_iconst dX6_could_143 ⟨by decide, by decide⟩ ?_
              refine fw_ior dX6_could_144 ?_
              refine fw_istore (ls2 := [_, _, _, _, _, _, _]) dX6_could_145 (by decide) rfl ?_
              refine fw_iinc (ls2 := [_, _, _, _, _, _, _]) dX6_could_147 rfl ⟨by omega, by omega⟩ (by decide) rfl ?_
              refine fw_goto 66 dX6_could_150 (by decide) ?_
              rw [fw_or01 h3 (by first | exact Or.inl rfl | exact Or.inr rfl)]
              rw [if_pos (show (0 : Int) = 0 from rfl)]
              refine ih (i + 1) z (by omega) (by omega) (by omega) h3 (h4.trans ⟨fun ⟨u, u1, u2, u3⟩ => ⟨u, u1, by omega, u3⟩, fun ⟨u, u1, u2, u3, u4, u5, u6⟩ => ?_⟩)
              rcases (show u < i ∨ u = i by omega) with c | c
              · exact ⟨u, u1, c, u3, u4, u5, u6⟩
              · subst c; exfalso; exact h136 u6
            · skip
              refine fw_iconst dX6_could_139 ⟨by decide, by decide⟩ ?_
              refine fw_goto 144 dX6_could_140 (by decide) ?_
              refine fw_ior dX6_could_144 ?_
              refine fw_istore (ls2 := [_, _, _, _, _, _, _]) dX6_could_145 (by decide) rfl ?_
              refine fw_iinc (ls2 := [_, _, _, _, _, _, _]) dX6_could_147 rfl ⟨by omega, by omega⟩ (by decide) rfl ?_
              refine fw_goto 66 dX6_could_150 (by decide) ?_
              rw [fw_or01 h3 (by first | exact Or.inl rfl | exact Or.inr rfl)]
              rw [if_neg (show ¬ (1 : Int) = 0 by decide)]
              exact ih (i + 1) 1 (by omega) (by omega) (by omega) (Or.inr rfl) ⟨fun _ => ⟨i, h1, by omega, by omega, by omega, by omega, h136⟩, fun _ => rfl⟩
          · skip
            refine fw_aload_n dX6_could_112 rfl rfl ?_
            refine fw_getr 35 29 rfl dX6_could_113 ff_6_100 ly1_0 ⟨by decide, by decide⟩ rfl rfl (by decide) ?_
            refine fw_iload dX6_could_116 rfl ?_
            refine fw_iaload dX6_could_118 ly1_29 ⟨by decide, by decide⟩ ⟨by omega, by omega⟩ ?_
            rw [c29]
            refine fw_iload dX6_could_119 rfl ?_
            refine fw_icmp_le 143 dX6_could_121 (by decide) (fun h121 => ?_) (fun h121 => ?_)
            · skip
              refine fw_iconst dX6_could_143 ⟨by decide, by decide⟩ ?_
              refine fw_ior dX6_could_144 ?_
              refine fw_istore (ls2 := [_, _, _, _, _, _, _]) dX6_could_145 (by decide) rfl ?_
              refine fw_iinc (ls2 := [_, _, _, _, _, _, _]) dX6_could_147 rfl ⟨by omega, by omega⟩ (by decide) rfl ?_
              refine fw_goto 66 dX6_could_150 (by decide) ?_
              rw [fw_or01 h3 (by first | exact Or.inl rfl | exact Or.inr rfl)]
              rw [if_pos (show (0 : Int) = 0 from rfl)]
              refine ih (i + 1) z (by omega) (by omega) (by omega) h3 (h4.trans ⟨fun ⟨u, u1, u2, u3⟩ => ⟨u, u1, by omega, u3⟩, fun ⟨u, u1, u2, u3, u4, u5, u6⟩ => ?_⟩)
              rcases (show u < i ∨ u = i by omega) with c | c
              · exact ⟨u, u1, c, u3, u4, u5, u6⟩
              · subst c; exfalso; omega
            · skip
              refine fw_aload_n dX6_could_124 rfl rfl ?_
              refine fw_iload_n dX6_could_125 rfl rfl ?_
              refine fw_aload_n dX6_could_126 rfl rfl ?_
              refine fw_getr 33 27 rfl dX6_could_127 ff_6_94 ly1_0 ⟨by decide, by decide⟩ rfl rfl (by decide) ?_
              refine fw_iload dX6_could_130 rfl ?_
              refine fw_iaload dX6_could_132 ly1_27 ⟨by decide, by decide⟩ ⟨by omega, by omega⟩ ?_
              rw [c27]
              refine fw_pV mX6_liesIn [_, _] dX6_could_133 mv_X6_liesIn lk_6_130 ⟨⟨by decide, by decide⟩, rfl, rfl, rfl, by decide, by decide⟩ ly1_0 ⟨by decide, by decide⟩ rfl rfl (Nat.le_of_ble_eq_true rfl) (sp_X6_liesIn _ _ _ _ (ab_ac_congr hac hup) ht) ?_
              rw [ab_up_congr hac hup _ 12 t ht.1 ht.2]
              refine fw_bifeq 143 dX6_could_136 (by decide) (fun h136 => ?_) (fun h136 => ?_)
              · skip
                refine fw_iconst dX6_could_143 ⟨by decide, by decide⟩ ?_
                refine fw_ior dX6_could_144 ?_
                refine fw_istore (ls2 := [_, _, _, _, _, _, _]) dX6_could_145 (by decide) rfl ?_
                refine fw_iinc (ls2 := [_, _, _, _, _, _, _]) dX6_could_147 rfl ⟨by omega, by omega⟩ (by decide) rfl ?_
                refine fw_goto 66 dX6_could_150 (by decide) ?_
                rw [fw_or01 h3 (by first | exact Or.inl rfl | exact Or.inr rfl)]
                rw [if_pos (show (0 : Int) = 0 from rfl)]
                refine ih (i + 1) z (by omega) (by omega) (by omega) h3 (h4.trans ⟨fun ⟨u, u1, u2, u3⟩ => ⟨u, u1, by omega, u3⟩, fun ⟨u, u1, u2, u3, u4, u5, u6⟩ => ?_⟩)
                rcases (show u < i ∨ u = i by omega) with c | c
                · exact ⟨u, u1, c, u3, u4, u5, u6⟩
                · subst c; exfalso; exact h136 u6
              · skip
                refine fw_iconst dX6_could_139 ⟨by decide, by decide⟩ ?_
                refine fw_goto 144 dX6_could_140 (by decide) ?_
                refine fw_ior dX6_could_144 ?_
                refine fw_istore (ls2 := [_, _, _, _, _, _, _]) dX6_could_145 (by decide) rfl ?_
                refine fw_iinc (ls2 := [_, _, _, _, _, _, _]) dX6_could_147 rfl ⟨by omega, by omega⟩ (by decide) rfl ?_
                refine fw_goto 66 dX6_could_150 (by decide) ?_
                rw [fw_or01 h3 (by first | exact Or.inl rfl | exact Or.inr rfl)]
                rw [if_neg (show ¬ (1 : Int) = 0 by decide)]
                exact ih (i + 1) 1 (by omega) (by omega) (by omega) (Or.inr rfl) ⟨fun _ => ⟨i, h1, by omega, by omega, by omega, by omega, h136⟩, fun _ => rfl⟩

set_option maxRecDepth 20000 in
set_option maxHeartbeats 4000000 in
theorem pm_X6_could (M N : fw_F) (L K : fw_G) (hR : Rel M L N K) (pe m t d : Int) : fw_D mX6_could 5 [some (fw_r 0), some (fw_i pe), some (fw_i m), some (fw_i t), some (fw_i d)] [] N K (fun r N2 K2 => r = some (fw_i (an_could (N 0 2) (N 0 4) (rl_S M N m d) pe m t d (ab_ci (rl_C M N pe m t d (N 0 31))))) ∧ rl_mq N K N2 K2) := by
  obtain ⟨ha1, ha2, ha3, ha4, ha5, ha6⟩ := hR.1
  have hn1 := hR.2.1.1.1.1
  have hn2 := hR.2.1.1.1.2.1
  refine fw_iload_n dX6_could_5 rfl rfl ?_
  refine fw_iconst dX6_could_6 ⟨by decide, by decide⟩ ?_
  refine fw_bipush dX6_could_7 ⟨by decide, by decide⟩ (by decide) ?_
  refine fw_pS mX6_in [_, _, _] dX6_could_9 mv_X6_in lk_6_115 ⟨⟨by decide, by decide⟩, rfl, rfl, rfl, by decide, by decide⟩ rfl rfl (Nat.le_of_ble_eq_true rfl) (sp_X6_in _ _ _ _ _) ?_
  refine fw_bifeq 39 dX6_could_12 (by decide) (fun h12 => ?_) (fun h12 => ?_)
  · skip
    refine fw_iconst dX6_could_39 ⟨by decide, by decide⟩ ?_
    exact fw_iret dX6_could_40 ⟨rfl, rfl, rfl⟩ (⟨(by congr 2; unfold an_could; (repeat' split) <;> omega), rl_mq_rf N K⟩)
  · skip
    refine fw_aload_n dX6_could_15 rfl rfl ?_
    refine fw_iload_n dX6_could_16 rfl rfl ?_
    refine fw_pV mX6_isMachine [_] dX6_could_17 mv_X6_isMachine lk_6_179 ⟨⟨by decide, by decide⟩, rfl, rfl, rfl, by decide, by decide⟩ ly1_0 ⟨by decide, by decide⟩ rfl rfl (Nat.le_of_ble_eq_true rfl) (sp_X6_isMachine _ _ _ (by omega)) ?_
    refine fw_bifeq 39 dX6_could_20 (by decide) (fun h20 => ?_) (fun h20 => ?_)
    · skip
      refine fw_iconst dX6_could_39 ⟨by decide, by decide⟩ ?_
      exact fw_iret dX6_could_40 ⟨rfl, rfl, rfl⟩ (⟨(by congr 2; unfold an_could; (repeat' split) <;> omega), rl_mq_rf N K⟩)
    · skip
      refine fw_iload_n dX6_could_23 rfl rfl ?_
      refine fw_pS mX6_isThing [_] dX6_could_24 mv_X6_isThing lk_6_182 ⟨⟨by decide, by decide⟩, rfl, rfl, rfl, by decide, by decide⟩ rfl rfl (Nat.le_of_ble_eq_true rfl) (sp_X6_isThing _ _ _) ?_
      refine fw_bifeq 39 dX6_could_27 (by decide) (fun h27 => ?_) (fun h27 => ?_)
      · skip
        refine fw_iconst dX6_could_39 ⟨by decide, by decide⟩ ?_
        exact fw_iret dX6_could_40 ⟨rfl, rfl, rfl⟩ (⟨(by congr 2; unfold an_could; (repeat' split) <;> omega), rl_mq_rf N K⟩)
      · skip
        refine fw_aload_n dX6_could_30 rfl rfl ?_
        refine fw_iload dX6_could_31 rfl ?_
        refine fw_pV mX6_isDay [_] dX6_could_33 mv_X6_isDay lk_6_224 ⟨⟨by decide, by decide⟩, rfl, rfl, rfl, by decide, by decide⟩ ly1_0 ⟨by decide, by decide⟩ rfl rfl (Nat.le_of_ble_eq_true rfl) (sp_X6_isDay _ _ _) ?_
        refine fw_bifne 41 dX6_could_36 (by decide) (fun h36 => ?_) (fun h36 => ?_)
        · skip
          refine fw_aload_n dX6_could_41 rfl rfl ?_
          refine fw_iload_n dX6_could_42 rfl rfl ?_
          refine fw_iload dX6_could_43 rfl ?_
          refine fw_cV mX6_tellsOf [_, _] dX6_could_45 mv_X6_tellsOf lk_6_227 ⟨⟨by decide, by decide⟩, rfl, rfl, rfl, by decide, by decide⟩ ly1_0 ⟨by decide, by decide⟩ rfl rfl (Nat.le_of_ble_eq_true rfl) (rl_tellsOf hR (by omega) (by omega)) (fun r M1 L1 hp hM1 => ?_)
          obtain ⟨rfl, rfl, g1, g2⟩ := hp
          obtain ⟨e0, e1, e2, e3, e4, e6, e7⟩ := g2.1 t (by omega) (by omega)
          refine fw_aload_n dX6_could_48 rfl rfl ?_
          refine fw_getr 15 11 rfl dX6_could_49 ff_6_46 ly1_0 ⟨by decide, by decide⟩ rfl rfl (by decide) ?_
          refine fw_iload_n dX6_could_52 rfl rfl ?_
          refine fw_baload dX6_could_53 ly1_11 ⟨by decide, by decide⟩ ⟨by omega, by omega⟩ ?_
          refine fw_if_ne 60 dX6_could_54 (by decide) (fun h54 => ?_) (fun h54 => ?_)
          · skip
            refine fw_iconst dX6_could_60 ⟨by decide, by decide⟩ ?_
            refine fw_istore (ls2 := [_, _, _, _, _, _]) dX6_could_61 (by decide) rfl ?_
            refine fw_iconst dX6_could_63 ⟨by decide, by decide⟩ ?_
            refine fw_istore (ls2 := [_, _, _, _, _, _, _]) dX6_could_64 (by decide) rfl ?_
            have hs2 := hR.2.2.2.2.2.2.1
            exact lp_X6_could M N M1 L L1 hR pe m t d (by omega) (by omega) (by omega) (by omega) (by omega) g1 g2 21 0 0 (by omega) (by decide) (by omega) (Or.inl rfl) ⟨fun z => by omega, fun ⟨u, u1, u2, _⟩ => by omega⟩
          · skip
            refine fw_bipush dX6_could_57 ⟨by decide, by decide⟩ (by decide) ?_
            exact fw_iret dX6_could_59 ⟨rfl, rfl, rfl⟩ (⟨(by congr 2; unfold an_could; (repeat' split) <;> omega), (rl_mq_of g1)⟩)
        · skip
          refine fw_iconst dX6_could_39 ⟨by decide, by decide⟩ ?_
          exact fw_iret dX6_could_40 ⟨rfl, rfl, rfl⟩ (⟨(by congr 2; unfold an_could; (repeat' split) <;> omega), rl_mq_rf N K⟩)

set_option maxRecDepth 20000 in
set_option maxHeartbeats 4000000 in
theorem sp_X6_could (M N : fw_F) (L K : fw_G) (hR : Rel M L (fw_upd N 0 0 0) K) (pe m t d : Int) : fw_SD mX6_could [fw_r 0, fw_i pe, fw_i m, fw_i t, fw_i d] N K (fun r N2 K2 => r = some (fw_i (an_could ((fw_upd N 0 0 0) 0 2) ((fw_upd N 0 0 0) 0 4) (rl_S M (fw_upd N 0 0 0) m d) pe m t d (ab_ci (rl_C M (fw_upd N 0 0 0) pe m t d ((fw_upd N 0 0 0) 0 31))))) ∧ rl_mq (fw_upd N 0 0 0) K N2 K2) := by
  refine fw_SP_of pl_X6_could (ls := [_, _, _, _, _]) rfl (Nat.le_of_ble_eq_true rfl) fun hA hM => ?_
  refine fw_aload_n dX6_could_0 rfl rfl ?_
  refine fw_iconst dX6_could_1 ⟨by decide, by decide⟩ ?_
  refine fw_puti 0 rfl dX6_could_2 fp_6_106 ly1_0 (by decide) ⟨by decide, by decide⟩ rfl ?_
  exact pm_X6_could M (fw_upd N 0 0 0) L K hR pe m t d

def an_count (w v0 v1 v2 v3 v4 v5 : Int) : Int := if w = 0 then v0 else if w = 1 then v1 else if w = 2 then v2 else if w = 3 then v3 else if w = 4 then v4 else if w = 5 then v5 else -1

set_option maxRecDepth 20000 in
set_option maxHeartbeats 4000000 in
theorem sp_X5_count (M N : fw_F) (L K : fw_G) (hR : Rel M L N K) (w : Int) : fw_SC mX5_count [fw_r 0, fw_i w] M L (fun r M2 L2 => r = some (fw_i (an_count w (N 0 2) (M 1 6) (N 0 4) (ab_sm (fun i => if N 29 i = -9 then 1 else 0) (N 0 31).toNat) (N 0 3) (max 0 (N 1 0 - ab_LF (md_G N) (M 3) (N 6) (M 1 6).toNat 0) + max 0 (N 1 1 - ab_LF (md_G N) (M 3) (N 6) (M 1 6).toNat 1) + max 0 (N 1 2 - ab_LF (md_G N) (M 3) (N 6) (M 1 6).toNat 2) + max 0 (N 1 3 - ab_LF (md_G N) (M 3) (N 6) (M 1 6).toNat 3)))) ∧ Rel M2 L2 N K) := by
  refine fw_SP_of pl_X5_count (ls := [_, _]) rfl (Nat.le_of_ble_eq_true rfl) fun hA hM => ?_
  obtain ⟨ha1, ha2, ha3, ha4, ha5, ha6⟩ := hR.1
  have hn1 := hR.2.1.1.1.1
  have hn2 := hR.2.1.1.1.2.1
  have mk0 := hR.2.1.1.1.2.2 0 (by decide) (by decide)
  have mk1 := hR.2.1.1.1.2.2 1 (by decide) (by decide)
  have mk2 := hR.2.1.1.1.2.2 2 (by decide) (by decide)
  have mk3 := hR.2.1.1.1.2.2 3 (by decide) (by decide)
  have hT := ab_T80 hR.2.1.1
  have lr0 := ab_LF_ok hR.2.1.1 hR.2.2.2.1.1 (M 1 6).toNat (by omega) 0 (by decide) (by decide)
  have lr1 := ab_LF_ok hR.2.1.1 hR.2.2.2.1.1 (M 1 6).toNat (by omega) 1 (by decide) (by decide)
  have lr2 := ab_LF_ok hR.2.1.1 hR.2.2.2.1.1 (M 1 6).toNat (by omega) 2 (by decide) (by decide)
  have lr3 := ab_LF_ok hR.2.1.1 hR.2.2.2.1.1 (M 1 6).toNat (by omega) 3 (by decide) (by decide)
  have qm0 := hR.2.1.2.2.2 0 (by decide) (by decide)
  have qm1 := hR.2.1.2.2.2 1 (by decide) (by decide)
  have qm2 := hR.2.1.2.2.2 2 (by decide) (by decide)
  have qm3 := hR.2.1.2.2.2 3 (by decide) (by decide)
  have qo0 := (hR.2.2.2.1.2 0 (by decide) (by decide)).2
  have qo1 := (hR.2.2.2.1.2 1 (by decide) (by decide)).2
  have qo2 := (hR.2.2.2.1.2 2 (by decide) (by decide)).2
  have qo3 := (hR.2.2.2.1.2 3 (by decide) (by decide)).2
  obtain ⟨s1, s2, s3⟩ := hR.2.2.2.2.2
  refine fw_iload_n dX5_count_0 rfl rfl ?_
  by_cases h1 : w < 0 ∨ 5 < w
  · refine fw_tblOut 82 dX5_count_1 h1 (by decide) ?_
    refine fw_iconst dX5_count_82 ⟨by decide, by decide⟩ ?_
    exact fw_iret dX5_count_83 ⟨rfl, rfl, rfl⟩ (⟨(by congr 2; unfold an_count; (repeat' split) <;> omega), hR⟩)
  · rcases (show w = 0 ∨ w = 1 ∨ w = 2 ∨ w = 3 ∨ w = 4 ∨ w = 5 by omega) with h1 | h1 | h1 | h1 | h1 | h1
    · refine fw_tblIn 40 dX5_count_1 (by omega) (by omega) (by rw [h1]; rfl) (by decide) ?_
      refine fw_aload_n dX5_count_40 rfl rfl ?_
      refine fw_geti 7 rfl dX5_count_41 ff_5_55 ly0_0 ⟨by decide, by decide⟩ rfl ?_
      exact fw_iret dX5_count_44 ⟨rfl, rfl, rfl⟩ (⟨(by congr 2; unfold an_count; (repeat' split) <;> omega), hR⟩)
    · refine fw_tblIn 45 dX5_count_1 (by omega) (by omega) (by rw [h1]; rfl) (by decide) ?_
      refine fw_aload_n dX5_count_45 rfl rfl ?_
      refine fw_getr 0 1 rfl dX5_count_46 ff_5_12 ly0_0 ⟨by decide, by decide⟩ rfl rfl (by decide) ?_
      refine fw_geti 6 rfl dX5_count_49 ff_5_296 ly0_1 ⟨by decide, by decide⟩ rfl ?_
      exact fw_iret dX5_count_52 ⟨rfl, rfl, rfl⟩ (⟨(by congr 2; unfold an_count; (repeat' split) <;> omega), hR⟩)
    · refine fw_tblIn 53 dX5_count_1 (by omega) (by omega) (by rw [h1]; rfl) (by decide) ?_
      refine fw_aload_n dX5_count_53 rfl rfl ?_
      refine fw_getr 0 1 rfl dX5_count_54 ff_5_12 ly0_0 ⟨by decide, by decide⟩ rfl rfl (by decide) ?_
      refine fw_geti 7 rfl dX5_count_57 ff_5_214 ly0_1 ⟨by decide, by decide⟩ rfl ?_
      exact fw_iret dX5_count_60 ⟨rfl, rfl, rfl⟩ (⟨(by congr 2; unfold an_count; (repeat' split) <;> omega), hR⟩)
    · refine fw_tblIn 61 dX5_count_1 (by omega) (by omega) (by rw [h1]; rfl) (by decide) ?_
      refine fw_aload_n dX5_count_61 rfl rfl ?_
      refine fw_getr 6 198 rfl dX5_count_62 ff_5_48 ly0_0 ⟨by decide, by decide⟩ rfl rfl (by decide) ?_
      refine fw_pV mX3_holding [] dX5_count_65 mv_X3_holding lk_5_299 ⟨⟨by decide, by decide⟩, rfl, rfl, rfl, by decide, by decide⟩ ly0_198 ⟨by decide, by decide⟩ rfl rfl (Nat.le_of_ble_eq_true rfl) (sp_X3_holding _ _ (by omega)) ?_
      refine fw_iret dX5_count_68 ⟨rfl, rfl, rfl⟩ ?_
      refine ⟨?_, hR⟩
      rw [s1, ab_sm_congr (g := (fun i => if N 29 i = -9 then 1 else 0)) _ (fun i a b => by rw [(s3 i a (by omega)).2.2.2])]
      congr 2; unfold an_count; (repeat' split) <;> first | omega | rfl
    · refine fw_tblIn 69 dX5_count_1 (by omega) (by omega) (by rw [h1]; rfl) (by decide) ?_
      refine fw_aload_n dX5_count_69 rfl rfl ?_
      refine fw_geti 8 rfl dX5_count_70 ff_5_59 ly0_0 ⟨by decide, by decide⟩ rfl ?_
      exact fw_iret dX5_count_73 ⟨rfl, rfl, rfl⟩ (⟨(by congr 2; unfold an_count; (repeat' split) <;> omega), hR⟩)
    · refine fw_tblIn 74 dX5_count_1 (by omega) (by omega) (by rw [h1]; rfl) (by decide) ?_
      refine fw_aload_n dX5_count_74 rfl rfl ?_
      refine fw_getr 0 1 rfl dX5_count_75 ff_5_12 ly0_0 ⟨by decide, by decide⟩ rfl rfl (by decide) ?_
      refine fw_pV mX1_leftOutInAll [] dX5_count_78 mv_X1_leftOutInAll lk_5_302 ⟨⟨by decide, by decide⟩, rfl, rfl, rfl, by decide, by decide⟩ ly0_1 ⟨by decide, by decide⟩ rfl rfl (Nat.le_of_ble_eq_true rfl) (sp_X1_leftOutInAll _ _ (fun p a b => by have h7 := hR.2.1.2.2.2 p a b; have h8 := (hR.2.2.2.1.2 p a b).2; have h9 := ab_LF_ok hR.2.1.1 hR.2.2.2.1.1 (M 1 6).toNat (by omega) p a b; have h6 := hR.2.1.1.1.2.2 p a b; omega)) ?_
      refine fw_iret dX5_count_81 ⟨rfl, rfl, rfl⟩ ?_
      refine ⟨?_, hR⟩
      rw [qm0, qm1, qm2, qm3, qo0, qo1, qo2, qo3]
      congr 2; unfold an_count; (repeat' split) <;> first | omega | rfl

set_option maxRecDepth 20000 in
set_option maxHeartbeats 4000000 in
theorem l2_X6_count (M N : fw_F) (L K : fw_G) (hR : Rel M L N K) (w : Int) : ∀ (q : Nat) (c i : Int), N 0 31 - i < q → 0 ≤ i → i ≤ N 0 31 → c = ab_sm (fun i => if N 29 i = -9 then 1 else 0) i.toNat → fw_D mX6_count 40 [some (fw_r 0), some (fw_i w), some (fw_i (M 1 6)), some (fw_i c), some (fw_i i)] [] N K (fun r N2 K2 => r = some (fw_i (an_count w (N 0 2) (M 1 6) (N 0 4) (ab_sm (fun i => if N 29 i = -9 then 1 else 0) (N 0 31).toNat) (N 0 3) (max 0 (N 1 0 - ab_LF (md_G N) (M 3) (N 6) (M 1 6).toNat 0) + max 0 (N 1 1 - ab_LF (md_G N) (M 3) (N 6) (M 1 6).toNat 1) + max 0 (N 1 2 - ab_LF (md_G N) (M 3) (N 6) (M 1 6).toNat 2) + max 0 (N 1 3 - ab_LF (md_G N) (M 3) (N 6) (M 1 6).toNat 3)))) ∧ rl_mq N K N2 K2) := by
  intro q
  induction q with
  | zero => intro c i h0 h1 h2; omega
  | succ q ih =>
    intro c i h0 h1 h2 h3
    have s2 := hR.2.2.2.2.2.2.1
    have hr := ab_sm_rng (f := (fun i => if N 29 i = -9 then 1 else 0)) (a := 0) (b := 1) i.toNat (fun i _ _ => by split <;> omega)
    refine fw_iload dX6_count_40 rfl ?_
    refine fw_aload_n dX6_count_42 rfl rfl ?_
    refine fw_geti 31 rfl dX6_count_43 ff_6_112 ly1_0 ⟨by decide, by decide⟩ rfl ?_
    refine fw_icmp_ge 75 dX6_count_46 (by decide) (fun h46 => ?_) (fun h46 => ?_)
    · skip
      refine fw_iload_n dX6_count_75 rfl rfl ?_
      refine fw_if_ne 86 dX6_count_76 (by decide) (fun h76 => ?_) (fun h76 => ?_)
      · skip
        refine fw_iload_n dX6_count_86 rfl rfl ?_
        refine fw_iconst dX6_count_87 ⟨by decide, by decide⟩ ?_
        refine fw_icmp_ne 95 dX6_count_88 (by decide) (fun h88 => ?_) (fun h88 => ?_)
        · skip
          refine fw_iload_n dX6_count_95 rfl rfl ?_
          refine fw_iconst dX6_count_96 ⟨by decide, by decide⟩ ?_
          refine fw_icmp_ne 107 dX6_count_97 (by decide) (fun h97 => ?_) (fun h97 => ?_)
          · skip
            refine fw_iload_n dX6_count_107 rfl rfl ?_
            refine fw_iconst dX6_count_108 ⟨by decide, by decide⟩ ?_
            refine fw_icmp_ne 116 dX6_count_109 (by decide) (fun h109 => ?_) (fun h109 => ?_)
            · skip
              refine fw_iload_n dX6_count_116 rfl rfl ?_
              refine fw_iconst dX6_count_117 ⟨by decide, by decide⟩ ?_
              refine fw_icmp_ne 128 dX6_count_118 (by decide) (fun h118 => ?_) (fun h118 => ?_)
              · skip
                refine fw_iload_n dX6_count_128 rfl rfl ?_
                refine fw_iconst dX6_count_129 ⟨by decide, by decide⟩ ?_
                refine fw_icmp_ne 145 dX6_count_130 (by decide) (fun h130 => ?_) (fun h130 => ?_)
                · skip
                  refine fw_iconst dX6_count_145 ⟨by decide, by decide⟩ ?_
                  refine fw_iret dX6_count_146 ⟨rfl, rfl, rfl⟩ ?_
                  refine ⟨?_, rl_mq_rf N K⟩
                  rw [show i = N 0 31 by omega] at h3
                  congr 2; unfold an_count; (repeat' split) <;> omega
                · skip
                  refine fw_aload_n dX6_count_133 rfl rfl ?_
                  refine fw_aload_n dX6_count_134 rfl rfl ?_
                  refine fw_getr 5 1 rfl dX6_count_135 ff_6_13 ly1_0 ⟨by decide, by decide⟩ rfl rfl (by decide) ?_
                  refine fw_iconst dX6_count_138 ⟨by decide, by decide⟩ ?_
                  refine fw_cV mX6_left [_, _] dX6_count_139 mv_X6_left lk_6_259 ⟨⟨by decide, by decide⟩, rfl, rfl, rfl, by decide, by decide⟩ ly1_0 ⟨by decide, by decide⟩ rfl rfl (Nat.le_of_ble_eq_true rfl) (sp_X6_left_1 (M 1 6) N (M 3) K hR.2.1.1 hR.2.2.2.1.1 0 (by decide) (fun p a b => by rw [Int.zero_add]; have h6 := hR.2.1.1.1.2.2 p a b; omega)) (fun r M1 L1 hp hM1 => ?_)
                  obtain ⟨rfl, rfl, g1⟩ := hp
                  refine fw_goto 146 dX6_count_142 (by decide) ?_
                  refine fw_iret dX6_count_146 ⟨rfl, rfl, rfl⟩ ?_
                  have hn1 := hR.2.1.1.1.1
                  have hn2 := hR.2.1.1.1.2.1
                  refine ⟨?_, rl_mq_of (fun k a => g1 k (by omega) (by omega))⟩
                  rw [ab_sm_4 ⟨hn1, hn2⟩ (fun p a b => ?_)]
                  · simp only [Int.zero_add]
                    rw [ab_FO_max hR.2.1.1 hR.2.2.2.1.1 (show (0 : Int) ≤ 0 by decide) (by decide) (Int.le_refl _), ab_FO_max hR.2.1.1 hR.2.2.2.1.1 (show (0 : Int) ≤ 1 by decide) (by decide) (Int.le_refl _), ab_FO_max hR.2.1.1 hR.2.2.2.1.1 (show (0 : Int) ≤ 2 by decide) (by decide) (Int.le_refl _), ab_FO_max hR.2.1.1 hR.2.2.2.1.1 (show (0 : Int) ≤ 3 by decide) (by decide) (Int.le_refl _)]
                    congr 2; unfold an_count; (repeat' split) <;> first | omega | rfl
                  · have h8 := (rl_mk hR p (by omega) b).2 a
                    have h9 := ab_FO_rng hR.2.1.1 hR.2.2.2.1.1 (p := p) (by omega) b
                    show max 0 (N 1 (0 + p) - _) = 0
                    rw [Int.zero_add]
                    omega
              · skip
                refine fw_aload_n dX6_count_121 rfl rfl ?_
                refine fw_geti 3 rfl dX6_count_122 ff_6_134 ly1_0 ⟨by decide, by decide⟩ rfl ?_
                refine fw_goto 146 dX6_count_125 (by decide) ?_
                refine fw_iret dX6_count_146 ⟨rfl, rfl, rfl⟩ ?_
                refine ⟨?_, rl_mq_rf N K⟩
                rw [show i = N 0 31 by omega] at h3
                congr 2; unfold an_count; (repeat' split) <;> omega
            · skip
              refine fw_iload_n dX6_count_112 rfl rfl ?_
              refine fw_goto 146 dX6_count_113 (by decide) ?_
              refine fw_iret dX6_count_146 ⟨rfl, rfl, rfl⟩ ?_
              refine ⟨?_, rl_mq_rf N K⟩
              rw [show i = N 0 31 by omega] at h3
              congr 2; unfold an_count; (repeat' split) <;> omega
          · skip
            refine fw_aload_n dX6_count_100 rfl rfl ?_
            refine fw_geti 4 rfl dX6_count_101 ff_6_109 ly1_0 ⟨by decide, by decide⟩ rfl ?_
            refine fw_goto 146 dX6_count_104 (by decide) ?_
            refine fw_iret dX6_count_146 ⟨rfl, rfl, rfl⟩ ?_
            refine ⟨?_, rl_mq_rf N K⟩
            rw [show i = N 0 31 by omega] at h3
            congr 2; unfold an_count; (repeat' split) <;> omega
        · skip
          refine fw_iload_n dX6_count_91 rfl rfl ?_
          refine fw_goto 146 dX6_count_92 (by decide) ?_
          refine fw_iret dX6_count_146 ⟨rfl, rfl, rfl⟩ ?_
          refine ⟨?_, rl_mq_rf N K⟩
          rw [show i = N 0 31 by omega] at h3
          congr 2; unfold an_count; (repeat' split) <;> omega
      · skip
        refine fw_aload_n dX6_count_79 rfl rfl ?_
        refine fw_geti 2 rfl dX6_count_80 ff_6_7 ly1_0 ⟨by decide, by decide⟩ rfl ?_
        refine fw_goto 146 dX6_count_83 (by decide) ?_
        refine fw_iret dX6_count_146 ⟨rfl, rfl, rfl⟩ ?_
        refine ⟨?_, rl_mq_rf N K⟩
        rw [show i = N 0 31 by omega] at h3
        congr 2; unfold an_count; (repeat' split) <;> omega
    · skip
      have hs := ab_sm_s (fun i => if N 29 i = -9 then 1 else 0) h1
      refine fw_iload_n dX6_count_49 rfl rfl ?_
      refine fw_aload_n dX6_count_50 rfl rfl ?_
      refine fw_getr 35 29 rfl dX6_count_51 ff_6_100 ly1_0 ⟨by decide, by decide⟩ rfl rfl (by decide) ?_
      refine fw_iload dX6_count_54 rfl ?_
      refine fw_iaload dX6_count_56 ly1_29 ⟨by decide, by decide⟩ ⟨by omega, by omega⟩ ?_
      refine fw_bipush dX6_count_57 ⟨by decide, by decide⟩ (by decide) ?_
      refine fw_icmp_ne 66 dX6_count_59 (by decide) (fun h59 => ?_) (fun h59 => ?_)
      · skip
        refine fw_iconst dX6_count_66 ⟨by decide, by decide⟩ ?_
        refine fw_iadd dX6_count_67 ⟨by omega, by omega⟩ ?_
        refine fw_istore_n (ls2 := [_, _, _, _, _]) dX6_count_68 rfl (by decide) rfl ?_
        refine fw_iinc (ls2 := [_, _, _, _, _]) dX6_count_69 rfl ⟨by omega, by omega⟩ (by decide) rfl ?_
        refine fw_goto 40 dX6_count_72 (by decide) ?_
        exact ih _ (i + 1) (by omega) (by omega) (by omega) (by rw [hs, h3, if_neg h59])
      · skip
        refine fw_iconst dX6_count_62 ⟨by decide, by decide⟩ ?_
        refine fw_goto 67 dX6_count_63 (by decide) ?_
        refine fw_iadd dX6_count_67 ⟨by omega, by omega⟩ ?_
        refine fw_istore_n (ls2 := [_, _, _, _, _]) dX6_count_68 rfl (by decide) rfl ?_
        refine fw_iinc (ls2 := [_, _, _, _, _]) dX6_count_69 rfl ⟨by omega, by omega⟩ (by decide) rfl ?_
        refine fw_goto 40 dX6_count_72 (by decide) ?_
        exact ih _ (i + 1) (by omega) (by omega) (by omega) (by rw [hs, h3, if_pos h59])

set_option maxRecDepth 20000 in
set_option maxHeartbeats 4000000 in
theorem lp_X6_count (M N : fw_F) (L K : fw_G) (hR : Rel M L N K) (w : Int) : ∀ (q : Nat) (c p : Int), N 0 2 - p < q → 0 ≤ p → p ≤ N 0 2 → c = ab_sm (fun p => N 1 p) p.toNat → fw_D mX6_count 12 [some (fw_r 0), some (fw_i w), some (fw_i c), some (fw_i 0), some (fw_i p)] [] N K (fun r N2 K2 => r = some (fw_i (an_count w (N 0 2) (M 1 6) (N 0 4) (ab_sm (fun i => if N 29 i = -9 then 1 else 0) (N 0 31).toNat) (N 0 3) (max 0 (N 1 0 - ab_LF (md_G N) (M 3) (N 6) (M 1 6).toNat 0) + max 0 (N 1 1 - ab_LF (md_G N) (M 3) (N 6) (M 1 6).toNat 1) + max 0 (N 1 2 - ab_LF (md_G N) (M 3) (N 6) (M 1 6).toNat 2) + max 0 (N 1 3 - ab_LF (md_G N) (M 3) (N 6) (M 1 6).toNat 3)))) ∧ rl_mq N K N2 K2) := by
  intro q
  induction q with
  | zero => intro c p h0 h1 h2; omega
  | succ q ih =>
    intro c p h0 h1 h2 h3
    have hn1 := hR.2.1.1.1.1
    have hn2 := hR.2.1.1.1.2.1
    have hr := ab_sm_rng (f := (fun p => N 1 p)) (a := 0) (b := 20) p.toNat (fun j a b => by have h6 := hR.2.1.1.1.2.2 j a (by omega); omega)
    refine fw_iload dX6_count_12 rfl ?_
    refine fw_aload_n dX6_count_14 rfl rfl ?_
    refine fw_geti 2 rfl dX6_count_15 ff_6_7 ly1_0 ⟨by decide, by decide⟩ rfl ?_
    refine fw_icmp_ge 37 dX6_count_18 (by decide) (fun h18 => ?_) (fun h18 => ?_)
    · skip
      refine fw_iconst dX6_count_37 ⟨by decide, by decide⟩ ?_
      refine fw_istore (ls2 := [_, _, _, _, _]) dX6_count_38 (by decide) rfl ?_
      have hc : c = M 1 6 := by
        rw [h3, show p = N 0 2 by omega, ab_sm_4 ⟨hn1, hn2⟩ (fun u a b => (rl_mk hR u (by omega) b).2 a)]
        exact hR.2.1.1.2.2.2.1.2.symm
      have s2 := hR.2.2.2.2.2.2.1
      rw [hc]
      exact l2_X6_count M N L K hR w 21 0 0 (by omega) (by decide) (by omega) rfl
    · skip
      have h6 := hR.2.1.1.1.2.2 p h1 (by omega)
      have hs := ab_sm_s (fun p => N 1 p) h1
      refine fw_iload_n dX6_count_21 rfl rfl ?_
      refine fw_aload_n dX6_count_22 rfl rfl ?_
      refine fw_getr 5 1 rfl dX6_count_23 ff_6_13 ly1_0 ⟨by decide, by decide⟩ rfl rfl (by decide) ?_
      refine fw_iload dX6_count_26 rfl ?_
      refine fw_iaload dX6_count_28 ly1_1 ⟨by decide, by decide⟩ ⟨by omega, by omega⟩ ?_
      refine fw_iadd dX6_count_29 ⟨by omega, by omega⟩ ?_
      refine fw_istore_n (ls2 := [_, _, _, _, _]) dX6_count_30 rfl (by decide) rfl ?_
      refine fw_iinc (ls2 := [_, _, _, _, _]) dX6_count_31 rfl ⟨by omega, by omega⟩ (by decide) rfl ?_
      refine fw_goto 12 dX6_count_34 (by decide) ?_
      exact ih _ (p + 1) (by omega) (by omega) (by omega) (by rw [hs, h3])

set_option maxRecDepth 20000 in
set_option maxHeartbeats 4000000 in
theorem pm_X6_count (M N : fw_F) (L K : fw_G) (hR : Rel M L N K) (w : Int) : fw_D mX6_count 5 [some (fw_r 0), some (fw_i w)] [] N K (fun r N2 K2 => r = some (fw_i (an_count w (N 0 2) (M 1 6) (N 0 4) (ab_sm (fun i => if N 29 i = -9 then 1 else 0) (N 0 31).toNat) (N 0 3) (max 0 (N 1 0 - ab_LF (md_G N) (M 3) (N 6) (M 1 6).toNat 0) + max 0 (N 1 1 - ab_LF (md_G N) (M 3) (N 6) (M 1 6).toNat 1) + max 0 (N 1 2 - ab_LF (md_G N) (M 3) (N 6) (M 1 6).toNat 2) + max 0 (N 1 3 - ab_LF (md_G N) (M 3) (N 6) (M 1 6).toNat 3)))) ∧ rl_mq N K N2 K2) := by
  obtain ⟨ha1, ha2, ha3, ha4, ha5, ha6⟩ := hR.1
  have hn1 := hR.2.1.1.1.1
  have hn2 := hR.2.1.1.1.2.1
  refine fw_iconst dX6_count_5 ⟨by decide, by decide⟩ ?_
  refine fw_istore_n (ls2 := [_, _, _]) dX6_count_6 rfl (by decide) rfl ?_
  refine fw_iconst dX6_count_7 ⟨by decide, by decide⟩ ?_
  refine fw_istore_n (ls2 := [_, _, _, _]) dX6_count_8 rfl (by decide) rfl ?_
  refine fw_iconst dX6_count_9 ⟨by decide, by decide⟩ ?_
  refine fw_istore (ls2 := [_, _, _, _, _]) dX6_count_10 (by decide) rfl ?_
  exact lp_X6_count M N L K hR w 5 0 0 (by omega) (by decide) (by omega) rfl

set_option maxRecDepth 20000 in
set_option maxHeartbeats 4000000 in
theorem sp_X6_count (M N : fw_F) (L K : fw_G) (hR : Rel M L (fw_upd N 0 0 0) K) (w : Int) : fw_SD mX6_count [fw_r 0, fw_i w] N K (fun r N2 K2 => r = some (fw_i (an_count w ((fw_upd N 0 0 0) 0 2) (M 1 6) ((fw_upd N 0 0 0) 0 4) (ab_sm (fun i => if (fw_upd N 0 0 0) 29 i = -9 then 1 else 0) ((fw_upd N 0 0 0) 0 31).toNat) ((fw_upd N 0 0 0) 0 3) (max 0 ((fw_upd N 0 0 0) 1 0 - ab_LF (md_G (fw_upd N 0 0 0)) (M 3) ((fw_upd N 0 0 0) 6) (M 1 6).toNat 0) + max 0 ((fw_upd N 0 0 0) 1 1 - ab_LF (md_G (fw_upd N 0 0 0)) (M 3) ((fw_upd N 0 0 0) 6) (M 1 6).toNat 1) + max 0 ((fw_upd N 0 0 0) 1 2 - ab_LF (md_G (fw_upd N 0 0 0)) (M 3) ((fw_upd N 0 0 0) 6) (M 1 6).toNat 2) + max 0 ((fw_upd N 0 0 0) 1 3 - ab_LF (md_G (fw_upd N 0 0 0)) (M 3) ((fw_upd N 0 0 0) 6) (M 1 6).toNat 3)))) ∧ rl_mq (fw_upd N 0 0 0) K N2 K2) := by
  refine fw_SP_of pl_X6_count (ls := [_, _]) rfl (Nat.le_of_ble_eq_true rfl) fun hA hM => ?_
  refine fw_aload_n dX6_count_0 rfl rfl ?_
  refine fw_iconst dX6_count_1 ⟨by decide, by decide⟩ ?_
  refine fw_puti 0 rfl dX6_count_2 fp_6_106 ly1_0 (by decide) ⟨by decide, by decide⟩ rfl ?_
  exact pm_X6_count M (fw_upd N 0 0 0) L K hR w

def an_odd (n dy km m d w : Int) (a b : Int64) : Int64 := if ¬ ((0 ≤ m ∧ m < n) ∧ (0 ≤ d ∧ d ≤ dy) ∧ (0 ≤ w ∧ w ≤ 1)) then -1 else if 8 < dy + 1 ∨ 12 < km then -2 else if w = 1 then a else b

theorem ab_day_congr {f g : Int → Int} {d : Int} : ∀ n : Nat, (∀ i : Int, 0 ≤ i → i < n → f i = g i) → ab_day f d n = ab_day g d n := by
  intro n
  induction n with
  | zero => intro _; rfl
  | succ n ih =>
    intro h
    simp only [ab_day]
    rw [ih (fun i a b => h i a (by omega)), h n (by omega) (by omega)]
theorem rl_lv {M N : fw_F} {L K : fw_G} (hR : Rel M L N K) {m i : Int} (hm : 0 ≤ m ∧ m < 4) (hi : 0 ≤ i ∧ i < N 1 m) : ab_lv (N 1) (m * 20 + i) := by
  have := (hR.2.1.1.1.2.2 m hm.1 hm.2).2.1
  refine ⟨by omega, by omega, ?_⟩
  rw [show (m * 20 + i) % 20 = i by omega, show (m * 20 + i) / 20 = m by omega]
  omega

set_option maxRecDepth 20000 in
set_option maxHeartbeats 4000000 in
theorem sp_X5_odd (M N : fw_F) (L K : fw_G) (hR : Rel M L N K) (m d w : Int) : fw_SC mX5_odd [fw_r 0, fw_i m, fw_i d, fw_i w] M L (fun r M2 L2 => r = some (fw_l (an_odd (N 0 2) (N 0 4) (N 1 m) m d w (ab_pw (Int64.ofInt (N 0 4 + 1)) (N 1 m).toNat) (ab_ws (fun j => ab_c1 (N 1 m) j.toNat * ab_pw (Int64.ofInt (N 0 4)) (N 1 m - j).toNat) (ab_day (fun i => md_G N (m * 20 + i) 5) d (N 1 m).toNat) (N 1 m + 1 - (ab_day (fun i => md_G N (m * 20 + i) 5) d (N 1 m).toNat)).toNat))) ∧ Rel M2 L2 N K) := by
  refine fw_SP_of pl_X5_odd (ls := [_, _, _, _]) rfl (Nat.le_of_ble_eq_true rfl) fun hA hM => ?_
  obtain ⟨ha1, ha2, ha3, ha4, ha5, ha6⟩ := hR.1
  have hn1 := hR.2.1.1.1.1
  have hn2 := hR.2.1.1.1.2.1
  refine fw_aload_n dX5_odd_0 rfl rfl ?_
  refine fw_iload_n dX5_odd_1 rfl rfl ?_
  refine fw_pV mX5_isMachine [_] dX5_odd_2 mv_X5_isMachine lk_5_62 ⟨⟨by decide, by decide⟩, rfl, rfl, rfl, by decide, by decide⟩ ly0_0 ⟨by decide, by decide⟩ rfl rfl (Nat.le_of_ble_eq_true rfl) (sp_X5_isMachine _ _ _) ?_
  refine fw_bifeq 25 dX5_odd_5 (by decide) (fun h5 => ?_) (fun h5 => ?_)
  · skip
    refine fw_ldc2 dX5_odd_25 cl_5_281 ?_
    exact fw_lret dX5_odd_28 ⟨rfl, rfl, rfl⟩ (⟨(by congr 2; unfold an_odd; rw [if_pos (by omega)]), hR⟩)
  · skip
    refine fw_aload_n dX5_odd_8 rfl rfl ?_
    refine fw_iload_n dX5_odd_9 rfl rfl ?_
    refine fw_pV mX5_isDay [_] dX5_odd_10 mv_X5_isDay lk_5_165 ⟨⟨by decide, by decide⟩, rfl, rfl, rfl, by decide, by decide⟩ ly0_0 ⟨by decide, by decide⟩ rfl rfl (Nat.le_of_ble_eq_true rfl) (sp_X5_isDay _ _ _) ?_
    refine fw_bifeq 25 dX5_odd_13 (by decide) (fun h13 => ?_) (fun h13 => ?_)
    · skip
      refine fw_ldc2 dX5_odd_25 cl_5_281 ?_
      exact fw_lret dX5_odd_28 ⟨rfl, rfl, rfl⟩ (⟨(by congr 2; unfold an_odd; rw [if_pos (by omega)]), hR⟩)
    · skip
      refine fw_iload_n dX5_odd_16 rfl rfl ?_
      refine fw_if_lt 25 dX5_odd_17 (by decide) (fun h17 => ?_) (fun h17 => ?_)
      · skip
        refine fw_ldc2 dX5_odd_25 cl_5_281 ?_
        exact fw_lret dX5_odd_28 ⟨rfl, rfl, rfl⟩ (⟨(by congr 2; unfold an_odd; rw [if_pos (by omega)]), hR⟩)
      · skip
        refine fw_iload_n dX5_odd_20 rfl rfl ?_
        refine fw_iconst dX5_odd_21 ⟨by decide, by decide⟩ ?_
        refine fw_icmp_le 29 dX5_odd_22 (by decide) (fun h22 => ?_) (fun h22 => ?_)
        · skip
          have hmk := hR.2.1.2.2.2 m (by omega) (by omega)
          have hm20 := hR.2.1.1.1.2.2 m (by omega) (by omega)
          have hdr := ab_day_rng (fun i => M (8 + 2 * (m * 20 + i)) 6) d (M 4 m).toNat
          have hdc : ab_day (fun i => M (8 + 2 * (m * 20 + i)) 6) d (M 4 m).toNat = (ab_day (fun i => md_G N (m * 20 + i) 5) d (N 1 m).toNat) := by
            rw [hmk]
            exact ab_day_congr _ (fun i a b => (hR.2.1.2.1 _ (rl_lv hR (by omega) ⟨a, by omega⟩)).1.2.2.2.2.2)
          refine fw_aload_n dX5_odd_29 rfl rfl ?_
          refine fw_getr 0 1 rfl dX5_odd_30 ff_5_12 ly0_0 ⟨by decide, by decide⟩ rfl rfl (by decide) ?_
          refine fw_geti 7 rfl dX5_odd_33 ff_5_214 ly0_1 ⟨by decide, by decide⟩ rfl ?_
          refine fw_iconst dX5_odd_36 ⟨by decide, by decide⟩ ?_
          refine fw_iadd dX5_odd_37 ⟨by omega, by omega⟩ ?_
          refine fw_istore (ls2 := [_, _, _, _, _]) dX5_odd_38 (by decide) rfl ?_
          refine fw_aload_n dX5_odd_40 rfl rfl ?_
          refine fw_getr 0 1 rfl dX5_odd_41 ff_5_12 ly0_0 ⟨by decide, by decide⟩ rfl rfl (by decide) ?_
          refine fw_getr 2 4 rfl dX5_odd_44 ff_5_138 ly0_1 ⟨by decide, by decide⟩ rfl rfl (by decide) ?_
          refine fw_iload_n dX5_odd_47 rfl rfl ?_
          refine fw_iaload dX5_odd_48 ly0_4 ⟨by decide, by decide⟩ ⟨by omega, by omega⟩ ?_
          refine fw_istore (ls2 := [_, _, _, _, _, _]) dX5_odd_49 (by decide) rfl ?_
          refine fw_iload dX5_odd_51 rfl ?_
          refine fw_bipush dX5_odd_53 ⟨by decide, by decide⟩ (by decide) ?_
          refine fw_icmp_gt 65 dX5_odd_55 (by decide) (fun h55 => ?_) (fun h55 => ?_)
          · skip
            refine fw_ldc2 dX5_odd_65 cl_5_283 ?_
            exact fw_lret dX5_odd_68 ⟨rfl, rfl, rfl⟩ (⟨(by congr 2; unfold an_odd; rw [if_neg (by omega), if_pos (by omega)]), hR⟩)
          · skip
            refine fw_iload dX5_odd_58 rfl ?_
            refine fw_bipush dX5_odd_60 ⟨by decide, by decide⟩ (by decide) ?_
            refine fw_icmp_le 69 dX5_odd_62 (by decide) (fun h62 => ?_) (fun h62 => ?_)
            · skip
              refine fw_iload_n dX5_odd_69 rfl rfl ?_
              refine fw_iconst dX5_odd_70 ⟨by decide, by decide⟩ ?_
              refine fw_icmp_ne 82 dX5_odd_71 (by decide) (fun h71 => ?_) (fun h71 => ?_)
              · skip
                refine fw_aload_n dX5_odd_82 rfl rfl ?_
                refine fw_getr 0 1 rfl dX5_odd_83 ff_5_12 ly0_0 ⟨by decide, by decide⟩ rfl rfl (by decide) ?_
                refine fw_iload_n dX5_odd_86 rfl rfl ?_
                refine fw_iload_n dX5_odd_87 rfl rfl ?_
                refine fw_pV mX1_madeOnDay [_, _] dX5_odd_88 mv_X1_madeOnDay lk_5_289 ⟨⟨by decide, by decide⟩, rfl, rfl, rfl, by decide, by decide⟩ ly0_1 ⟨by decide, by decide⟩ rfl rfl (Nat.le_of_ble_eq_true rfl) (sp_X1_madeOnDay _ _ _ _ (by omega) (by omega)) ?_
                refine fw_iload dX5_odd_91 rfl ?_
                refine fw_iload dX5_odd_93 rfl ?_
                rw [hdc, hmk]
                rw [hdc, hmk] at hdr
                refine fw_pS mX5_waysOfAtLeast [_, _, _] dX5_odd_95 mv_X5_waysOfAtLeast lk_5_292 ⟨⟨by decide, by decide⟩, rfl, rfl, rfl, by decide, by decide⟩ rfl rfl (Nat.le_of_ble_eq_true rfl) (sp_X5_waysOfAtLeast _ _ _ _ _ (by omega) (by omega) (by omega)) ?_
                exact fw_lret dX5_odd_98 ⟨rfl, rfl, rfl⟩ (⟨by rw [ha4, show N 0 4 + 1 - 1 = N 0 4 by omega]; congr 2; unfold an_odd; rw [if_neg (by omega), if_neg (by omega), if_neg (by omega)], hR⟩)
              · skip
                refine fw_iload dX5_odd_74 rfl ?_
                refine fw_iload dX5_odd_76 rfl ?_
                refine fw_pS mX5_power [_, _] dX5_odd_78 mv_X5_power lk_5_285 ⟨⟨by decide, by decide⟩, rfl, rfl, rfl, by decide, by decide⟩ rfl rfl (Nat.le_of_ble_eq_true rfl) (sp_X5_power _ _ _ _ (by omega)) ?_
                exact fw_lret dX5_odd_81 ⟨rfl, rfl, rfl⟩ (⟨by rw [hmk, ha4]; congr 2; unfold an_odd; rw [if_neg (by omega), if_neg (by omega), if_pos (by omega)], hR⟩)
            · skip
              refine fw_ldc2 dX5_odd_65 cl_5_283 ?_
              exact fw_lret dX5_odd_68 ⟨rfl, rfl, rfl⟩ (⟨(by congr 2; unfold an_odd; rw [if_neg (by omega), if_pos (by omega)]), hR⟩)
        · skip
          refine fw_ldc2 dX5_odd_25 cl_5_281 ?_
          exact fw_lret dX5_odd_28 ⟨rfl, rfl, rfl⟩ (⟨(by congr 2; unfold an_odd; rw [if_pos (by omega)]), hR⟩)

set_option maxRecDepth 20000 in
set_option maxHeartbeats 4000000 in
theorem l2_X6_odd (M N : fw_F) (L K : fw_G) (hR : Rel M L N K) (m d w : Int) (a : Int) (ha : 0 ≤ a ∧ a ≤ N 1 m) (hk : N 1 m ≤ 12) (hd : 0 ≤ N 0 4 ∧ N 0 4 < 8) (Q : fw_P) (hQ : Q (some (fw_l (ab_ws (fun j => ab_c1 (N 1 m) j.toNat * ab_pw (Int64.ofInt (N 0 4)) (N 1 m - j).toNat) a (N 1 m + 1 - a).toNat))) N K) : ∀ (q : Nat) (j : Int) (v : Int64), N 1 m + 1 - j < q → a ≤ j → j ≤ N 1 m + 1 → v = ab_ws (fun j => ab_c1 (N 1 m) j.toNat * ab_pw (Int64.ofInt (N 0 4)) (N 1 m - j).toNat) a (j - a).toNat → fw_D mX6_odd 134 [some (fw_r 0), some (fw_i m), some (fw_i d), some (fw_i w), some (fw_i (N 1 m)), some (fw_i a), some (fw_l v), none, some (fw_i j)] [] N K Q := by
  intro q
  induction q with
  | zero => intro j v h0 h1 h2; omega
  | succ q ih =>
    intro j v h0 h1 h2 h3
    refine fw_iload dX6_odd_134 rfl ?_
    refine fw_iload dX6_odd_136 rfl ?_
    refine fw_icmp_gt 172 dX6_odd_138 (by decide) (fun h138 => ?_) (fun h138 => ?_)
    · skip
      refine fw_lload dX6_odd_172 rfl ?_
      refine fw_lret dX6_odd_174 ⟨rfl, rfl, rfl⟩ ?_
      rw [h3, show (j - a).toNat = (N 1 m + 1 - a).toNat by omega]
      exact hQ
    · skip
      refine fw_lload dX6_odd_141 rfl ?_
      refine fw_iload dX6_odd_143 rfl ?_
      refine fw_iload dX6_odd_145 rfl ?_
      refine fw_pS mX6_choose [_, _] dX6_odd_147 mv_X6_choose lk_6_278 ⟨⟨by decide, by decide⟩, rfl, rfl, rfl, by decide, by decide⟩ rfl rfl (Nat.le_of_ble_eq_true rfl) (sp_X6_choose _ _ _ _ (by omega) (by omega)) ?_
      refine fw_aload_n dX6_odd_150 rfl rfl ?_
      refine fw_geti 4 rfl dX6_odd_151 ff_6_109 ly1_0 ⟨by decide, by decide⟩ rfl ?_
      refine fw_iload dX6_odd_154 rfl ?_
      refine fw_iload dX6_odd_156 rfl ?_
      refine fw_isub dX6_odd_158 ⟨by omega, by omega⟩ ?_
      refine fw_pS mX6_power [_, _] dX6_odd_159 mv_X6_power lk_6_274 ⟨⟨by decide, by decide⟩, rfl, rfl, rfl, by decide, by decide⟩ rfl rfl (Nat.le_of_ble_eq_true rfl) (sp_X6_power _ _ _ _ (by omega)) ?_
      refine fw_lmul dX6_odd_162 ?_
      refine fw_ladd dX6_odd_163 ?_
      refine fw_lstore (ls2 := [_, _, _, _, _, _, _, _, _]) dX6_odd_164 (by decide) rfl ?_
      refine fw_iinc (ls2 := [_, _, _, _, _, _, _, _, _]) dX6_odd_166 rfl ⟨by omega, by omega⟩ (by decide) rfl ?_
      refine fw_goto 134 dX6_odd_169 (by decide) ?_
      have hc := ab_c12 ⟨(N 1 m).toNat, by omega⟩ ⟨j.toNat, by omega⟩ (by show j.toNat ≤ (N 1 m).toNat; omega)
      simp only [show (((N 1 m).toNat : Nat) : Int) = N 1 m by omega, show ((j.toNat : Nat) : Int) = j by omega] at hc
      exact ih (j + 1) _ (by omega) (by omega) (by omega) (by rw [ab_ws_s _ h1, h3, hc])

set_option maxRecDepth 20000 in
set_option maxHeartbeats 4000000 in
theorem lp_X6_odd (M N : fw_F) (L K : fw_G) (hR : Rel M L N K) (m d w : Int) (hm : 0 ≤ m ∧ m < N 0 2) (hd : 0 ≤ d ∧ d ≤ N 0 4) (hw : w = 0) (hk : 0 ≤ N 1 m ∧ N 1 m ≤ 12) (hdy : 0 ≤ N 0 4 ∧ N 0 4 < 8) (hn : N 0 2 ≤ 4) : ∀ (q : Nat) (i c : Int), N 1 m - i < q → 0 ≤ i → i ≤ N 1 m → c = ab_day (fun i => md_G N (m * 20 + i) 5) d i.toNat → fw_D mX6_odd 87 [some (fw_r 0), some (fw_i m), some (fw_i d), some (fw_i w), some (fw_i (N 1 m)), some (fw_i c), some (fw_i i)] [] N K (fun r N2 K2 => r = some (fw_l (an_odd (N 0 2) (N 0 4) (N 1 m) m d w (ab_pw (Int64.ofInt (N 0 4 + 1)) (N 1 m).toNat) (ab_ws (fun j => ab_c1 (N 1 m) j.toNat * ab_pw (Int64.ofInt (N 0 4)) (N 1 m - j).toNat) (ab_day (fun i => md_G N (m * 20 + i) 5) d (N 1 m).toNat) (N 1 m + 1 - (ab_day (fun i => md_G N (m * 20 + i) 5) d (N 1 m).toNat)).toNat))) ∧ rl_mq N K N2 K2) := by
  intro q
  induction q with
  | zero => intro i c h0 h1 h2; omega
  | succ q ih =>
    intro i c h0 h1 h2 h3
    have hr := ab_day_rng (fun i => md_G N (m * 20 + i) 5) d i.toNat
    refine fw_iload dX6_odd_87 rfl ?_
    refine fw_iload dX6_odd_89 rfl ?_
    refine fw_icmp_ge 127 dX6_odd_91 (by decide) (fun h91 => ?_) (fun h91 => ?_)
    · skip
      refine fw_lconst (v := 0) dX6_odd_127 (by decide) ?_
      refine fw_lstore (ls2 := [_, _, _, _, _, _, _]) dX6_odd_128 (by decide) rfl ?_
      refine fw_iload dX6_odd_130 rfl ?_
      refine fw_istore (ls2 := [_, _, _, _, _, _, _, _, _]) dX6_odd_132 (by decide) rfl ?_
      rw [show i.toNat = (N 1 m).toNat by omega] at h3 hr
      refine l2_X6_odd M N L K hR m d w c (by omega) (by omega) (by omega) _ ⟨?_, rl_mq_rf N K⟩ 14 c 0 (by omega) (by omega) (by omega) (by rw [show (c - c).toNat = 0 by omega]; rfl)
      rw [h3]
      congr 2; unfold an_odd; rw [if_neg (by omega), if_neg (by omega), if_neg (by omega)]
    · skip
      refine fw_iload dX6_odd_94 rfl ?_
      refine fw_aload_n dX6_odd_96 rfl rfl ?_
      refine fw_getr 6 2 rfl dX6_odd_97 ff_6_17 ly1_0 ⟨by decide, by decide⟩ rfl rfl (by decide) ?_
      refine fw_iload_n dX6_odd_100 rfl rfl ?_
      refine fw_iload dX6_odd_101 rfl ?_
      refine fw_pS mX6_changeAt [_, _] dX6_odd_103 mv_X6_changeAt lk_6_119 ⟨⟨by decide, by decide⟩, rfl, rfl, rfl, by decide, by decide⟩ rfl rfl (Nat.le_of_ble_eq_true rfl) (sp_X6_changeAt _ _ _ _ (by omega) (by omega)) ?_
      refine fw_iconst dX6_odd_106 ⟨by decide, by decide⟩ ?_
      refine fw_iadd dX6_odd_107 ⟨by omega, by omega⟩ ?_
      refine fw_iaload dX6_odd_108 ly1_2 ⟨by decide, by decide⟩ ⟨by omega, by omega⟩ ?_
      have f5 : N 2 (12 * (20 * m + i) + 5) = md_G N (m * 20 + i) 5 := by rw [show 20 * m + i = m * 20 + i by omega]; rfl
      rw [f5]
      have hs : ab_day (fun i => md_G N (m * 20 + i) 5) d (i + 1).toNat = ab_day (fun i => md_G N (m * 20 + i) 5) d i.toNat + (if md_G N (m * 20 + i) 5 = d then 1 else 0) := by
        rw [show (i + 1).toNat = i.toNat + 1 by omega]
        show _ + (if md_G N (m * 20 + ((i.toNat : Nat) : Int)) 5 = d then 1 else 0) = _
        rw [show ((i.toNat : Nat) : Int) = i by omega]
      refine fw_iload_n dX6_odd_109 rfl rfl ?_
      refine fw_icmp_ne 117 dX6_odd_110 (by decide) (fun h110 => ?_) (fun h110 => ?_)
      · skip
        refine fw_iconst dX6_odd_117 ⟨by decide, by decide⟩ ?_
        refine fw_iadd dX6_odd_118 ⟨by omega, by omega⟩ ?_
        refine fw_istore (ls2 := [_, _, _, _, _, _, _]) dX6_odd_119 (by decide) rfl ?_
        refine fw_iinc (ls2 := [_, _, _, _, _, _, _]) dX6_odd_121 rfl ⟨by omega, by omega⟩ (by decide) rfl ?_
        refine fw_goto 87 dX6_odd_124 (by decide) ?_
        exact ih (i + 1) _ (by omega) (by omega) (by omega) (by rw [hs, h3, if_neg h110])
      · skip
        refine fw_iconst dX6_odd_113 ⟨by decide, by decide⟩ ?_
        refine fw_goto 118 dX6_odd_114 (by decide) ?_
        refine fw_iadd dX6_odd_118 ⟨by omega, by omega⟩ ?_
        refine fw_istore (ls2 := [_, _, _, _, _, _, _]) dX6_odd_119 (by decide) rfl ?_
        refine fw_iinc (ls2 := [_, _, _, _, _, _, _]) dX6_odd_121 rfl ⟨by omega, by omega⟩ (by decide) rfl ?_
        refine fw_goto 87 dX6_odd_124 (by decide) ?_
        exact ih (i + 1) _ (by omega) (by omega) (by omega) (by rw [hs, h3, if_pos h110])

set_option maxRecDepth 20000 in
set_option maxHeartbeats 4000000 in
theorem pm_X6_odd (M N : fw_F) (L K : fw_G) (hR : Rel M L N K) (m d w : Int) : fw_D mX6_odd 5 [some (fw_r 0), some (fw_i m), some (fw_i d), some (fw_i w)] [] N K (fun r N2 K2 => r = some (fw_l (an_odd (N 0 2) (N 0 4) (N 1 m) m d w (ab_pw (Int64.ofInt (N 0 4 + 1)) (N 1 m).toNat) (ab_ws (fun j => ab_c1 (N 1 m) j.toNat * ab_pw (Int64.ofInt (N 0 4)) (N 1 m - j).toNat) (ab_day (fun i => md_G N (m * 20 + i) 5) d (N 1 m).toNat) (N 1 m + 1 - (ab_day (fun i => md_G N (m * 20 + i) 5) d (N 1 m).toNat)).toNat))) ∧ rl_mq N K N2 K2) := by
  obtain ⟨ha1, ha2, ha3, ha4, ha5, ha6⟩ := hR.1
  have hn1 := hR.2.1.1.1.1
  have hn2 := hR.2.1.1.1.2.1
  refine fw_aload_n dX6_odd_5 rfl rfl ?_
  refine fw_iload_n dX6_odd_6 rfl rfl ?_
  refine fw_pV mX6_isMachine [_] dX6_odd_7 mv_X6_isMachine lk_6_179 ⟨⟨by decide, by decide⟩, rfl, rfl, rfl, by decide, by decide⟩ ly1_0 ⟨by decide, by decide⟩ rfl rfl (Nat.le_of_ble_eq_true rfl) (sp_X6_isMachine _ _ _ (by omega)) ?_
  refine fw_bifeq 30 dX6_odd_10 (by decide) (fun h10 => ?_) (fun h10 => ?_)
  · skip
    refine fw_ldc2 dX6_odd_30 cl_6_270 ?_
    exact fw_lret dX6_odd_33 ⟨rfl, rfl, rfl⟩ (⟨(by congr 2; unfold an_odd; rw [if_pos (by omega)]), rl_mq_rf N K⟩)
  · skip
    refine fw_aload_n dX6_odd_13 rfl rfl ?_
    refine fw_iload_n dX6_odd_14 rfl rfl ?_
    refine fw_pV mX6_isDay [_] dX6_odd_15 mv_X6_isDay lk_6_224 ⟨⟨by decide, by decide⟩, rfl, rfl, rfl, by decide, by decide⟩ ly1_0 ⟨by decide, by decide⟩ rfl rfl (Nat.le_of_ble_eq_true rfl) (sp_X6_isDay _ _ _) ?_
    refine fw_bifeq 30 dX6_odd_18 (by decide) (fun h18 => ?_) (fun h18 => ?_)
    · skip
      refine fw_ldc2 dX6_odd_30 cl_6_270 ?_
      exact fw_lret dX6_odd_33 ⟨rfl, rfl, rfl⟩ (⟨(by congr 2; unfold an_odd; rw [if_pos (by omega)]), rl_mq_rf N K⟩)
    · skip
      refine fw_iload_n dX6_odd_21 rfl rfl ?_
      refine fw_iconst dX6_odd_22 ⟨by decide, by decide⟩ ?_
      refine fw_iconst dX6_odd_23 ⟨by decide, by decide⟩ ?_
      refine fw_pS mX6_in [_, _, _] dX6_odd_24 mv_X6_in lk_6_115 ⟨⟨by decide, by decide⟩, rfl, rfl, rfl, by decide, by decide⟩ rfl rfl (Nat.le_of_ble_eq_true rfl) (sp_X6_in _ _ _ _ _) ?_
      refine fw_bifne 34 dX6_odd_27 (by decide) (fun h27 => ?_) (fun h27 => ?_)
      · skip
        have hm20 := hR.2.1.1.1.2.2 m (by omega) (by omega)
        refine fw_aload_n dX6_odd_34 rfl rfl ?_
        refine fw_getr 5 1 rfl dX6_odd_35 ff_6_13 ly1_0 ⟨by decide, by decide⟩ rfl rfl (by decide) ?_
        refine fw_iload_n dX6_odd_38 rfl rfl ?_
        refine fw_iaload dX6_odd_39 ly1_1 ⟨by decide, by decide⟩ ⟨by omega, by omega⟩ ?_
        refine fw_istore (ls2 := [_, _, _, _, _]) dX6_odd_40 (by decide) rfl ?_
        refine fw_aload_n dX6_odd_42 rfl rfl ?_
        refine fw_geti 4 rfl dX6_odd_43 ff_6_109 ly1_0 ⟨by decide, by decide⟩ rfl ?_
        refine fw_iconst dX6_odd_46 ⟨by decide, by decide⟩ ?_
        refine fw_iadd dX6_odd_47 ⟨by omega, by omega⟩ ?_
        refine fw_bipush dX6_odd_48 ⟨by decide, by decide⟩ (by decide) ?_
        refine fw_icmp_gt 60 dX6_odd_50 (by decide) (fun h50 => ?_) (fun h50 => ?_)
        · skip
          refine fw_ldc2 dX6_odd_60 cl_6_272 ?_
          exact fw_lret dX6_odd_63 ⟨rfl, rfl, rfl⟩ (⟨(by congr 2; unfold an_odd; rw [if_neg (by omega), if_pos (by omega)]), rl_mq_rf N K⟩)
        · skip
          refine fw_iload dX6_odd_53 rfl ?_
          refine fw_bipush dX6_odd_55 ⟨by decide, by decide⟩ (by decide) ?_
          refine fw_icmp_le 64 dX6_odd_57 (by decide) (fun h57 => ?_) (fun h57 => ?_)
          · skip
            refine fw_iload_n dX6_odd_64 rfl rfl ?_
            refine fw_iconst dX6_odd_65 ⟨by decide, by decide⟩ ?_
            refine fw_icmp_ne 81 dX6_odd_66 (by decide) (fun h66 => ?_) (fun h66 => ?_)
            · skip
              refine fw_iconst dX6_odd_81 ⟨by decide, by decide⟩ ?_
              refine fw_istore (ls2 := [_, _, _, _, _, _]) dX6_odd_82 (by decide) rfl ?_
              refine fw_iconst dX6_odd_84 ⟨by decide, by decide⟩ ?_
              refine fw_istore (ls2 := [_, _, _, _, _, _, _]) dX6_odd_85 (by decide) rfl ?_
              exact lp_X6_odd M N L K hR m d w (by omega) (by omega) (by omega) (by omega) (by omega) hn2 13 0 0 (by omega) (by decide) (by omega) rfl
            · skip
              refine fw_aload_n dX6_odd_69 rfl rfl ?_
              refine fw_geti 4 rfl dX6_odd_70 ff_6_109 ly1_0 ⟨by decide, by decide⟩ rfl ?_
              refine fw_iconst dX6_odd_73 ⟨by decide, by decide⟩ ?_
              refine fw_iadd dX6_odd_74 ⟨by omega, by omega⟩ ?_
              refine fw_iload dX6_odd_75 rfl ?_
              refine fw_pS mX6_power [_, _] dX6_odd_77 mv_X6_power lk_6_274 ⟨⟨by decide, by decide⟩, rfl, rfl, rfl, by decide, by decide⟩ rfl rfl (Nat.le_of_ble_eq_true rfl) (sp_X6_power _ _ _ _ (by omega)) ?_
              exact fw_lret dX6_odd_80 ⟨rfl, rfl, rfl⟩ (⟨by congr 2; unfold an_odd; rw [if_neg (by omega), if_neg (by omega), if_pos (by omega)], rl_mq_rf N K⟩)
          · skip
            refine fw_ldc2 dX6_odd_60 cl_6_272 ?_
            exact fw_lret dX6_odd_63 ⟨rfl, rfl, rfl⟩ (⟨(by congr 2; unfold an_odd; rw [if_neg (by omega), if_pos (by omega)]), rl_mq_rf N K⟩)
      · skip
        refine fw_ldc2 dX6_odd_30 cl_6_270 ?_
        exact fw_lret dX6_odd_33 ⟨rfl, rfl, rfl⟩ (⟨(by congr 2; unfold an_odd; rw [if_pos (by omega)]), rl_mq_rf N K⟩)

set_option maxRecDepth 20000 in
set_option maxHeartbeats 4000000 in
theorem sp_X6_odd (M N : fw_F) (L K : fw_G) (hR : Rel M L (fw_upd N 0 0 0) K) (m d w : Int) : fw_SD mX6_odd [fw_r 0, fw_i m, fw_i d, fw_i w] N K (fun r N2 K2 => r = some (fw_l (an_odd ((fw_upd N 0 0 0) 0 2) ((fw_upd N 0 0 0) 0 4) ((fw_upd N 0 0 0) 1 m) m d w (ab_pw (Int64.ofInt ((fw_upd N 0 0 0) 0 4 + 1)) ((fw_upd N 0 0 0) 1 m).toNat) (ab_ws (fun j => ab_c1 ((fw_upd N 0 0 0) 1 m) j.toNat * ab_pw (Int64.ofInt ((fw_upd N 0 0 0) 0 4)) ((fw_upd N 0 0 0) 1 m - j).toNat) (ab_day (fun i => md_G (fw_upd N 0 0 0) (m * 20 + i) 5) d ((fw_upd N 0 0 0) 1 m).toNat) ((fw_upd N 0 0 0) 1 m + 1 - (ab_day (fun i => md_G (fw_upd N 0 0 0) (m * 20 + i) 5) d ((fw_upd N 0 0 0) 1 m).toNat)).toNat))) ∧ rl_mq (fw_upd N 0 0 0) K N2 K2) := by
  refine fw_SP_of pl_X6_odd (ls := [_, _, _, _]) rfl (Nat.le_of_ble_eq_true rfl) fun hA hM => ?_
  refine fw_aload_n dX6_odd_0 rfl rfl ?_
  refine fw_iconst dX6_odd_1 ⟨by decide, by decide⟩ ?_
  refine fw_puti 0 rfl dX6_odd_2 fp_6_106 ly1_0 (by decide) ⟨by decide, by decide⟩ rfl ?_
  exact pm_X6_odd M (fw_upd N 0 0 0) L K hR m d w
