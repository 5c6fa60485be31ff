/-! bulk -/
def rl_mt (c : Int64) (N : fw_F) (K : fw_G) (N2 : fw_F) (K2 : fw_G) : Prop := (∀ k, (1 ≤ k ∧ k ≤ 6) ∨ (20 ≤ k ∧ k ≤ 23) ∨ 26 ≤ k → N2 k = N k ∧ K2 k = K k) ∧ (∀ j, ¬ j = 0 → ¬ j = 28 → N2 0 j = N 0 j) ∧ K2 0 1 = K 0 1 + c
theorem rl_mt_R {M N N2 : fw_F} {L K L2 K2 : fw_G} {c : Int64} (hR : Rel M L N K) (h : rl_mt c N K N2 K2) (h1 : ∀ k, ¬ k = 0 → L2 k = L k) (h2 : L2 0 9 = L 0 9 + c) : Rel M L2 N2 K2 := by
  have hq : rl_mq N K N2 (fun k j => if k = 0 then K 0 j else K2 k j) := ⟨fun k a => ⟨(h.1 k a).1, by funext j; show (if k = 0 then K 0 j else K2 k j) = K k j; rw [if_neg (by omega), (h.1 k a).2]⟩, h.2.1, by funext j; show (if (0 : Int) = 0 then K 0 j else K2 0 j) = K 0 j; rw [if_pos rfl]⟩
  refine rl_l0 (rl_md hR hq) h1 (fun k a => by funext j; show _ = if k = 0 then K 0 j else K2 k j; rw [if_neg a]) ?_
  rw [h2, h.2.2, hR.1.2.2.1]
theorem rl_mt_of {N N2 : fw_F} {K K2 : fw_G} {c : Int64} (h : ∀ k, k < 7 ∨ 19 < k → N2 k = N k) (h1 : ∀ k, ¬ k = 0 → K2 k = K k) (h2 : K2 0 1 = K 0 1 + c) : rl_mt c N K N2 K2 := ⟨fun k a => ⟨h k (by omega), h1 k (by omega)⟩, fun j _ _ => by rw [h 0 (by omega)], h2⟩
def rl_in (S : ab_S) (t : Int) : Int := ab_sm (fun i => if ¬ S.1 1 (i + 1) = 0 ∧ S.1 3 (i + 1) = t then 1 else 0) 11
def rl_bk (k : Int) : Int64 := if k = 0 then 1 else if k = 1 then 11 else if k = 2 then 101 else if k = 3 then 1001 else if k = 4 then 10011 else 100011
def an_bulkc (n : Int) (S : ab_S) (k m t : Int) : Int64 := if ¬ ((0 ≤ k ∧ k ≤ 5) ∧ (0 ≤ m ∧ m < n) ∧ (0 ≤ t ∧ t < 12)) ∨ S.1 1 t = 0 then 0 else rl_bk k
def an_bulk (n : Int) (S : ab_S) (k m t pl bc ins ln : Int) : Int := if ¬ ((0 ≤ k ∧ k ≤ 5) ∧ (0 ≤ m ∧ m < n) ∧ (0 ≤ t ∧ t < 12)) then -1 else if S.1 1 t = 0 then -2 else if k = 0 then pl else if k = 1 then pl + bc else if k = 2 then pl + 3 * ins else if k = 3 then pl / 2 else if k = 4 then pl + bc - bc / 2 else pl + bc + 5 * ln
theorem rl_bc_rng {M N : fw_F} {L K : fw_G} (hR : Rel M L N K) (m d : Int) {t : Int} (ht : 0 ≤ t ∧ t < 12) : 0 ≤ rl_bc N (rl_S M N m d) t ∧ rl_bc N (rl_S M N m d) t ≤ 32 := by
  obtain ⟨h4, hr⟩ := rl_rows hR m d ht
  have h2 := ab_sm_rng (f := fun r => md_G N (ab_rwf (rl_S M N m d) t r) 3) (a := 0) (b := 8) ((rl_S M N m d).2 t).length (fun j a b => (hr j a b).2.2.2)
  unfold rl_bc
  omega
theorem rl_in_rng (S : ab_S) (t : Int) : 0 ≤ rl_in S t ∧ rl_in S t ≤ 11 := by
  have hr := ab_sm_rng (f := fun i => if ¬ S.1 1 (i + 1) = 0 ∧ S.1 3 (i + 1) = t then 1 else 0) (a := 0) (b := 1) 11 (fun i _ _ => by split <;> omega)
  unfold rl_in
  omega

set_option maxRecDepth 20000 in
set_option maxHeartbeats 4000000 in
theorem sp_X5_bulk (M N : fw_F) (L K : fw_G) (hR : Rel M L N K) (k m t : Int) : fw_SC mX5_bulk [fw_r 0, fw_i k, fw_i m, fw_i t] M L (fun r M2 L2 => r = some (fw_i (an_bulk (N 0 2) (rl_S M N m (N 0 4)) k m t (4 + ab_LB (rl_S M N m (N 0 4)) (rl_e N) t) (rl_bc N (rl_S M N m (N 0 4)) t) (rl_in (rl_S M N m (N 0 4)) t) (((rl_S M N m (N 0 4)).2 t).length : Int))) ∧ ∀ N2 K2, rl_mt (an_bulkc (N 0 2) (rl_S M N m (N 0 4)) k m t) N K N2 K2 → Rel M2 L2 N2 K2) := by
  refine fw_SP_of pl_X5_bulk (ls := [_, _, _, _]) rfl (Nat.le_of_ble_eq_true rfl) fun hA hM => ?_
  obtain ⟨ha1, ha2, ha3, ha4, ha5, ha6⟩ := hR.1
  have hn1 := hR.2.1.1.1.1
  have hn2 := hR.2.1.1.1.2.1
  refine fw_iload_n dX5_bulk_0 rfl rfl ?_
  refine fw_if_lt 24 dX5_bulk_1 (by decide) (fun h1 => ?_) (fun h1 => ?_)
  · skip
    refine fw_iconst dX5_bulk_24 ⟨by decide, by decide⟩ ?_
    refine fw_iret dX5_bulk_25 ⟨rfl, rfl, rfl⟩ ?_
    refine ⟨(by congr 2; unfold an_bulk; (repeat' split) <;> omega), fun N2 K2 h => ?_⟩
    have hc : (an_bulkc (N 0 2) (rl_S M N m (N 0 4)) k m t) = 0 := if_pos (by omega)
    rw [hc] at h
    exact rl_mt_R hR h (fun k _ => rfl) (Int64.add_zero _).symm
  · skip
    refine fw_iload_n dX5_bulk_4 rfl rfl ?_
    refine fw_iconst dX5_bulk_5 ⟨by decide, by decide⟩ ?_
    refine fw_icmp_gt 24 dX5_bulk_6 (by decide) (fun h6 => ?_) (fun h6 => ?_)
    · skip
      refine fw_iconst dX5_bulk_24 ⟨by decide, by decide⟩ ?_
      refine fw_iret dX5_bulk_25 ⟨rfl, rfl, rfl⟩ ?_
      refine ⟨(by congr 2; unfold an_bulk; (repeat' split) <;> omega), fun N2 K2 h => ?_⟩
      have hc : (an_bulkc (N 0 2) (rl_S M N m (N 0 4)) k m t) = 0 := if_pos (by omega)
      rw [hc] at h
      exact rl_mt_R hR h (fun k _ => rfl) (Int64.add_zero _).symm
    · skip
      refine fw_aload_n dX5_bulk_9 rfl rfl ?_
      refine fw_iload_n dX5_bulk_10 rfl rfl ?_
      refine fw_pV mX5_isMachine [_] dX5_bulk_11 mv_X5_isMachine lk_5_62 ⟨⟨by decide, by decide⟩, rfl, rfl, rfl, by decide, by decide⟩ ly0_0 ⟨by decide, by decide⟩ rfl rfl (Nat.le_of_ble_eq_true rfl) (sp_X5_isMachine _ _ _) ?_
      refine fw_bifeq 24 dX5_bulk_14 (by decide) (fun h14 => ?_) (fun h14 => ?_)
      · skip
        refine fw_iconst dX5_bulk_24 ⟨by decide, by decide⟩ ?_
        refine fw_iret dX5_bulk_25 ⟨rfl, rfl, rfl⟩ ?_
        refine ⟨(by congr 2; unfold an_bulk; (repeat' split) <;> omega), fun N2 K2 h => ?_⟩
        have hc : (an_bulkc (N 0 2) (rl_S M N m (N 0 4)) k m t) = 0 := if_pos (by omega)
        rw [hc] at h
        exact rl_mt_R hR h (fun k _ => rfl) (Int64.add_zero _).symm
      · skip
        refine fw_iload_n dX5_bulk_17 rfl rfl ?_
        refine fw_pS mX5_isThing [_] dX5_bulk_18 mv_X5_isThing lk_5_66 ⟨⟨by decide, by decide⟩, rfl, rfl, rfl, by decide, by decide⟩ rfl rfl (Nat.le_of_ble_eq_true rfl) (sp_X5_isThing _ _ _) ?_
        refine fw_bifne 26 dX5_bulk_21 (by decide) (fun h21 => ?_) (fun h21 => ?_)
        · skip
          refine fw_aload_n dX5_bulk_26 rfl rfl ?_
          refine fw_iload_n dX5_bulk_27 rfl rfl ?_
          refine fw_cV mX5_growNow [_] dX5_bulk_28 mv_X5_growNow lk_5_72 ⟨⟨by decide, by decide⟩, rfl, rfl, rfl, by decide, by decide⟩ ly0_0 ⟨by decide, by decide⟩ rfl rfl (Nat.le_of_ble_eq_true rfl) (rl_growNow hR (by omega)) (fun r M1 L1 hp hM1 => ?_)
          obtain ⟨rfl, rfl, g1, g2⟩ := hp
          obtain ⟨e0, e1, e2, e3, e4, e5, e6, e7⟩ := g2.1 t (by omega) (by omega)
          have et := ti_there (rl_ti hR m (N 0 4)) (t := t) (by omega)
          refine fw_aload_n dX5_bulk_31 rfl rfl ?_
          refine fw_getr 1 168 rfl dX5_bulk_32 ff_5_21 ly0_0 ⟨by decide, by decide⟩ rfl rfl (by decide) ?_
          refine fw_iload_n dX5_bulk_35 rfl rfl ?_
          refine fw_pV mX4_isThere [_] dX5_bulk_36 mv_X4_isThere lk_5_107 ⟨⟨by decide, by decide⟩, rfl, rfl, rfl, by decide, by decide⟩ ly0_168 ⟨by decide, by decide⟩ rfl rfl (Nat.le_of_ble_eq_true rfl) (sp_X4_isThere _ _ _ (by omega) (by rw [e1]; exact et.1)) ?_
          refine fw_if_ne 45 dX5_bulk_39 (by decide) (fun h39 => ?_) (fun h39 => ?_)
          · skip
            have hth : ¬ (rl_S M N m (N 0 4)).1 1 t = 0 := by omega
            have el := g2.2.1 t (by omega) (by omega) hth
            have hcb := (rl_cbc hR (t := t) (by omega) g1 g2).1
            have hrw := (rl_crw hR (t := t) (by omega) g1 g2).1
            have hin : ab_sm (fun i => if ¬ M1 170 (i + 1) = 0 ∧ M1 172 (i + 1) = t then 1 else 0) 11 = rl_in (rl_S M N m (N 0 4)) t := ab_sm_congr _ (fun i a b => by obtain ⟨-, w1, -, w3, -⟩ := g2.1 (i + 1) (by omega) (by omega); rw [w1, w3])
            refine fw_iload_n dX5_bulk_45 rfl rfl ?_
            by_cases h46 : k < 1 ∨ 5 < k
            · refine fw_tblOut 110 dX5_bulk_46 h46 (by decide) ?_
              refine fw_aload_n dX5_bulk_110 rfl rfl ?_
              refine fw_iload_n dX5_bulk_111 rfl rfl ?_
              refine fw_cV mX5_bulkAsThing [_] dX5_bulk_112 mv_X5_bulkAsThing lk_5_203 ⟨⟨by decide, by decide⟩, rfl, rfl, rfl, by decide, by decide⟩ ly0_0 ⟨by decide, by decide⟩ rfl rfl (Nat.le_of_ble_eq_true rfl) (sp_X5_bulkAsThing t M1 L1 (by omega) (by omega)) (fun r M1 L1 hp hM1 => ?_)
              obtain ⟨rfl, rfl, rfl⟩ := hp
              refine fw_iret dX5_bulk_115 ⟨rfl, rfl, rfl⟩ ?_
              refine ⟨?_, fun N2 K2 h => ?_⟩
              · congr 2; unfold an_bulk; (repeat' split) <;> omega
              · have hc : (an_bulkc (N 0 2) (rl_S M N m (N 0 4)) k m t) = rl_bk k := if_neg (by omega)
                rw [hc, show k = 0 by omega] at h
                exact rl_mt_R (rl_cl hR (fun k a b => ⟨g1 k a, rfl⟩)) h (fun k a => fw_uplne a) fw_uplj
            · rcases (show k = 1 ∨ k = 2 ∨ k = 3 ∨ k = 4 ∨ k = 5 by omega) with h46 | h46 | h46 | h46 | h46
              · refine fw_tblIn 80 dX5_bulk_46 (by omega) (by omega) (by rw [h46]; rfl) (by decide) ?_
                refine fw_aload_n dX5_bulk_80 rfl rfl ?_
                refine fw_iload_n dX5_bulk_81 rfl rfl ?_
                refine fw_cV mX5_bulkAsFile [_] dX5_bulk_82 mv_X5_bulkAsFile lk_5_188 ⟨⟨by decide, by decide⟩, rfl, rfl, rfl, by decide, by decide⟩ ly0_0 ⟨by decide, by decide⟩ rfl rfl (Nat.le_of_ble_eq_true rfl) (sp_X5_bulkAsFile t M1 L1 (by omega) (by omega) hrw) (fun r M1 L1 hp hM1 => ?_)
                obtain ⟨rfl, rfl, rfl⟩ := hp
                refine fw_iret dX5_bulk_85 ⟨rfl, rfl, rfl⟩ ?_
                refine ⟨?_, fun N2 K2 h => ?_⟩
                · congr 2; unfold an_bulk; (repeat' split) <;> omega
                · have hc : (an_bulkc (N 0 2) (rl_S M N m (N 0 4)) k m t) = rl_bk k := if_neg (by omega)
                  rw [hc, show k = 1 by omega] at h
                  exact rl_mt_R (rl_cl hR (fun k a b => ⟨g1 k a, rfl⟩)) h (fun k a => fw_uplne a) fw_uplj
              · refine fw_tblIn 86 dX5_bulk_46 (by omega) (by omega) (by rw [h46]; rfl) (by decide) ?_
                refine fw_aload_n dX5_bulk_86 rfl rfl ?_
                refine fw_iload_n dX5_bulk_87 rfl rfl ?_
                refine fw_cV mX5_bulkAsFolder [_] dX5_bulk_88 mv_X5_bulkAsFolder lk_5_191 ⟨⟨by decide, by decide⟩, rfl, rfl, rfl, by decide, by decide⟩ ly0_0 ⟨by decide, by decide⟩ rfl rfl (Nat.le_of_ble_eq_true rfl) (sp_X5_bulkAsFolder t M1 L1 (by omega) (by omega)) (fun r M1 L1 hp hM1 => ?_)
                obtain ⟨rfl, rfl, rfl⟩ := hp
                refine fw_iret dX5_bulk_91 ⟨rfl, rfl, rfl⟩ ?_
                refine ⟨?_, fun N2 K2 h => ?_⟩
                · congr 2; unfold an_bulk; (repeat' split) <;> omega
                · have hc : (an_bulkc (N 0 2) (rl_S M N m (N 0 4)) k m t) = rl_bk k := if_neg (by omega)
                  rw [hc, show k = 2 by omega] at h
                  exact rl_mt_R (rl_cl hR (fun k a b => ⟨g1 k a, rfl⟩)) h (fun k a => fw_uplne a) fw_uplj
              · refine fw_tblIn 92 dX5_bulk_46 (by omega) (by omega) (by rw [h46]; rfl) (by decide) ?_
                refine fw_aload_n dX5_bulk_92 rfl rfl ?_
                refine fw_iload_n dX5_bulk_93 rfl rfl ?_
                refine fw_cV mX5_bulkAsLink [_] dX5_bulk_94 mv_X5_bulkAsLink lk_5_194 ⟨⟨by decide, by decide⟩, rfl, rfl, rfl, by decide, by decide⟩ ly0_0 ⟨by decide, by decide⟩ rfl rfl (Nat.le_of_ble_eq_true rfl) (sp_X5_bulkAsLink t M1 L1 (by omega) (by omega)) (fun r M1 L1 hp hM1 => ?_)
                obtain ⟨rfl, rfl, rfl⟩ := hp
                refine fw_iret dX5_bulk_97 ⟨rfl, rfl, rfl⟩ ?_
                refine ⟨?_, fun N2 K2 h => ?_⟩
                · congr 2; unfold an_bulk; (repeat' split) <;> omega
                · have hc : (an_bulkc (N 0 2) (rl_S M N m (N 0 4)) k m t) = rl_bk k := if_neg (by omega)
                  rw [hc, show k = 3 by omega] at h
                  exact rl_mt_R (rl_cl hR (fun k a b => ⟨g1 k a, rfl⟩)) h (fun k a => fw_uplne a) fw_uplj
              · refine fw_tblIn 98 dX5_bulk_46 (by omega) (by omega) (by rw [h46]; rfl) (by decide) ?_
                refine fw_aload_n dX5_bulk_98 rfl rfl ?_
                refine fw_iload_n dX5_bulk_99 rfl rfl ?_
                refine fw_cV mX5_bulkAsHeld [_] dX5_bulk_100 mv_X5_bulkAsHeld lk_5_197 ⟨⟨by decide, by decide⟩, rfl, rfl, rfl, by decide, by decide⟩ ly0_0 ⟨by decide, by decide⟩ rfl rfl (Nat.le_of_ble_eq_true rfl) (sp_X5_bulkAsHeld t M1 L1 (by omega) (by omega) hrw) (fun r M1 L1 hp hM1 => ?_)
                obtain ⟨rfl, rfl, rfl⟩ := hp
                refine fw_iret dX5_bulk_103 ⟨rfl, rfl, rfl⟩ ?_
                refine ⟨?_, fun N2 K2 h => ?_⟩
                · congr 2; unfold an_bulk; (repeat' split) <;> omega
                · have hc : (an_bulkc (N 0 2) (rl_S M N m (N 0 4)) k m t) = rl_bk k := if_neg (by omega)
                  rw [hc, show k = 4 by omega] at h
                  exact rl_mt_R (rl_cl hR (fun k a b => ⟨g1 k a, rfl⟩)) h (fun k a => fw_uplne a) fw_uplj
              · refine fw_tblIn 104 dX5_bulk_46 (by omega) (by omega) (by rw [h46]; rfl) (by decide) ?_
                refine fw_aload_n dX5_bulk_104 rfl rfl ?_
                refine fw_iload_n dX5_bulk_105 rfl rfl ?_
                refine fw_cV mX5_bulkAsClash [_] dX5_bulk_106 mv_X5_bulkAsClash lk_5_200 ⟨⟨by decide, by decide⟩, rfl, rfl, rfl, by decide, by decide⟩ ly0_0 ⟨by decide, by decide⟩ rfl rfl (Nat.le_of_ble_eq_true rfl) (sp_X5_bulkAsClash t M1 L1 (by omega) (by omega) hrw) (fun r M1 L1 hp hM1 => ?_)
                obtain ⟨rfl, rfl, rfl⟩ := hp
                refine fw_iret dX5_bulk_109 ⟨rfl, rfl, rfl⟩ ?_
                refine ⟨?_, fun N2 K2 h => ?_⟩
                · congr 2; unfold an_bulk; (repeat' split) <;> omega
                · have hc : (an_bulkc (N 0 2) (rl_S M N m (N 0 4)) k m t) = rl_bk k := if_neg (by omega)
                  rw [hc, show k = 5 by omega] at h
                  exact rl_mt_R (rl_cl hR (fun k a b => ⟨g1 k a, rfl⟩)) h (fun k a => fw_uplne a) fw_uplj
          · skip
            refine fw_bipush dX5_bulk_42 ⟨by decide, by decide⟩ (by decide) ?_
            refine fw_iret dX5_bulk_44 ⟨rfl, rfl, rfl⟩ ?_
            refine ⟨(by congr 2; unfold an_bulk; (repeat' split) <;> omega), fun N2 K2 h => ?_⟩
            have hc : (an_bulkc (N 0 2) (rl_S M N m (N 0 4)) k m t) = 0 := if_pos (by omega)
            rw [hc] at h
            exact rl_mt_R (rl_cl hR (fun k a b => ⟨g1 k a, rfl⟩)) h (fun k _ => rfl) (Int64.add_zero _).symm
        · skip
          refine fw_iconst dX5_bulk_24 ⟨by decide, by decide⟩ ?_
          refine fw_iret dX5_bulk_25 ⟨rfl, rfl, rfl⟩ ?_
          refine ⟨(by congr 2; unfold an_bulk; (repeat' split) <;> omega), fun N2 K2 h => ?_⟩
          have hc : (an_bulkc (N 0 2) (rl_S M N m (N 0 4)) k m t) = 0 := if_pos (by omega)
          rw [hc] at h
          exact rl_mt_R hR h (fun k _ => rfl) (Int64.add_zero _).symm

set_option maxRecDepth 20000 in
set_option maxHeartbeats 4000000 in
theorem pm_X6_bulk (M N : fw_F) (L K : fw_G) (hR : Rel M L N K) (k m t : Int) : fw_D mX6_bulk 5 [some (fw_r 0), some (fw_i k), some (fw_i m), some (fw_i t)] [] N K (fun r N2 K2 => r = some (fw_i (an_bulk (N 0 2) (rl_S M N m (N 0 4)) k m t (4 + ab_LB (rl_S M N m (N 0 4)) (rl_e N) t) (rl_bc N (rl_S M N m (N 0 4)) t) (rl_in (rl_S M N m (N 0 4)) t) (((rl_S M N m (N 0 4)).2 t).length : Int))) ∧ rl_mt (an_bulkc (N 0 2) (rl_S M N m (N 0 4)) k m t) N K N2 K2) := by
  obtain ⟨ha1, ha2, ha3, ha4, ha5, ha6⟩ := hR.1
  have hn1 := hR.2.1.1.1.1
  have hn2 := hR.2.1.1.1.2.1
  refine fw_iload_n dX6_bulk_5 rfl rfl ?_
  refine fw_iconst dX6_bulk_6 ⟨by decide, by decide⟩ ?_
  refine fw_iconst dX6_bulk_7 ⟨by decide, by decide⟩ ?_
  refine fw_pS mX6_in [_, _, _] dX6_bulk_8 mv_X6_in lk_6_115 ⟨⟨by decide, by decide⟩, rfl, rfl, rfl, by decide, by decide⟩ rfl rfl (Nat.le_of_ble_eq_true rfl) (sp_X6_in _ _ _ _ _) ?_
  refine fw_bifeq 29 dX6_bulk_11 (by decide) (fun h11 => ?_) (fun h11 => ?_)
  · skip
    refine fw_iconst dX6_bulk_29 ⟨by decide, by decide⟩ ?_
    refine fw_iret dX6_bulk_30 ⟨rfl, rfl, rfl⟩ ?_
    refine ⟨(by congr 2; unfold an_bulk; (repeat' split) <;> omega), rl_mt_of (fun _ _ => rfl) (fun _ _ => rfl) ?_⟩
    rw [show (an_bulkc (N 0 2) (rl_S M N m (N 0 4)) k m t) = 0 from if_pos (by omega), Int64.add_zero]
  · skip
    refine fw_aload_n dX6_bulk_14 rfl rfl ?_
    refine fw_iload_n dX6_bulk_15 rfl rfl ?_
    refine fw_pV mX6_isMachine [_] dX6_bulk_16 mv_X6_isMachine lk_6_179 ⟨⟨by decide, by decide⟩, rfl, rfl, rfl, by decide, by decide⟩ ly1_0 ⟨by decide, by decide⟩ rfl rfl (Nat.le_of_ble_eq_true rfl) (sp_X6_isMachine _ _ _ (by omega)) ?_
    refine fw_bifeq 29 dX6_bulk_19 (by decide) (fun h19 => ?_) (fun h19 => ?_)
    · skip
      refine fw_iconst dX6_bulk_29 ⟨by decide, by decide⟩ ?_
      refine fw_iret dX6_bulk_30 ⟨rfl, rfl, rfl⟩ ?_
      refine ⟨(by congr 2; unfold an_bulk; (repeat' split) <;> omega), rl_mt_of (fun _ _ => rfl) (fun _ _ => rfl) ?_⟩
      rw [show (an_bulkc (N 0 2) (rl_S M N m (N 0 4)) k m t) = 0 from if_pos (by omega), Int64.add_zero]
    · skip
      refine fw_iload_n dX6_bulk_22 rfl rfl ?_
      refine fw_pS mX6_isThing [_] dX6_bulk_23 mv_X6_isThing lk_6_182 ⟨⟨by decide, by decide⟩, rfl, rfl, rfl, by decide, by decide⟩ rfl rfl (Nat.le_of_ble_eq_true rfl) (sp_X6_isThing _ _ _) ?_
      refine fw_bifne 31 dX6_bulk_26 (by decide) (fun h26 => ?_) (fun h26 => ?_)
      · skip
        refine fw_aload_n dX6_bulk_31 rfl rfl ?_
        refine fw_iload_n dX6_bulk_32 rfl rfl ?_
        refine fw_cV mX6_tellsNow [_] dX6_bulk_33 mv_X6_tellsNow lk_6_176 ⟨⟨by decide, by decide⟩, rfl, rfl, rfl, by decide, by decide⟩ ly1_0 ⟨by decide, by decide⟩ rfl rfl (Nat.le_of_ble_eq_true rfl) (rl_tellsNow hR (by omega)) (fun r M1 L1 hp hM1 => ?_)
        obtain ⟨rfl, rfl, g1, g2⟩ := hp
        obtain ⟨e0, e1, e2, e3, e4, e6, e7⟩ := g2.1 t (by omega) (by omega)
        refine fw_aload_n dX6_bulk_36 rfl rfl ?_
        refine fw_getr 15 11 rfl dX6_bulk_37 ff_6_46 ly1_0 ⟨by decide, by decide⟩ rfl rfl (by decide) ?_
        refine fw_iload_n dX6_bulk_40 rfl rfl ?_
        refine fw_baload dX6_bulk_41 ly1_11 ⟨by decide, by decide⟩ ⟨by omega, by omega⟩ ?_
        refine fw_if_ne 48 dX6_bulk_42 (by decide) (fun h42 => ?_) (fun h42 => ?_)
        · skip
          have hth : ¬ (rl_S M N m (N 0 4)).1 1 t = 0 := by omega
          have el := g2.2.1 t (by omega) (by omega) hth
          have hcb := (rl_mbc hR (t := t) (by omega) g1 g2).1
          have hrw := (rl_mrw hR (t := t) (by omega) g1 g2).1
          have r4 := (rl_rows hR m (N 0 4) (t := t) (by omega)).1
          have hbr := rl_bc_rng hR m (N 0 4) (t := t) (by omega)
          have hir := rl_in_rng (rl_S M N m (N 0 4)) t
          have hin : ab_sm (fun i => if ¬ M1 11 (i + 1) = 0 ∧ M1 13 (i + 1) = t then 1 else 0) 11 = rl_in (rl_S M N m (N 0 4)) t := ab_sm_congr _ (fun i a b => by obtain ⟨-, w1, -, w3, -⟩ := g2.1 (i + 1) (by omega) (by omega); rw [w1, w3])
          refine fw_iconst dX6_bulk_48 ⟨by decide, by decide⟩ ?_
          refine fw_aload_n dX6_bulk_49 rfl rfl ?_
          refine fw_getr 20 16 rfl dX6_bulk_50 ff_6_61 ly1_0 ⟨by decide, by decide⟩ rfl rfl (by decide) ?_
          refine fw_iload_n dX6_bulk_53 rfl rfl ?_
          refine fw_iaload dX6_bulk_54 ly1_16 ⟨by decide, by decide⟩ ⟨by omega, by omega⟩ ?_
          refine fw_iadd dX6_bulk_55 ⟨by omega, by omega⟩ ?_
          refine fw_istore (ls2 := [_, _, _, _, _]) dX6_bulk_56 (by decide) rfl ?_
          refine fw_iload dX6_bulk_58 rfl ?_
          refine fw_aload_n dX6_bulk_60 rfl rfl ?_
          refine fw_iload_n dX6_bulk_61 rfl rfl ?_
          refine fw_pV mX6_held [_] dX6_bulk_62 mv_X6_held lk_6_233 ⟨⟨by decide, by decide⟩, rfl, rfl, rfl, by decide, by decide⟩ ly1_0 ⟨by decide, by decide⟩ rfl rfl (Nat.le_of_ble_eq_true rfl) (sp_X6_held t _ _ hrw) ?_
          rw [hcb]
          refine fw_iadd dX6_bulk_65 ⟨by omega, by omega⟩ ?_
          refine fw_istore (ls2 := [_, _, _, _, _, _]) dX6_bulk_66 (by decide) rfl ?_
          refine fw_aload_n dX6_bulk_68 rfl rfl ?_
          refine fw_dup dX6_bulk_69 rfl ?_
          refine fw_getl 1 rfl dX6_bulk_70 ff_6_236 ly1_0 ⟨by decide, by decide⟩ rfl ?_
          refine fw_iload_n dX6_bulk_73 rfl rfl ?_
          refine fw_if_ne 81 dX6_bulk_74 (by decide) (fun h74 => ?_) (fun h74 => ?_)
          · skip
            refine fw_iload_n dX6_bulk_81 rfl rfl ?_
            refine fw_iconst dX6_bulk_82 ⟨by decide, by decide⟩ ?_
            refine fw_icmp_ne 92 dX6_bulk_83 (by decide) (fun h83 => ?_) (fun h83 => ?_)
            · skip
              refine fw_iload_n dX6_bulk_92 rfl rfl ?_
              refine fw_iconst dX6_bulk_93 ⟨by decide, by decide⟩ ?_
              refine fw_icmp_ne 103 dX6_bulk_94 (by decide) (fun h94 => ?_) (fun h94 => ?_)
              · skip
                refine fw_iload_n dX6_bulk_103 rfl rfl ?_
                refine fw_iconst dX6_bulk_104 ⟨by decide, by decide⟩ ?_
                refine fw_icmp_ne 114 dX6_bulk_105 (by decide) (fun h105 => ?_) (fun h105 => ?_)
                · skip
                  refine fw_iload_n dX6_bulk_114 rfl rfl ?_
                  refine fw_iconst dX6_bulk_115 ⟨by decide, by decide⟩ ?_
                  refine fw_icmp_ne 125 dX6_bulk_116 (by decide) (fun h116 => ?_) (fun h116 => ?_)
                  · skip
                    refine fw_ldc2 dX6_bulk_125 cl_6_248 ?_
                    refine fw_ladd dX6_bulk_128 ?_
                    refine fw_putl 1 rfl dX6_bulk_129 fp_6_236 ly1_0 (by decide) ⟨by decide, by decide⟩ rfl ?_
                    refine fw_iload_n dX6_bulk_132 rfl rfl ?_
                    refine fw_if_ne 141 dX6_bulk_133 (by decide) (fun h133 => ?_) (fun h133 => ?_)
                    · skip
                      refine fw_iload_n dX6_bulk_141 rfl rfl ?_
                      refine fw_iconst dX6_bulk_142 ⟨by decide, by decide⟩ ?_
                      refine fw_icmp_ne 151 dX6_bulk_143 (by decide) (fun h143 => ?_) (fun h143 => ?_)
                      · skip
                        refine fw_iload_n dX6_bulk_151 rfl rfl ?_
                        refine fw_iconst dX6_bulk_152 ⟨by decide, by decide⟩ ?_
                        refine fw_icmp_ne 169 dX6_bulk_153 (by decide) (fun h153 => ?_) (fun h153 => ?_)
                        · skip
                          refine fw_iload_n dX6_bulk_169 rfl rfl ?_
                          refine fw_iconst dX6_bulk_170 ⟨by decide, by decide⟩ ?_
                          refine fw_icmp_ne 181 dX6_bulk_171 (by decide) (fun h171 => ?_) (fun h171 => ?_)
                          · skip
                            refine fw_iload_n dX6_bulk_181 rfl rfl ?_
                            refine fw_iconst dX6_bulk_182 ⟨by decide, by decide⟩ ?_
                            refine fw_icmp_ne 199 dX6_bulk_183 (by decide) (fun h183 => ?_) (fun h183 => ?_)
                            · skip
                              refine fw_iload dX6_bulk_199 rfl ?_
                              refine fw_iconst dX6_bulk_201 ⟨by decide, by decide⟩ ?_
                              refine fw_aload_n dX6_bulk_202 rfl rfl ?_
                              refine fw_getr 21 17 rfl dX6_bulk_203 ff_6_64 ly1_0 ⟨by decide, by decide⟩ rfl rfl (by decide) ?_
                              refine fw_iload_n dX6_bulk_206 rfl rfl ?_
                              refine fw_iaload dX6_bulk_207 ly1_17 ⟨by decide, by decide⟩ ⟨by omega, by omega⟩ ?_
                              refine fw_imul dX6_bulk_208 ⟨by omega, by omega⟩ ?_
                              refine fw_iadd dX6_bulk_209 ⟨by omega, by omega⟩ ?_
                              refine fw_iret dX6_bulk_210 ⟨rfl, rfl, rfl⟩ ?_
                              refine ⟨?_, rl_mt_of g1 (fun k a => fw_uplne a) ?_⟩
                              · congr 2; unfold an_bulk; (repeat' split) <;> omega
                              · rw [fw_uplj, show (an_bulkc (N 0 2) (rl_S M N m (N 0 4)) k m t) = rl_bk k from if_neg (by omega), show k = 5 by omega]; rfl
                            · skip
                              refine fw_iload dX6_bulk_186 rfl ?_
                              refine fw_aload_n dX6_bulk_188 rfl rfl ?_
                              refine fw_iload_n dX6_bulk_189 rfl rfl ?_
                              refine fw_pV mX6_held [_] dX6_bulk_190 mv_X6_held lk_6_233 ⟨⟨by decide, by decide⟩, rfl, rfl, rfl, by decide, by decide⟩ ly1_0 ⟨by decide, by decide⟩ rfl rfl (Nat.le_of_ble_eq_true rfl) (sp_X6_held t _ _ hrw) ?_
                              rw [hcb]
                              refine fw_iconst dX6_bulk_193 ⟨by decide, by decide⟩ ?_
                              refine fw_idiv dX6_bulk_194 (by omega) (by omega) ?_
                              refine fw_isub dX6_bulk_195 ⟨by omega, by omega⟩ ?_
                              refine fw_goto 210 dX6_bulk_196 (by decide) ?_
                              refine fw_iret dX6_bulk_210 ⟨rfl, rfl, rfl⟩ ?_
                              exfalso; omega
                          · skip
                            refine fw_iload dX6_bulk_174 rfl ?_
                            refine fw_iconst dX6_bulk_176 ⟨by decide, by decide⟩ ?_
                            refine fw_idiv dX6_bulk_177 (by omega) (by omega) ?_
                            refine fw_goto 210 dX6_bulk_178 (by decide) ?_
                            refine fw_iret dX6_bulk_210 ⟨rfl, rfl, rfl⟩ ?_
                            exfalso; omega
                        · skip
                          refine fw_iload dX6_bulk_156 rfl ?_
                          refine fw_iconst dX6_bulk_158 ⟨by decide, by decide⟩ ?_
                          refine fw_aload_n dX6_bulk_159 rfl rfl ?_
                          refine fw_iload_n dX6_bulk_160 rfl rfl ?_
                          refine fw_pV mX6_inside [_] dX6_bulk_161 mv_X6_inside lk_6_250 ⟨⟨by decide, by decide⟩, rfl, rfl, rfl, by decide, by decide⟩ ly1_0 ⟨by decide, by decide⟩ rfl rfl (Nat.le_of_ble_eq_true rfl) (sp_X6_inside _ _ _) ?_
                          rw [hin]
                          refine fw_imul dX6_bulk_164 ⟨by omega, by omega⟩ ?_
                          refine fw_iadd dX6_bulk_165 ⟨by omega, by omega⟩ ?_
                          refine fw_goto 210 dX6_bulk_166 (by decide) ?_
                          refine fw_iret dX6_bulk_210 ⟨rfl, rfl, rfl⟩ ?_
                          exfalso; omega
                      · skip
                        refine fw_iload dX6_bulk_146 rfl ?_
                        refine fw_goto 210 dX6_bulk_148 (by decide) ?_
                        refine fw_iret dX6_bulk_210 ⟨rfl, rfl, rfl⟩ ?_
                        exfalso; omega
                    · skip
                      refine fw_iload dX6_bulk_136 rfl ?_
                      refine fw_goto 210 dX6_bulk_138 (by decide) ?_
                      refine fw_iret dX6_bulk_210 ⟨rfl, rfl, rfl⟩ ?_
                      exfalso; omega
                  · skip
                    refine fw_ldc2 dX6_bulk_119 cl_6_246 ?_
                    refine fw_goto 128 dX6_bulk_122 (by decide) ?_
                    refine fw_ladd dX6_bulk_128 ?_
                    refine fw_putl 1 rfl dX6_bulk_129 fp_6_236 ly1_0 (by decide) ⟨by decide, by decide⟩ rfl ?_
                    refine fw_iload_n dX6_bulk_132 rfl rfl ?_
                    refine fw_if_ne 141 dX6_bulk_133 (by decide) (fun h133 => ?_) (fun h133 => ?_)
                    · skip
                      refine fw_iload_n dX6_bulk_141 rfl rfl ?_
                      refine fw_iconst dX6_bulk_142 ⟨by decide, by decide⟩ ?_
                      refine fw_icmp_ne 151 dX6_bulk_143 (by decide) (fun h143 => ?_) (fun h143 => ?_)
                      · skip
                        refine fw_iload_n dX6_bulk_151 rfl rfl ?_
                        refine fw_iconst dX6_bulk_152 ⟨by decide, by decide⟩ ?_
                        refine fw_icmp_ne 169 dX6_bulk_153 (by decide) (fun h153 => ?_) (fun h153 => ?_)
                        · skip
                          refine fw_iload_n dX6_bulk_169 rfl rfl ?_
                          refine fw_iconst dX6_bulk_170 ⟨by decide, by decide⟩ ?_
                          refine fw_icmp_ne 181 dX6_bulk_171 (by decide) (fun h171 => ?_) (fun h171 => ?_)
                          · skip
                            refine fw_iload_n dX6_bulk_181 rfl rfl ?_
                            refine fw_iconst dX6_bulk_182 ⟨by decide, by decide⟩ ?_
                            refine fw_icmp_ne 199 dX6_bulk_183 (by decide) (fun h183 => ?_) (fun h183 => ?_)
                            · skip
                              refine fw_iload dX6_bulk_199 rfl ?_
                              refine fw_iconst dX6_bulk_201 ⟨by decide, by decide⟩ ?_
                              refine fw_aload_n dX6_bulk_202 rfl rfl ?_
                              refine fw_getr 21 17 rfl dX6_bulk_203 ff_6_64 ly1_0 ⟨by decide, by decide⟩ rfl rfl (by decide) ?_
                              refine fw_iload_n dX6_bulk_206 rfl rfl ?_
                              refine fw_iaload dX6_bulk_207 ly1_17 ⟨by decide, by decide⟩ ⟨by omega, by omega⟩ ?_
                              refine fw_imul dX6_bulk_208 ⟨by omega, by omega⟩ ?_
                              refine fw_iadd dX6_bulk_209 ⟨by omega, by omega⟩ ?_
                              refine fw_iret dX6_bulk_210 ⟨rfl, rfl, rfl⟩ ?_
                              exfalso; omega
                            · skip
                              refine fw_iload dX6_bulk_186 rfl ?_
                              refine fw_aload_n dX6_bulk_188 rfl rfl ?_
                              refine fw_iload_n dX6_bulk_189 rfl rfl ?_
                              refine fw_pV mX6_held [_] dX6_bulk_190 mv_X6_held lk_6_233 ⟨⟨by decide, by decide⟩, rfl, rfl, rfl, by decide, by decide⟩ ly1_0 ⟨by decide, by decide⟩ rfl rfl (Nat.le_of_ble_eq_true rfl) (sp_X6_held t _ _ hrw) ?_
                              rw [hcb]
                              refine fw_iconst dX6_bulk_193 ⟨by decide, by decide⟩ ?_
                              refine fw_idiv dX6_bulk_194 (by omega) (by omega) ?_
                              refine fw_isub dX6_bulk_195 ⟨by omega, by omega⟩ ?_
                              refine fw_goto 210 dX6_bulk_196 (by decide) ?_
                              refine fw_iret dX6_bulk_210 ⟨rfl, rfl, rfl⟩ ?_
                              refine ⟨?_, rl_mt_of g1 (fun k a => fw_uplne a) ?_⟩
                              · congr 2; unfold an_bulk; (repeat' split) <;> omega
                              · rw [fw_uplj, show (an_bulkc (N 0 2) (rl_S M N m (N 0 4)) k m t) = rl_bk k from if_neg (by omega), show k = 4 by omega]; rfl
                          · skip
                            refine fw_iload dX6_bulk_174 rfl ?_
                            refine fw_iconst dX6_bulk_176 ⟨by decide, by decide⟩ ?_
                            refine fw_idiv dX6_bulk_177 (by omega) (by omega) ?_
                            refine fw_goto 210 dX6_bulk_178 (by decide) ?_
                            refine fw_iret dX6_bulk_210 ⟨rfl, rfl, rfl⟩ ?_
                            exfalso; omega
                        · skip
                          refine fw_iload dX6_bulk_156 rfl ?_
                          refine fw_iconst dX6_bulk_158 ⟨by decide, by decide⟩ ?_
                          refine fw_aload_n dX6_bulk_159 rfl rfl ?_
                          refine fw_iload_n dX6_bulk_160 rfl rfl ?_
                          refine fw_pV mX6_inside [_] dX6_bulk_161 mv_X6_inside lk_6_250 ⟨⟨by decide, by decide⟩, rfl, rfl, rfl, by decide, by decide⟩ ly1_0 ⟨by decide, by decide⟩ rfl rfl (Nat.le_of_ble_eq_true rfl) (sp_X6_inside _ _ _) ?_
                          rw [hin]
                          refine fw_imul dX6_bulk_164 ⟨by omega, by omega⟩ ?_
                          refine fw_iadd dX6_bulk_165 ⟨by omega, by omega⟩ ?_
                          refine fw_goto 210 dX6_bulk_166 (by decide) ?_
                          refine fw_iret dX6_bulk_210 ⟨rfl, rfl, rfl⟩ ?_
                          exfalso; omega
                      · skip
                        refine fw_iload dX6_bulk_146 rfl ?_
                        refine fw_goto 210 dX6_bulk_148 (by decide) ?_
                        refine fw_iret dX6_bulk_210 ⟨rfl, rfl, rfl⟩ ?_
                        exfalso; omega
                    · skip
                      refine fw_iload dX6_bulk_136 rfl ?_
                      refine fw_goto 210 dX6_bulk_138 (by decide) ?_
                      refine fw_iret dX6_bulk_210 ⟨rfl, rfl, rfl⟩ ?_
                      exfalso; omega
                · skip
                  refine fw_ldc2 dX6_bulk_108 cl_6_244 ?_
                  refine fw_goto 128 dX6_bulk_111 (by decide) ?_
                  refine fw_ladd dX6_bulk_128 ?_
                  refine fw_putl 1 rfl dX6_bulk_129 fp_6_236 ly1_0 (by decide) ⟨by decide, by decide⟩ rfl ?_
                  refine fw_iload_n dX6_bulk_132 rfl rfl ?_
                  refine fw_if_ne 141 dX6_bulk_133 (by decide) (fun h133 => ?_) (fun h133 => ?_)
                  · skip
                    refine fw_iload_n dX6_bulk_141 rfl rfl ?_
                    refine fw_iconst dX6_bulk_142 ⟨by decide, by decide⟩ ?_
                    refine fw_icmp_ne 151 dX6_bulk_143 (by decide) (fun h143 => ?_) (fun h143 => ?_)
                    · skip
                      refine fw_iload_n dX6_bulk_151 rfl rfl ?_
                      refine fw_iconst dX6_bulk_152 ⟨by decide, by decide⟩ ?_
                      refine fw_icmp_ne 169 dX6_bulk_153 (by decide) (fun h153 => ?_) (fun h153 => ?_)
                      · skip
                        refine fw_iload_n dX6_bulk_169 rfl rfl ?_
                        refine fw_iconst dX6_bulk_170 ⟨by decide, by decide⟩ ?_
                        refine fw_icmp_ne 181 dX6_bulk_171 (by decide) (fun h171 => ?_) (fun h171 => ?_)
                        · skip
                          refine fw_iload_n dX6_bulk_181 rfl rfl ?_
                          refine fw_iconst dX6_bulk_182 ⟨by decide, by decide⟩ ?_
                          refine fw_icmp_ne 199 dX6_bulk_183 (by decide) (fun h183 => ?_) (fun h183 => ?_)
                          · skip
                            refine fw_iload dX6_bulk_199 rfl ?_
                            refine fw_iconst dX6_bulk_201 ⟨by decide, by decide⟩ ?_
                            refine fw_aload_n dX6_bulk_202 rfl rfl ?_
                            refine fw_getr 21 17 rfl dX6_bulk_203 ff_6_64 ly1_0 ⟨by decide, by decide⟩ rfl rfl (by decide) ?_
                            refine fw_iload_n dX6_bulk_206 rfl rfl ?_
                            refine fw_iaload dX6_bulk_207 ly1_17 ⟨by decide, by decide⟩ ⟨by omega, by omega⟩ ?_
                            refine fw_imul dX6_bulk_208 ⟨by omega, by omega⟩ ?_
                            refine fw_iadd dX6_bulk_209 ⟨by omega, by omega⟩ ?_
                            refine fw_iret dX6_bulk_210 ⟨rfl, rfl, rfl⟩ ?_
                            exfalso; omega
                          · skip
                            refine fw_iload dX6_bulk_186 rfl ?_
                            refine fw_aload_n dX6_bulk_188 rfl rfl ?_
                            refine fw_iload_n dX6_bulk_189 rfl rfl ?_
                            refine fw_pV mX6_held [_] dX6_bulk_190 mv_X6_held lk_6_233 ⟨⟨by decide, by decide⟩, rfl, rfl, rfl, by decide, by decide⟩ ly1_0 ⟨by decide, by decide⟩ rfl rfl (Nat.le_of_ble_eq_true rfl) (sp_X6_held t _ _ hrw) ?_
                            rw [hcb]
                            refine fw_iconst dX6_bulk_193 ⟨by decide, by decide⟩ ?_
                            refine fw_idiv dX6_bulk_194 (by omega) (by omega) ?_
                            refine fw_isub dX6_bulk_195 ⟨by omega, by omega⟩ ?_
                            refine fw_goto 210 dX6_bulk_196 (by decide) ?_
                            refine fw_iret dX6_bulk_210 ⟨rfl, rfl, rfl⟩ ?_
                            exfalso; omega
                        · skip
                          refine fw_iload dX6_bulk_174 rfl ?_
                          refine fw_iconst dX6_bulk_176 ⟨by decide, by decide⟩ ?_
                          refine fw_idiv dX6_bulk_177 (by omega) (by omega) ?_
                          refine fw_goto 210 dX6_bulk_178 (by decide) ?_
                          refine fw_iret dX6_bulk_210 ⟨rfl, rfl, rfl⟩ ?_
                          refine ⟨?_, rl_mt_of g1 (fun k a => fw_uplne a) ?_⟩
                          · congr 2; unfold an_bulk; (repeat' split) <;> omega
                          · rw [fw_uplj, show (an_bulkc (N 0 2) (rl_S M N m (N 0 4)) k m t) = rl_bk k from if_neg (by omega), show k = 3 by omega]; rfl
                      · skip
                        refine fw_iload dX6_bulk_156 rfl ?_
                        refine fw_iconst dX6_bulk_158 ⟨by decide, by decide⟩ ?_
                        refine fw_aload_n dX6_bulk_159 rfl rfl ?_
                        refine fw_iload_n dX6_bulk_160 rfl rfl ?_
                        refine fw_pV mX6_inside [_] dX6_bulk_161 mv_X6_inside lk_6_250 ⟨⟨by decide, by decide⟩, rfl, rfl, rfl, by decide, by decide⟩ ly1_0 ⟨by decide, by decide⟩ rfl rfl (Nat.le_of_ble_eq_true rfl) (sp_X6_inside _ _ _) ?_
                        rw [hin]
                        refine fw_imul dX6_bulk_164 ⟨by omega, by omega⟩ ?_
                        refine fw_iadd dX6_bulk_165 ⟨by omega, by omega⟩ ?_
                        refine fw_goto 210 dX6_bulk_166 (by decide) ?_
                        refine fw_iret dX6_bulk_210 ⟨rfl, rfl, rfl⟩ ?_
                        exfalso; omega
                    · skip
                      refine fw_iload dX6_bulk_146 rfl ?_
                      refine fw_goto 210 dX6_bulk_148 (by decide) ?_
                      refine fw_iret dX6_bulk_210 ⟨rfl, rfl, rfl⟩ ?_
                      exfalso; omega
                  · skip
                    refine fw_iload dX6_bulk_136 rfl ?_
                    refine fw_goto 210 dX6_bulk_138 (by decide) ?_
                    refine fw_iret dX6_bulk_210 ⟨rfl, rfl, rfl⟩ ?_
                    exfalso; omega
              · skip
                refine fw_ldc2 dX6_bulk_97 cl_6_242 ?_
                refine fw_goto 128 dX6_bulk_100 (by decide) ?_
                refine fw_ladd dX6_bulk_128 ?_
                refine fw_putl 1 rfl dX6_bulk_129 fp_6_236 ly1_0 (by decide) ⟨by decide, by decide⟩ rfl ?_
                refine fw_iload_n dX6_bulk_132 rfl rfl ?_
                refine fw_if_ne 141 dX6_bulk_133 (by decide) (fun h133 => ?_) (fun h133 => ?_)
                · skip
                  refine fw_iload_n dX6_bulk_141 rfl rfl ?_
                  refine fw_iconst dX6_bulk_142 ⟨by decide, by decide⟩ ?_
                  refine fw_icmp_ne 151 dX6_bulk_143 (by decide) (fun h143 => ?_) (fun h143 => ?_)
                  · skip
                    refine fw_iload_n dX6_bulk_151 rfl rfl ?_
                    refine fw_iconst dX6_bulk_152 ⟨by decide, by decide⟩ ?_
                    refine fw_icmp_ne 169 dX6_bulk_153 (by decide) (fun h153 => ?_) (fun h153 => ?_)
                    · skip
                      refine fw_iload_n dX6_bulk_169 rfl rfl ?_
                      refine fw_iconst dX6_bulk_170 ⟨by decide, by decide⟩ ?_
                      refine fw_icmp_ne 181 dX6_bulk_171 (by decide) (fun h171 => ?_) (fun h171 => ?_)
                      · skip
                        refine fw_iload_n dX6_bulk_181 rfl rfl ?_
                        refine fw_iconst dX6_bulk_182 ⟨by decide, by decide⟩ ?_
                        refine fw_icmp_ne 199 dX6_bulk_183 (by decide) (fun h183 => ?_) (fun h183 => ?_)
                        · skip
                          refine fw_iload dX6_bulk_199 rfl ?_
                          refine fw_iconst dX6_bulk_201 ⟨by decide, by decide⟩ ?_
                          refine fw_aload_n dX6_bulk_202 rfl rfl ?_
                          refine fw_getr 21 17 rfl dX6_bulk_203 ff_6_64 ly1_0 ⟨by decide, by decide⟩ rfl rfl (by decide) ?_
                          refine fw_iload_n dX6_bulk_206 rfl rfl ?_
                          refine fw_iaload dX6_bulk_207 ly1_17 ⟨by decide, by decide⟩ ⟨by omega, by omega⟩ ?_
                          refine fw_imul dX6_bulk_208 ⟨by omega, by omega⟩ ?_
                          refine fw_iadd dX6_bulk_209 ⟨by omega, by omega⟩ ?_
                          refine fw_iret dX6_bulk_210 ⟨rfl, rfl, rfl⟩ ?_
                          exfalso; omega
                        · skip
                          refine fw_iload dX6_bulk_186 rfl ?_
                          refine fw_aload_n dX6_bulk_188 rfl rfl ?_
                          refine fw_iload_n dX6_bulk_189 rfl rfl ?_
                          refine fw_pV mX6_held [_] dX6_bulk_190 mv_X6_held lk_6_233 ⟨⟨by decide, by decide⟩, rfl, rfl, rfl, by decide, by decide⟩ ly1_0 ⟨by decide, by decide⟩ rfl rfl (Nat.le_of_ble_eq_true rfl) (sp_X6_held t _ _ hrw) ?_
                          rw [hcb]
                          refine fw_iconst dX6_bulk_193 ⟨by decide, by decide⟩ ?_
                          refine fw_idiv dX6_bulk_194 (by omega) (by omega) ?_
                          refine fw_isub dX6_bulk_195 ⟨by omega, by omega⟩ ?_
                          refine fw_goto 210 dX6_bulk_196 (by decide) ?_
                          refine fw_iret dX6_bulk_210 ⟨rfl, rfl, rfl⟩ ?_
                          exfalso; omega
                      · skip
                        refine fw_iload dX6_bulk_174 rfl ?_
                        refine fw_iconst dX6_bulk_176 ⟨by decide, by decide⟩ ?_
                        refine fw_idiv dX6_bulk_177 (by omega) (by omega) ?_
                        refine fw_goto 210 dX6_bulk_178 (by decide) ?_
                        refine fw_iret dX6_bulk_210 ⟨rfl, rfl, rfl⟩ ?_
                        exfalso; omega
                    · skip
                      refine fw_iload dX6_bulk_156 rfl ?_
                      refine fw_iconst dX6_bulk_158 ⟨by decide, by decide⟩ ?_
                      refine fw_aload_n dX6_bulk_159 rfl rfl ?_
                      refine fw_iload_n dX6_bulk_160 rfl rfl ?_
                      refine fw_pV mX6_inside [_] dX6_bulk_161 mv_X6_inside lk_6_250 ⟨⟨by decide, by decide⟩, rfl, rfl, rfl, by decide, by decide⟩ ly1_0 ⟨by decide, by decide⟩ rfl rfl (Nat.le_of_ble_eq_true rfl) (sp_X6_inside _ _ _) ?_
                      rw [hin]
                      refine fw_imul dX6_bulk_164 ⟨by omega, by omega⟩ ?_
                      refine fw_iadd dX6_bulk_165 ⟨by omega, by omega⟩ ?_
                      refine fw_goto 210 dX6_bulk_166 (by decide) ?_
                      refine fw_iret dX6_bulk_210 ⟨rfl, rfl, rfl⟩ ?_
                      refine ⟨?_, rl_mt_of g1 (fun k a => fw_uplne a) ?_⟩
                      · congr 2; unfold an_bulk; (repeat' split) <;> omega
                      · rw [fw_uplj, show (an_bulkc (N 0 2) (rl_S M N m (N 0 4)) k m t) = rl_bk k from if_neg (by omega), show k = 2 by omega]; rfl
                  · skip
                    refine fw_iload dX6_bulk_146 rfl ?_
                    refine fw_goto 210 dX6_bulk_148 (by decide) ?_
                    refine fw_iret dX6_bulk_210 ⟨rfl, rfl, rfl⟩ ?_
                    exfalso; omega
                · skip
                  refine fw_iload dX6_bulk_136 rfl ?_
                  refine fw_goto 210 dX6_bulk_138 (by decide) ?_
                  refine fw_iret dX6_bulk_210 ⟨rfl, rfl, rfl⟩ ?_
                  exfalso; omega
            · skip
              refine fw_ldc2 dX6_bulk_86 cl_6_240 ?_
              refine fw_goto 128 dX6_bulk_89 (by decide) ?_
              refine fw_ladd dX6_bulk_128 ?_
              refine fw_putl 1 rfl dX6_bulk_129 fp_6_236 ly1_0 (by decide) ⟨by decide, by decide⟩ rfl ?_
              refine fw_iload_n dX6_bulk_132 rfl rfl ?_
              refine fw_if_ne 141 dX6_bulk_133 (by decide) (fun h133 => ?_) (fun h133 => ?_)
              · skip
                refine fw_iload_n dX6_bulk_141 rfl rfl ?_
                refine fw_iconst dX6_bulk_142 ⟨by decide, by decide⟩ ?_
                refine fw_icmp_ne 151 dX6_bulk_143 (by decide) (fun h143 => ?_) (fun h143 => ?_)
                · skip
                  refine fw_iload_n dX6_bulk_151 rfl rfl ?_
                  refine fw_iconst dX6_bulk_152 ⟨by decide, by decide⟩ ?_
                  refine fw_icmp_ne 169 dX6_bulk_153 (by decide) (fun h153 => ?_) (fun h153 => ?_)
                  · skip
                    refine fw_iload_n dX6_bulk_169 rfl rfl ?_
                    refine fw_iconst dX6_bulk_170 ⟨by decide, by decide⟩ ?_
                    refine fw_icmp_ne 181 dX6_bulk_171 (by decide) (fun h171 => ?_) (fun h171 => ?_)
                    · skip
                      refine fw_iload_n dX6_bulk_181 rfl rfl ?_
                      refine fw_iconst dX6_bulk_182 ⟨by decide, by decide⟩ ?_
                      refine fw_icmp_ne 199 dX6_bulk_183 (by decide) (fun h183 => ?_) (fun h183 => ?_)
                      · skip
                        refine fw_iload dX6_bulk_199 rfl ?_
                        refine fw_iconst dX6_bulk_201 ⟨by decide, by decide⟩ ?_
                        refine fw_aload_n dX6_bulk_202 rfl rfl ?_
                        refine fw_getr 21 17 rfl dX6_bulk_203 ff_6_64 ly1_0 ⟨by decide, by decide⟩ rfl rfl (by decide) ?_
                        refine fw_iload_n dX6_bulk_206 rfl rfl ?_
                        refine fw_iaload dX6_bulk_207 ly1_17 ⟨by decide, by decide⟩ ⟨by omega, by omega⟩ ?_
                        refine fw_imul dX6_bulk_208 ⟨by omega, by omega⟩ ?_
                        refine fw_iadd dX6_bulk_209 ⟨by omega, by omega⟩ ?_
                        refine fw_iret dX6_bulk_210 ⟨rfl, rfl, rfl⟩ ?_
                        exfalso; omega
                      · skip
                        refine fw_iload dX6_bulk_186 rfl ?_
                        refine fw_aload_n dX6_bulk_188 rfl rfl ?_
                        refine fw_iload_n dX6_bulk_189 rfl rfl ?_
                        refine fw_pV mX6_held [_] dX6_bulk_190 mv_X6_held lk_6_233 ⟨⟨by decide, by decide⟩, rfl, rfl, rfl, by decide, by decide⟩ ly1_0 ⟨by decide, by decide⟩ rfl rfl (Nat.le_of_ble_eq_true rfl) (sp_X6_held t _ _ hrw) ?_
                        rw [hcb]
                        refine fw_iconst dX6_bulk_193 ⟨by decide, by decide⟩ ?_
                        refine fw_idiv dX6_bulk_194 (by omega) (by omega) ?_
                        refine fw_isub dX6_bulk_195 ⟨by omega, by omega⟩ ?_
                        refine fw_goto 210 dX6_bulk_196 (by decide) ?_
                        refine fw_iret dX6_bulk_210 ⟨rfl, rfl, rfl⟩ ?_
                        exfalso; omega
                    · skip
                      refine fw_iload dX6_bulk_174 rfl ?_
                      refine fw_iconst dX6_bulk_176 ⟨by decide, by decide⟩ ?_
                      refine fw_idiv dX6_bulk_177 (by omega) (by omega) ?_
                      refine fw_goto 210 dX6_bulk_178 (by decide) ?_
                      refine fw_iret dX6_bulk_210 ⟨rfl, rfl, rfl⟩ ?_
                      exfalso; omega
                  · skip
                    refine fw_iload dX6_bulk_156 rfl ?_
                    refine fw_iconst dX6_bulk_158 ⟨by decide, by decide⟩ ?_
                    refine fw_aload_n dX6_bulk_159 rfl rfl ?_
                    refine fw_iload_n dX6_bulk_160 rfl rfl ?_
                    refine fw_pV mX6_inside [_] dX6_bulk_161 mv_X6_inside lk_6_250 ⟨⟨by decide, by decide⟩, rfl, rfl, rfl, by decide, by decide⟩ ly1_0 ⟨by decide, by decide⟩ rfl rfl (Nat.le_of_ble_eq_true rfl) (sp_X6_inside _ _ _) ?_
                    rw [hin]
                    refine fw_imul dX6_bulk_164 ⟨by omega, by omega⟩ ?_
                    refine fw_iadd dX6_bulk_165 ⟨by omega, by omega⟩ ?_
                    refine fw_goto 210 dX6_bulk_166 (by decide) ?_
                    refine fw_iret dX6_bulk_210 ⟨rfl, rfl, rfl⟩ ?_
                    exfalso; omega
                · skip
                  refine fw_iload dX6_bulk_146 rfl ?_
                  refine fw_goto 210 dX6_bulk_148 (by decide) ?_
                  refine fw_iret dX6_bulk_210 ⟨rfl, rfl, rfl⟩ ?_
                  refine ⟨?_, rl_mt_of g1 (fun k a => fw_uplne a) ?_⟩
                  · congr 2; unfold an_bulk; (repeat' split) <;> omega
                  · rw [fw_uplj, show (an_bulkc (N 0 2) (rl_S M N m (N 0 4)) k m t) = rl_bk k from if_neg (by omega), show k = 1 by omega]; rfl
              · skip
                refine fw_iload dX6_bulk_136 rfl ?_
                refine fw_goto 210 dX6_bulk_138 (by decide) ?_
                refine fw_iret dX6_bulk_210 ⟨rfl, rfl, rfl⟩ ?_
                exfalso; omega
          · skip
            refine fw_lconst (v := 1) dX6_bulk_77 (by decide) ?_
            refine fw_goto 128 dX6_bulk_78 (by decide) ?_
            refine fw_ladd dX6_bulk_128 ?_
            refine fw_putl 1 rfl dX6_bulk_129 fp_6_236 ly1_0 (by decide) ⟨by decide, by decide⟩ rfl ?_
            refine fw_iload_n dX6_bulk_132 rfl rfl ?_
            refine fw_if_ne 141 dX6_bulk_133 (by decide) (fun h133 => ?_) (fun h133 => ?_)
            · skip
              refine fw_iload_n dX6_bulk_141 rfl rfl ?_
              refine fw_iconst dX6_bulk_142 ⟨by decide, by decide⟩ ?_
              refine fw_icmp_ne 151 dX6_bulk_143 (by decide) (fun h143 => ?_) (fun h143 => ?_)
              · skip
                refine fw_iload_n dX6_bulk_151 rfl rfl ?_
                refine fw_iconst dX6_bulk_152 ⟨by decide, by decide⟩ ?_
                refine fw_icmp_ne 169 dX6_bulk_153 (by decide) (fun h153 => ?_) (fun h153 => ?_)
                · skip
                  refine fw_iload_n dX6_bulk_169 rfl rfl ?_
                  refine fw_iconst dX6_bulk_170 ⟨by decide, by decide⟩ ?_
                  refine fw_icmp_ne 181 dX6_bulk_171 (by decide) (fun h171 => ?_) (fun h171 => ?_)
                  · skip
                    refine fw_iload_n dX6_bulk_181 rfl rfl ?_
                    refine fw_iconst dX6_bulk_182 ⟨by decide, by decide⟩ ?_
                    refine fw_icmp_ne 199 dX6_bulk_183 (by decide) (fun h183 => ?_) (fun h183 => ?_)
                    · skip
                      refine fw_iload dX6_bulk_199 rfl ?_
                      refine fw_iconst dX6_bulk_201 ⟨by decide, by decide⟩ ?_
                      refine fw_aload_n dX6_bulk_202 rfl rfl ?_
                      refine fw_getr 21 17 rfl dX6_bulk_203 ff_6_64 ly1_0 ⟨by decide, by decide⟩ rfl rfl (by decide) ?_
                      refine fw_iload_n dX6_bulk_206 rfl rfl ?_
                      refine fw_iaload dX6_bulk_207 ly1_17 ⟨by decide, by decide⟩ ⟨by omega, by omega⟩ ?_
                      refine fw_imul dX6_bulk_208 ⟨by omega, by omega⟩ ?_
                      refine fw_iadd dX6_bulk_209 ⟨by omega, by omega⟩ ?_
                      refine fw_iret dX6_bulk_210 ⟨rfl, rfl, rfl⟩ ?_
                      exfalso; omega
                    · skip
                      refine fw_iload dX6_bulk_186 rfl ?_
                      refine fw_aload_n dX6_bulk_188 rfl rfl ?_
                      refine fw_iload_n dX6_bulk_189 rfl rfl ?_
                      refine fw_pV mX6_held [_] dX6_bulk_190 mv_X6_held lk_6_233 ⟨⟨by decide, by decide⟩, rfl, rfl, rfl, by decide, by decide⟩ ly1_0 ⟨by decide, by decide⟩ rfl rfl (Nat.le_of_ble_eq_true rfl) (sp_X6_held t _ _ hrw) ?_
                      rw [hcb]
                      refine fw_iconst dX6_bulk_193 ⟨by decide, by decide⟩ ?_
                      refine fw_idiv dX6_bulk_194 (by omega) (by omega) ?_
                      refine fw_isub dX6_bulk_195 ⟨by omega, by omega⟩ ?_
                      refine fw_goto 210 dX6_bulk_196 (by decide) ?_
                      refine fw_iret dX6_bulk_210 ⟨rfl, rfl, rfl⟩ ?_
                      exfalso; omega
                  · skip
                    refine fw_iload dX6_bulk_174 rfl ?_
                    refine fw_iconst dX6_bulk_176 ⟨by decide, by decide⟩ ?_
                    refine fw_idiv dX6_bulk_177 (by omega) (by omega) ?_
                    refine fw_goto 210 dX6_bulk_178 (by decide) ?_
                    refine fw_iret dX6_bulk_210 ⟨rfl, rfl, rfl⟩ ?_
                    exfalso; omega
                · skip
                  refine fw_iload dX6_bulk_156 rfl ?_
                  refine fw_iconst dX6_bulk_158 ⟨by decide, by decide⟩ ?_
                  refine fw_aload_n dX6_bulk_159 rfl rfl ?_
                  refine fw_iload_n dX6_bulk_160 rfl rfl ?_
                  refine fw_pV mX6_inside [_] dX6_bulk_161 mv_X6_inside lk_6_250 ⟨⟨by decide, by decide⟩, rfl, rfl, rfl, by decide, by decide⟩ ly1_0 ⟨by decide, by decide⟩ rfl rfl (Nat.le_of_ble_eq_true rfl) (sp_X6_inside _ _ _) ?_
                  rw [hin]
                  refine fw_imul dX6_bulk_164 ⟨by omega, by omega⟩ ?_
                  refine fw_iadd dX6_bulk_165 ⟨by omega, by omega⟩ ?_
                  refine fw_goto 210 dX6_bulk_166 (by decide) ?_
                  refine fw_iret dX6_bulk_210 ⟨rfl, rfl, rfl⟩ ?_
                  exfalso; omega
              · skip
                refine fw_iload dX6_bulk_146 rfl ?_
                refine fw_goto 210 dX6_bulk_148 (by decide) ?_
                refine fw_iret dX6_bulk_210 ⟨rfl, rfl, rfl⟩ ?_
                exfalso; omega
            · skip
              refine fw_iload dX6_bulk_136 rfl ?_
              refine fw_goto 210 dX6_bulk_138 (by decide) ?_
              refine fw_iret dX6_bulk_210 ⟨rfl, rfl, rfl⟩ ?_
              refine ⟨?_, rl_mt_of g1 (fun k a => fw_uplne a) ?_⟩
              · congr 2; unfold an_bulk; (repeat' split) <;> omega
              · rw [fw_uplj, show (an_bulkc (N 0 2) (rl_S M N m (N 0 4)) k m t) = rl_bk k from if_neg (by omega), show k = 0 by omega]; rfl
        · skip
          refine fw_bipush dX6_bulk_45 ⟨by decide, by decide⟩ (by decide) ?_
          refine fw_iret dX6_bulk_47 ⟨rfl, rfl, rfl⟩ ?_
          refine ⟨(by congr 2; unfold an_bulk; (repeat' split) <;> omega), rl_mt_of g1 (fun _ _ => rfl) ?_⟩
          rw [show (an_bulkc (N 0 2) (rl_S M N m (N 0 4)) k m t) = 0 from if_pos (by omega), Int64.add_zero]
      · skip
        refine fw_iconst dX6_bulk_29 ⟨by decide, by decide⟩ ?_
        refine fw_iret dX6_bulk_30 ⟨rfl, rfl, rfl⟩ ?_
        refine ⟨(by congr 2; unfold an_bulk; (repeat' split) <;> omega), rl_mt_of (fun _ _ => rfl) (fun _ _ => rfl) ?_⟩
        rw [show (an_bulkc (N 0 2) (rl_S M N m (N 0 4)) k m t) = 0 from if_pos (by omega), Int64.add_zero]

set_option maxRecDepth 20000 in
set_option maxHeartbeats 4000000 in
theorem sp_X6_bulk (M N : fw_F) (L K : fw_G) (hR : Rel M L (fw_upd N 0 0 0) K) (k m t : Int) : fw_SD mX6_bulk [fw_r 0, fw_i k, fw_i m, fw_i t] N K (fun r N2 K2 => r = some (fw_i (an_bulk ((fw_upd N 0 0 0) 0 2) (rl_S M (fw_upd N 0 0 0) m ((fw_upd N 0 0 0) 0 4)) k m t (4 + ab_LB (rl_S M (fw_upd N 0 0 0) m ((fw_upd N 0 0 0) 0 4)) (rl_e (fw_upd N 0 0 0)) t) (rl_bc (fw_upd N 0 0 0) (rl_S M (fw_upd N 0 0 0) m ((fw_upd N 0 0 0) 0 4)) t) (rl_in (rl_S M (fw_upd N 0 0 0) m ((fw_upd N 0 0 0) 0 4)) t) (((rl_S M (fw_upd N 0 0 0) m ((fw_upd N 0 0 0) 0 4)).2 t).length : Int))) ∧ rl_mt (an_bulkc ((fw_upd N 0 0 0) 0 2) (rl_S M (fw_upd N 0 0 0) m ((fw_upd N 0 0 0) 0 4)) k m t) (fw_upd N 0 0 0) K N2 K2) := by
  refine fw_SP_of pl_X6_bulk (ls := [_, _, _, _]) rfl (Nat.le_of_ble_eq_true rfl) fun hA hM => ?_
  refine fw_aload_n dX6_bulk_0 rfl rfl ?_
  refine fw_iconst dX6_bulk_1 ⟨by decide, by decide⟩ ?_
  refine fw_puti 0 rfl dX6_bulk_2 fp_6_106 ly1_0 (by decide) ⟨by decide, by decide⟩ rfl ?_
  exact pm_X6_bulk M (fw_upd N 0 0 0) L K hR k m t
