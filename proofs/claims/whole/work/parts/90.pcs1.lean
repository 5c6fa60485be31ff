/-! pieces of files, both sides -/
def rl_W (N : fw_F) (K : fw_G) (S : ab_S) (t : Int) : List pc_P := pc_all [] (rl_fs N K S t)
theorem rl_fs_ok {M N : fw_F} {L K : fw_G} (hR : Rel M L N K) (m d : Int) {t : Int} (ht : 0 ≤ t ∧ t < 12) : pc_ok (rl_fs N K (rl_S M N m d) t) ∧ (rl_fs N K (rl_S M N m d) t).length ≤ 32 := by
  obtain ⟨h4, hr⟩ := rl_rows hR m d ht
  have := pc_fr_ok (C := fun y => K 3 y) (Z := fun y => md_G N y 3) (R := ab_rwf (rl_S M N m d) t) ((rl_S M N m d).2 t).length (fun i a b => (hr i a b).2.2.2.2)
  refine ⟨this.1, ?_⟩
  have h2 := this.2
  show (pc_fr _ _ _ _).length ≤ _
  omega
theorem rl_W_ok {M N : fw_F} {L K : fw_G} (hR : Rel M L N K) (m d : Int) {t : Int} (ht : 0 ≤ t ∧ t < 12) : pc_ok (rl_W N K (rl_S M N m d) t) ∧ (rl_W N K (rl_S M N m d) t).length ≤ 32 ∧ (rl_W N K (rl_S M N m d) t).Nodup := by
  obtain ⟨h1, h2⟩ := rl_fs_ok (K := K) hR m d ht
  have h3 := pc_all_len (rl_fs N K (rl_S M N m d) t) []
  exact ⟨pc_all_ok (fun a h => by simp at h) h1, by unfold rl_W; simp only [List.length_nil] at h3; omega, pc_all_nd List.nodup_nil⟩
theorem rl_want {M N M1 : fw_F} {L K : fw_G} (hR : Rel M L N K) {m d t : Int} (ht : 0 ≤ t ∧ t < 12) (g1 : ∀ k, k < 169 ∨ 177 < k → M1 k = M k) (g2 : cl_V M1 (rl_S M N m d) (rl_e N)) : fw_SC mX5_wantPiecesOf [fw_r 0, fw_i t] M1 L (fun r M2 L2 => r = none ∧ (∀ k, ¬ k = 191 → ¬ k = 193 → M2 k = M1 k) ∧ (∀ k, ¬ k = 192 → L2 k = L k) ∧ ps_at M2 L2 191 (rl_W N K (rl_S M N m d) t)) := by
  refine fw_SP_mono (sp_X5_wantPiecesOf M1 L t (rl_crw hR ht g1 g2).1) (fun r M2 L2 _ h => ?_)
  rw [(rl_cbc hR ht g1 g2).2.2] at h
  exact h
theorem md_fc_upd (N : fw_F) (K : fw_G) (v : Int) : md_fc N K (fw_upd N 0 28 v) K := ⟨fun k a _ => fw_updne a, fun j a => fw_updjn a, fun _ _ => rfl⟩
theorem rl_cutsFile {M N N1 Nx : fw_F} {L K Kx : fw_G} (hR : Rel M L N K) {m d t : Int} (ht : 0 ≤ t ∧ t < 12) (g1 : ∀ k, k < 7 ∨ 19 < k → N1 k = N k) (g2 : md_V N1 (rl_S M N m d) (rl_e N)) (hfc : md_fc N1 K Nx Kx) {c : List pc_P} (hc : ct_at Nx Kx c) (hok : pc_ok c) (hl : c.length + 32 ≤ 704) : fw_SD mX6_cutsFile [fw_r 0, fw_i t] Nx Kx (fun r N2 K2 => r = none ∧ md_fc N1 K N2 K2 ∧ ct_at N2 K2 (pc_all c (rl_fs N K (rl_S M N m d) t))) := by
  have e17 := hfc.1 17 (by decide) (by decide)
  have e18 := hfc.1 18 (by decide) (by decide)
  have e2 := hfc.1 2 (by decide) (by decide)
  have e3 := hfc.2.2 3 (by decide)
  have hw : md_rw Nx t := by
    unfold md_rw
    rw [e17, e18, e2]
    exact (rl_mrw hR ht g1 g2).1
  have hfs : md_fs Nx Kx t = rl_fs N K (rl_S M N m d) t := by
    rw [← (rl_mbc hR ht g1 g2).2]
    unfold md_fs
    rw [e17, e18, e2, e3]
  refine fw_SP_mono (sp_X6_cutsFile c Nx Kx hc hok t hw hl) (fun r N2 K2 _ h => ?_)
  rw [hfs] at h
  exact ⟨h.1, hfc.tr h.2.1, h.2.2⟩
theorem rl_pm {N N1 Nx : fw_F} {K Kx : fw_G} {u : Int} {l : List pc_P} (h : pm_at N K u l) (g1 : ∀ k, k < 7 ∨ 19 < k → N1 k = N k) (hfc : md_fc N1 K Nx Kx) : pm_at Nx Kx u l := pm_at_fr h ((hfc.1 21 (by decide) (by decide)).trans (g1 21 (by decide))) ((hfc.1 23 (by decide) (by decide)).trans (g1 23 (by decide))) (hfc.2.2 22 (by decide))
theorem rl_mq_fc {N N1 Nx : fw_F} {K Kx : fw_G} (g1 : ∀ k, k < 7 ∨ 19 < k → N1 k = N k) (hfc : md_fc N1 K Nx Kx) : rl_mq N K Nx Kx := ⟨fun k a => ⟨(hfc.1 k (by omega) (by omega)).trans (g1 k (by omega)), hfc.2.2 k (by omega)⟩, fun j _ b => (hfc.2.1 j b).trans (by rw [g1 0 (by decide)]), hfc.2.2 0 (by decide)⟩
theorem pc_no_perm {P Q : List pc_P} (h : P.Perm Q) : pc_no P = pc_no Q := by
  funext a
  unfold pc_no
  simp only [h.mem_iff]
def an_pieces (n : Int) (S : ab_S) (m w t ln sz v : Int) : Int := if ¬ ((0 ≤ m ∧ m < n) ∧ (0 ≤ w ∧ w ≤ 2) ∧ (¬ w = 2 ∨ (0 ≤ t ∧ t < 12))) then -1 else if w = 0 then ln else if w = 1 then sz else if ¬ (¬ S.1 1 t = 0 ∧ S.1 2 t = 1) then -2 else v

set_option maxRecDepth 20000 in
set_option maxHeartbeats 4000000 in
theorem sp_X5_pieces (M N : fw_F) (L K : fw_G) (hR : Rel M L N K) (m w t : Int) : fw_SC mX5_pieces [fw_r 0, fw_i m, fw_i w, fw_i t] M L (fun r M2 L2 => r = some (fw_i (an_pieces (N 0 2) (rl_S M N m (N 0 4)) m w t ((md_pl N K m).length : Int) (pc_sz (md_pl N K m)) (((rl_W N K (rl_S M N m (N 0 4)) t).filter (pc_no (md_pl N K m))).length : Int))) ∧ Rel M2 L2 N K) := by
  refine fw_SP_of pl_X5_pieces (ls := [_, _, _, _]) rfl (Nat.le_of_ble_eq_true rfl) fun hA hM => ?_
  obtain ⟨ha1, ha2, ha3, ha4, ha5, ha6⟩ := hR.1
  have hn1 := hR.2.1.1.1.1
  have hn2 := hR.2.1.1.1.2.1
  refine fw_aload_n dX5_pieces_0 rfl rfl ?_
  refine fw_iload_n dX5_pieces_1 rfl rfl ?_
  refine fw_pV mX5_isMachine [_] dX5_pieces_2 mv_X5_isMachine lk_5_62 ⟨⟨by decide, by decide⟩, rfl, rfl, rfl, by decide, by decide⟩ ly0_0 ⟨by decide, by decide⟩ rfl rfl (Nat.le_of_ble_eq_true rfl) (sp_X5_isMachine _ _ _) ?_
  refine fw_bifeq 29 dX5_pieces_5 (by decide) (fun h5 => ?_) (fun h5 => ?_)
  · skip
    refine fw_iconst dX5_pieces_29 ⟨by decide, by decide⟩ ?_
    exact fw_iret dX5_pieces_30 ⟨rfl, rfl, rfl⟩ (⟨(by congr 2; unfold an_pieces; (repeat' split) <;> omega), hR⟩)
  · skip
    refine fw_iload_n dX5_pieces_8 rfl rfl ?_
    refine fw_if_lt 29 dX5_pieces_9 (by decide) (fun h9 => ?_) (fun h9 => ?_)
    · skip
      refine fw_iconst dX5_pieces_29 ⟨by decide, by decide⟩ ?_
      exact fw_iret dX5_pieces_30 ⟨rfl, rfl, rfl⟩ (⟨(by congr 2; unfold an_pieces; (repeat' split) <;> omega), hR⟩)
    · skip
      refine fw_iload_n dX5_pieces_12 rfl rfl ?_
      refine fw_iconst dX5_pieces_13 ⟨by decide, by decide⟩ ?_
      refine fw_icmp_gt 29 dX5_pieces_14 (by decide) (fun h14 => ?_) (fun h14 => ?_)
      · skip
        refine fw_iconst dX5_pieces_29 ⟨by decide, by decide⟩ ?_
        exact fw_iret dX5_pieces_30 ⟨rfl, rfl, rfl⟩ (⟨(by congr 2; unfold an_pieces; (repeat' split) <;> omega), hR⟩)
      · skip
        refine fw_iload_n dX5_pieces_17 rfl rfl ?_
        refine fw_iconst dX5_pieces_18 ⟨by decide, by decide⟩ ?_
        refine fw_icmp_ne 31 dX5_pieces_19 (by decide) (fun h19 => ?_) (fun h19 => ?_)
        · skip
          obtain ⟨P, hP⟩ := rl_pcs hR
          obtain ⟨⟨p1, p2⟩, ⟨p3, p4, p5⟩, ⟨p6, p7, p8, p9⟩, q1, q2, q3, q4, q5⟩ := hP m (by omega) (by omega)
          have hkm := ps_kept (show 0 ≤ m by omega) (show m < 4 by omega)
          refine fw_iload_n dX5_pieces_31 rfl rfl ?_
          refine fw_if_ne 45 dX5_pieces_32 (by decide) (fun h32 => ?_) (fun h32 => ?_)
          · skip
            refine fw_iload_n dX5_pieces_45 rfl rfl ?_
            refine fw_iconst dX5_pieces_46 ⟨by decide, by decide⟩ ?_
            refine fw_icmp_ne 60 dX5_pieces_47 (by decide) (fun h47 => ?_) (fun h47 => ?_)
            · skip
              refine fw_aload_n dX5_pieces_60 rfl rfl ?_
              refine fw_iload_n dX5_pieces_61 rfl rfl ?_
              refine fw_cV mX5_growNow [_] dX5_pieces_62 mv_X5_growNow lk_5_72 ⟨⟨by decide, by decide⟩, rfl, rfl, rfl, by decide, by decide⟩ ly0_0 ⟨by decide, by decide⟩ rfl rfl (Nat.le_of_ble_eq_true rfl) (rl_growNow hR (by omega)) (fun r Ma La hp hMa => ?_)
              obtain ⟨rfl, rfl, g1, g2⟩ := hp
              obtain ⟨e0, e1, e2, e3, e4, e5, e6, e7⟩ := g2.1 t (by omega) (by omega)
              refine fw_aload_n dX5_pieces_65 rfl rfl ?_
              refine fw_getr 1 168 rfl dX5_pieces_66 ff_5_21 ly0_0 ⟨by decide, by decide⟩ rfl rfl (by decide) ?_
              refine fw_iload_n dX5_pieces_69 rfl rfl ?_
              refine fw_pV mX4_isFile [_] dX5_pieces_70 mv_X4_isFile lk_5_110 ⟨⟨by decide, by decide⟩, rfl, rfl, rfl, by decide, by decide⟩ ly0_168 ⟨by decide, by decide⟩ rfl rfl (Nat.le_of_ble_eq_true rfl) (sp_X4_isFile _ _ _ (by omega)) ?_
              rw [e1, e2]
              refine fw_bifne 79 dX5_pieces_73 (by decide) (fun h73 => ?_) (fun h73 => ?_)
              · skip
                refine fw_aload_n dX5_pieces_79 rfl rfl ?_
                refine fw_iload_n dX5_pieces_80 rfl rfl ?_
                refine fw_cV mX5_wantPiecesOf [_] dX5_pieces_81 mv_X5_wantPiecesOf lk_5_241 ⟨⟨by decide, by decide⟩, rfl, rfl, rfl, by decide, by decide⟩ ly0_0 ⟨by decide, by decide⟩ rfl rfl (Nat.le_of_ble_eq_true rfl) (rl_want hR (by omega) g1 g2) (fun r Mb Lb hp hMb => ?_)
                obtain ⟨rfl, w1, w2, w3⟩ := hp
                obtain ⟨o1, o2, o3⟩ := rl_W_ok (K := K) hR m (N 0 4) (t := t) (by omega)
                have pk := ps_at_fr p1 ((w1 _ (by omega) (by omega)).trans (g1 _ (by omega))) ((w1 _ (by omega) (by omega)).trans (g1 _ (by omega))) (w2 _ (by omega))
                refine fw_aload_n dX5_pieces_84 rfl rfl ?_
                refine fw_getr 3 191 rfl dX5_pieces_85 ff_5_34 ly0_0 ⟨by decide, by decide⟩ rfl rfl (by decide) ?_
                refine fw_aload_n dX5_pieces_88 rfl rfl ?_
                refine fw_getr 2 178 rfl dX5_pieces_89 ff_5_27 ly0_0 ⟨by decide, by decide⟩ rfl rfl (by decide) ?_
                refine fw_iload_n dX5_pieces_92 rfl rfl ?_
                refine fw_aaload (179 + 3 * _) dX5_pieces_93 ly0_178 (Or.inr rfl) ⟨by decide, by decide⟩ ⟨by omega, by omega⟩ (rc_178 _) (by omega) ?_
                refine fw_cV mX2_removeAll [_] dX5_pieces_94 mv_X2_removeAll lk_5_244 ⟨⟨by decide, by decide⟩, rfl, rfl, rfl, by decide, by decide⟩ ly0_191 ⟨by decide, by decide⟩ rfl rfl (Nat.le_of_ble_eq_true rfl) (sp_X2_removeAll 191 (179 + 3 * m) 32 200 ps_191 hkm _ (P m) Mb Lb w3 pk o2 (by decide) q1 (by decide) (by omega) o1) (fun r M1 L1 hp hM1 => ?_)
                obtain ⟨rfl, v1, v2, c, v3, v4⟩ := hp
                refine fw_aload_n dX5_pieces_97 rfl rfl ?_
                refine fw_getr 3 191 rfl dX5_pieces_98 ff_5_34 ly0_0 ⟨by decide, by decide⟩ rfl rfl (by decide) ?_
                refine fw_geti 2 rfl dX5_pieces_101 ff_5_240 ly0_191 ⟨by decide, by decide⟩ rfl ?_
                refine fw_iret dX5_pieces_104 ⟨rfl, rfl, rfl⟩ ?_
                refine ⟨?_, rl_cl hR (fun k a b => ⟨?_, ?_⟩)⟩
                · rw [v3.1, v4.length_eq, pc_no_perm p3]; congr 2; unfold an_pieces; (repeat' split) <;> omega
                · rw [v1 k (by omega) (by omega), w1 k (by omega) (by omega)]; exact g1 k a
                · rw [v2 k (by omega)]; exact w2 k (by omega)
              · skip
                refine fw_bipush dX5_pieces_76 ⟨by decide, by decide⟩ (by decide) ?_
                exact fw_iret dX5_pieces_78 ⟨rfl, rfl, rfl⟩ (⟨(by congr 2; unfold an_pieces; (repeat' split) <;> omega), (rl_cl hR (fun k a b => ⟨g1 k a, rfl⟩))⟩)
            · skip
              refine fw_aload_n dX5_pieces_50 rfl rfl ?_
              refine fw_getr 2 178 rfl dX5_pieces_51 ff_5_27 ly0_0 ⟨by decide, by decide⟩ rfl rfl (by decide) ?_
              refine fw_iload_n dX5_pieces_54 rfl rfl ?_
              refine fw_aaload (179 + 3 * _) dX5_pieces_55 ly0_178 (Or.inr rfl) ⟨by decide, by decide⟩ ⟨by omega, by omega⟩ (rc_178 _) (by omega) ?_
              refine fw_geti 3 rfl dX5_pieces_56 ff_5_237 hkm.1 ⟨by have := hkm.2.2.2.2.2; omega, by have := hkm.2.2.2.2.2; omega⟩ rfl ?_
              refine fw_iret dX5_pieces_59 ⟨rfl, rfl, rfl⟩ ?_
              refine ⟨?_, hR⟩
              rw [p1.2.1, ← q5]
              congr 2; unfold an_pieces; (repeat' split) <;> omega
          · skip
            refine fw_aload_n dX5_pieces_35 rfl rfl ?_
            refine fw_getr 2 178 rfl dX5_pieces_36 ff_5_27 ly0_0 ⟨by decide, by decide⟩ rfl rfl (by decide) ?_
            refine fw_iload_n dX5_pieces_39 rfl rfl ?_
            refine fw_aaload (179 + 3 * _) dX5_pieces_40 ly0_178 (Or.inr rfl) ⟨by decide, by decide⟩ ⟨by omega, by omega⟩ (rc_178 _) (by omega) ?_
            refine fw_geti 2 rfl dX5_pieces_41 ff_5_240 hkm.1 ⟨by have := hkm.2.2.2.2.2; omega, by have := hkm.2.2.2.2.2; omega⟩ rfl ?_
            refine fw_iret dX5_pieces_44 ⟨rfl, rfl, rfl⟩ ?_
            refine ⟨?_, hR⟩
            rw [p1.1, p3.length_eq]
            congr 2; unfold an_pieces; (repeat' split) <;> omega
        · skip
          refine fw_iload_n dX5_pieces_22 rfl rfl ?_
          refine fw_pS mX5_isThing [_] dX5_pieces_23 mv_X5_isThing lk_5_66 ⟨⟨by decide, by decide⟩, rfl, rfl, rfl, by decide, by decide⟩ rfl rfl (Nat.le_of_ble_eq_true rfl) (sp_X5_isThing _ _ _) ?_
          refine fw_bifne 31 dX5_pieces_26 (by decide) (fun h26 => ?_) (fun h26 => ?_)
          · skip
            obtain ⟨P, hP⟩ := rl_pcs hR
            obtain ⟨⟨p1, p2⟩, ⟨p3, p4, p5⟩, ⟨p6, p7, p8, p9⟩, q1, q2, q3, q4, q5⟩ := hP m (by omega) (by omega)
            have hkm := ps_kept (show 0 ≤ m by omega) (show m < 4 by omega)
            refine fw_iload_n dX5_pieces_31 rfl rfl ?_
            refine fw_if_ne 45 dX5_pieces_32 (by decide) (fun h32 => ?_) (fun h32 => ?_)
            · skip
              refine fw_iload_n dX5_pieces_45 rfl rfl ?_
              refine fw_iconst dX5_pieces_46 ⟨by decide, by decide⟩ ?_
              refine fw_icmp_ne 60 dX5_pieces_47 (by decide) (fun h47 => ?_) (fun h47 => ?_)
              · skip
                refine fw_aload_n dX5_pieces_60 rfl rfl ?_
                refine fw_iload_n dX5_pieces_61 rfl rfl ?_
                refine fw_cV mX5_growNow [_] dX5_pieces_62 mv_X5_growNow lk_5_72 ⟨⟨by decide, by decide⟩, rfl, rfl, rfl, by decide, by decide⟩ ly0_0 ⟨by decide, by decide⟩ rfl rfl (Nat.le_of_ble_eq_true rfl) (rl_growNow hR (by omega)) (fun r Ma La hp hMa => ?_)
                obtain ⟨rfl, rfl, g1, g2⟩ := hp
                obtain ⟨e0, e1, e2, e3, e4, e5, e6, e7⟩ := g2.1 t (by omega) (by omega)
                refine fw_aload_n dX5_pieces_65 rfl rfl ?_
                refine fw_getr 1 168 rfl dX5_pieces_66 ff_5_21 ly0_0 ⟨by decide, by decide⟩ rfl rfl (by decide) ?_
                refine fw_iload_n dX5_pieces_69 rfl rfl ?_
                refine fw_pV mX4_isFile [_] dX5_pieces_70 mv_X4_isFile lk_5_110 ⟨⟨by decide, by decide⟩, rfl, rfl, rfl, by decide, by decide⟩ ly0_168 ⟨by decide, by decide⟩ rfl rfl (Nat.le_of_ble_eq_true rfl) (sp_X4_isFile _ _ _ (by omega)) ?_
                rw [e1, e2]
                refine fw_bifne 79 dX5_pieces_73 (by decide) (fun h73 => ?_) (fun h73 => ?_)
                · skip
                  refine fw_aload_n dX5_pieces_79 rfl rfl ?_
                  refine fw_iload_n dX5_pieces_80 rfl rfl ?_
                  refine fw_cV mX5_wantPiecesOf [_] dX5_pieces_81 mv_X5_wantPiecesOf lk_5_241 ⟨⟨by decide, by decide⟩, rfl, rfl, rfl, by decide, by decide⟩ ly0_0 ⟨by decide, by decide⟩ rfl rfl (Nat.le_of_ble_eq_true rfl) (rl_want hR (by omega) g1 g2) (fun r Mb Lb hp hMb => ?_)
                  obtain ⟨rfl, w1, w2, w3⟩ := hp
                  obtain ⟨o1, o2, o3⟩ := rl_W_ok (K := K) hR m (N 0 4) (t := t) (by omega)
                  have pk := ps_at_fr p1 ((w1 _ (by omega) (by omega)).trans (g1 _ (by omega))) ((w1 _ (by omega) (by omega)).trans (g1 _ (by omega))) (w2 _ (by omega))
                  refine fw_aload_n dX5_pieces_84 rfl rfl ?_
                  refine fw_getr 3 191 rfl dX5_pieces_85 ff_5_34 ly0_0 ⟨by decide, by decide⟩ rfl rfl (by decide) ?_
                  refine fw_aload_n dX5_pieces_88 rfl rfl ?_
                  refine fw_getr 2 178 rfl dX5_pieces_89 ff_5_27 ly0_0 ⟨by decide, by decide⟩ rfl rfl (by decide) ?_
                  refine fw_iload_n dX5_pieces_92 rfl rfl ?_
                  refine fw_aaload (179 + 3 * _) dX5_pieces_93 ly0_178 (Or.inr rfl) ⟨by decide, by decide⟩ ⟨by omega, by omega⟩ (rc_178 _) (by omega) ?_
                  refine fw_cV mX2_removeAll [_] dX5_pieces_94 mv_X2_removeAll lk_5_244 ⟨⟨by decide, by decide⟩, rfl, rfl, rfl, by decide, by decide⟩ ly0_191 ⟨by decide, by decide⟩ rfl rfl (Nat.le_of_ble_eq_true rfl) (sp_X2_removeAll 191 (179 + 3 * m) 32 200 ps_191 hkm _ (P m) Mb Lb w3 pk o2 (by decide) q1 (by decide) (by omega) o1) (fun r M1 L1 hp hM1 => ?_)
                  obtain ⟨rfl, v1, v2, c, v3, v4⟩ := hp
                  refine fw_aload_n dX5_pieces_97 rfl rfl ?_
                  refine fw_getr 3 191 rfl dX5_pieces_98 ff_5_34 ly0_0 ⟨by decide, by decide⟩ rfl rfl (by decide) ?_
                  refine fw_geti 2 rfl dX5_pieces_101 ff_5_240 ly0_191 ⟨by decide, by decide⟩ rfl ?_
                  refine fw_iret dX5_pieces_104 ⟨rfl, rfl, rfl⟩ ?_
                  refine ⟨?_, rl_cl hR (fun k a b => ⟨?_, ?_⟩)⟩
                  · rw [v3.1, v4.length_eq, pc_no_perm p3]; congr 2; unfold an_pieces; (repeat' split) <;> omega
                  · rw [v1 k (by omega) (by omega), w1 k (by omega) (by omega)]; exact g1 k a
                  · rw [v2 k (by omega)]; exact w2 k (by omega)
                · skip
                  refine fw_bipush dX5_pieces_76 ⟨by decide, by decide⟩ (by decide) ?_
                  exact fw_iret dX5_pieces_78 ⟨rfl, rfl, rfl⟩ (⟨(by congr 2; unfold an_pieces; (repeat' split) <;> omega), (rl_cl hR (fun k a b => ⟨g1 k a, rfl⟩))⟩)
              · skip
                refine fw_aload_n dX5_pieces_50 rfl rfl ?_
                refine fw_getr 2 178 rfl dX5_pieces_51 ff_5_27 ly0_0 ⟨by decide, by decide⟩ rfl rfl (by decide) ?_
                refine fw_iload_n dX5_pieces_54 rfl rfl ?_
                refine fw_aaload (179 + 3 * _) dX5_pieces_55 ly0_178 (Or.inr rfl) ⟨by decide, by decide⟩ ⟨by omega, by omega⟩ (rc_178 _) (by omega) ?_
                refine fw_geti 3 rfl dX5_pieces_56 ff_5_237 hkm.1 ⟨by have := hkm.2.2.2.2.2; omega, by have := hkm.2.2.2.2.2; omega⟩ rfl ?_
                refine fw_iret dX5_pieces_59 ⟨rfl, rfl, rfl⟩ ?_
                refine ⟨?_, hR⟩
                rw [p1.2.1, ← q5]
                congr 2; unfold an_pieces; (repeat' split) <;> omega
            · skip
              refine fw_aload_n dX5_pieces_35 rfl rfl ?_
              refine fw_getr 2 178 rfl dX5_pieces_36 ff_5_27 ly0_0 ⟨by decide, by decide⟩ rfl rfl (by decide) ?_
              refine fw_iload_n dX5_pieces_39 rfl rfl ?_
              refine fw_aaload (179 + 3 * _) dX5_pieces_40 ly0_178 (Or.inr rfl) ⟨by decide, by decide⟩ ⟨by omega, by omega⟩ (rc_178 _) (by omega) ?_
              refine fw_geti 2 rfl dX5_pieces_41 ff_5_240 hkm.1 ⟨by have := hkm.2.2.2.2.2; omega, by have := hkm.2.2.2.2.2; omega⟩ rfl ?_
              refine fw_iret dX5_pieces_44 ⟨rfl, rfl, rfl⟩ ?_
              refine ⟨?_, hR⟩
              rw [p1.1, p3.length_eq]
              congr 2; unfold an_pieces; (repeat' split) <;> omega
          · skip
            refine fw_iconst dX5_pieces_29 ⟨by decide, by decide⟩ ?_
            exact fw_iret dX5_pieces_30 ⟨rfl, rfl, rfl⟩ (⟨(by congr 2; unfold an_pieces; (repeat' split) <;> omega), hR⟩)

set_option maxRecDepth 20000 in
set_option maxHeartbeats 4000000 in
theorem lp_X6_pieces (N N1 : fw_F) (K K1 : fw_G) (m w t : Int) (hm : 0 ≤ m ∧ m < 4) (W : List pc_P) (hW : ct_at N1 K1 W) (hWl : W.length ≤ 704) (hq : pm_at N1 K1 m (md_pl N K m)) (hql : (md_pl N K m).length ≤ 200) (Q : fw_P) (hQ : Q (some (fw_i ((W.filter (pc_no (md_pl N K m))).length : Int))) N1 K1) : ∀ (q : Nat) (s i : Int), (W.length : Int) - i < q → 0 ≤ i → i ≤ W.length → s = (((W.take i.toNat).filter (pc_no (md_pl N K m))).length : Int) → fw_D mX6_pieces 92 [some (fw_r 0), some (fw_i m), some (fw_i w), some (fw_i t), some (fw_i s), some (fw_i i)] [] N1 K1 Q := by
  intro q
  induction q with
  | zero => intro s i h0 h1 h2; omega
  | succ q ih =>
    intro s i h0 h1 h2 h3
    have e1 := hW.1
    refine fw_iload dX6_pieces_92 rfl ?_
    refine fw_aload_n dX6_pieces_94 rfl rfl ?_
    refine fw_geti 28 rfl dX6_pieces_95 ff_6_200 ly1_0 ⟨by decide, by decide⟩ rfl ?_
    refine fw_icmp_ge 141 dX6_pieces_98 (by decide) (fun h98 => ?_) (fun h98 => ?_)
    · skip
      refine fw_iload dX6_pieces_141 rfl ?_
      refine fw_iret dX6_pieces_143 ⟨rfl, rfl, rfl⟩ ?_
      rw [h3, show i.toNat = W.length by omega, List.take_length]
      exact hQ
    · skip
      obtain ⟨a, ha, a1, a2⟩ := ct_at_get hW h1 (by omega)
      have hs : (W.take (i + 1).toNat).filter (pc_no (md_pl N K m)) = (W.take i.toNat).filter (pc_no (md_pl N K m)) ++ [a].filter (pc_no (md_pl N K m)) := by
        rw [show (i + 1).toNat = i.toNat + 1 by omega, List.take_add_one, ha, List.filter_append]; rfl
      have hf2 := List.length_filter_le (pc_no (md_pl N K m)) (W.take i.toNat)
      rw [List.length_take] at hf2
      refine fw_iload dX6_pieces_101 rfl ?_
      refine fw_aload_n dX6_pieces_103 rfl rfl ?_
      refine fw_iload_n dX6_pieces_104 rfl rfl ?_
      refine fw_aload_n dX6_pieces_105 rfl rfl ?_
      refine fw_getr 29 24 rfl dX6_pieces_106 ff_6_85 ly1_0 ⟨by decide, by decide⟩ rfl rfl (by decide) ?_
      refine fw_iload dX6_pieces_109 rfl ?_
      refine fw_laload dX6_pieces_111 ly1_24 ⟨by decide, by decide⟩ ⟨by omega, by omega⟩ ?_
      refine fw_aload_n dX6_pieces_112 rfl rfl ?_
      refine fw_getr 30 25 rfl dX6_pieces_113 ff_6_88 ly1_0 ⟨by decide, by decide⟩ rfl rfl (by decide) ?_
      refine fw_iload dX6_pieces_116 rfl ?_
      refine fw_iaload dX6_pieces_118 ly1_25 ⟨by decide, by decide⟩ ⟨by omega, by omega⟩ ?_
      refine fw_cV mX6_pieceAt [_, _, _] dX6_pieces_119 mv_X6_pieceAt lk_6_203 ⟨⟨by decide, by decide⟩, rfl, rfl, rfl, by decide, by decide⟩ ly1_0 ⟨by decide, by decide⟩ rfl rfl (Nat.le_of_ble_eq_true rfl) (sp_X6_pieceAt m hm (md_pl N K m) N1 K1 hq hql _ _) (fun r M1 L1 hp hM1 => ?_)
      obtain ⟨hM9, hL9, z, rfl, hz⟩ := hp
      rw [hM9, hL9]
      have hmz : z = -9 ↔ ¬ a ∈ md_pl N K m := by
        rw [show (K1 24 i, N1 25 i) = a from Prod.ext a1 a2] at hz
        rcases hz with hz | hz
        · exact ⟨fun _ => hz.2, fun _ => hz.1⟩
        · exact ⟨fun q => by omega, fun q => absurd (List.mem_of_getElem? hz.2) q⟩
      refine fw_bipush dX6_pieces_122 ⟨by decide, by decide⟩ (by decide) ?_
      refine fw_icmp_ne 131 dX6_pieces_124 (by decide) (fun h124 => ?_) (fun h124 => ?_)
      · skip
        refine fw_iconst dX6_pieces_131 ⟨by decide, by decide⟩ ?_
        refine fw_iadd dX6_pieces_132 ⟨by omega, by omega⟩ ?_
        refine fw_istore (ls2 := [_, _, _, _, _, _]) dX6_pieces_133 (by decide) rfl ?_
        refine fw_iinc (ls2 := [_, _, _, _, _, _]) dX6_pieces_135 rfl ⟨by omega, by omega⟩ (by decide) rfl ?_
        refine fw_goto 92 dX6_pieces_138 (by decide) ?_
        exact ih _ (i + 1) (by omega) (by omega) (by omega) (by rw [hs, List.filter_cons_of_neg (by simp [pc_no]; exact Classical.byContradiction fun q => h124 (hmz.mpr q)), List.filter_nil, List.append_nil, Int.add_zero]; exact h3)
      · skip
        refine fw_iconst dX6_pieces_127 ⟨by decide, by decide⟩ ?_
        refine fw_goto 132 dX6_pieces_128 (by decide) ?_
        refine fw_iadd dX6_pieces_132 ⟨by omega, by omega⟩ ?_
        refine fw_istore (ls2 := [_, _, _, _, _, _]) dX6_pieces_133 (by decide) rfl ?_
        refine fw_iinc (ls2 := [_, _, _, _, _, _]) dX6_pieces_135 rfl ⟨by omega, by omega⟩ (by decide) rfl ?_
        refine fw_goto 92 dX6_pieces_138 (by decide) ?_
        exact ih _ (i + 1) (by omega) (by omega) (by omega) (by rw [hs, List.filter_cons_of_pos (by simp [pc_no]; exact hmz.mp h124), List.filter_nil, List.length_append, h3]; rfl)

set_option maxRecDepth 20000 in
set_option maxHeartbeats 4000000 in
theorem pm_X6_pieces (M N : fw_F) (L K : fw_G) (hR : Rel M L N K) (m w t : Int) : fw_D mX6_pieces 5 [some (fw_r 0), some (fw_i m), some (fw_i w), some (fw_i t)] [] N K (fun r N2 K2 => r = some (fw_i (an_pieces (N 0 2) (rl_S M N m (N 0 4)) m w t ((md_pl N K m).length : Int) (pc_sz (md_pl N K m)) (((rl_W N K (rl_S M N m (N 0 4)) t).filter (pc_no (md_pl N K m))).length : Int))) ∧ rl_mq N K N2 K2) := by
  obtain ⟨ha1, ha2, ha3, ha4, ha5, ha6⟩ := hR.1
  have hn1 := hR.2.1.1.1.1
  have hn2 := hR.2.1.1.1.2.1
  refine fw_aload_n dX6_pieces_5 rfl rfl ?_
  refine fw_iload_n dX6_pieces_6 rfl rfl ?_
  refine fw_pV mX6_isMachine [_] dX6_pieces_7 mv_X6_isMachine lk_6_179 ⟨⟨by decide, by decide⟩, rfl, rfl, rfl, by decide, by decide⟩ ly1_0 ⟨by decide, by decide⟩ rfl rfl (Nat.le_of_ble_eq_true rfl) (sp_X6_isMachine _ _ _ (by omega)) ?_
  refine fw_bifeq 34 dX6_pieces_10 (by decide) (fun h10 => ?_) (fun h10 => ?_)
  · skip
    refine fw_iconst dX6_pieces_34 ⟨by decide, by decide⟩ ?_
    exact fw_iret dX6_pieces_35 ⟨rfl, rfl, rfl⟩ (⟨(by congr 2; unfold an_pieces; (repeat' split) <;> omega), rl_mq_rf N K⟩)
  · skip
    refine fw_iload_n dX6_pieces_13 rfl rfl ?_
    refine fw_iconst dX6_pieces_14 ⟨by decide, by decide⟩ ?_
    refine fw_iconst dX6_pieces_15 ⟨by decide, by decide⟩ ?_
    refine fw_pS mX6_in [_, _, _] dX6_pieces_16 mv_X6_in lk_6_115 ⟨⟨by decide, by decide⟩, rfl, rfl, rfl, by decide, by decide⟩ rfl rfl (Nat.le_of_ble_eq_true rfl) (sp_X6_in _ _ _ _ _) ?_
    refine fw_bifeq 34 dX6_pieces_19 (by decide) (fun h19 => ?_) (fun h19 => ?_)
    · skip
      refine fw_iconst dX6_pieces_34 ⟨by decide, by decide⟩ ?_
      exact fw_iret dX6_pieces_35 ⟨rfl, rfl, rfl⟩ (⟨(by congr 2; unfold an_pieces; (repeat' split) <;> omega), rl_mq_rf N K⟩)
    · skip
      refine fw_iload_n dX6_pieces_22 rfl rfl ?_
      refine fw_iconst dX6_pieces_23 ⟨by decide, by decide⟩ ?_
      refine fw_icmp_ne 36 dX6_pieces_24 (by decide) (fun h24 => ?_) (fun h24 => ?_)
      · skip
        obtain ⟨P, hP⟩ := rl_pcs hR
        obtain ⟨⟨p1, p2⟩, ⟨p3, p4, p5⟩, ⟨p6, p7, p8, p9⟩, q1, q2, q3, q4, q5⟩ := hP m (by omega) (by omega)
        refine fw_iload_n dX6_pieces_36 rfl rfl ?_
        refine fw_iconst dX6_pieces_37 ⟨by decide, by decide⟩ ?_
        refine fw_icmp_ge 60 dX6_pieces_38 (by decide) (fun h38 => ?_) (fun h38 => ?_)
        · skip
          refine fw_aload_n dX6_pieces_60 rfl rfl ?_
          refine fw_iload_n dX6_pieces_61 rfl rfl ?_
          refine fw_cV mX6_tellsNow [_] dX6_pieces_62 mv_X6_tellsNow lk_6_176 ⟨⟨by decide, by decide⟩, rfl, rfl, rfl, by decide, by decide⟩ ly1_0 ⟨by decide, by decide⟩ rfl rfl (Nat.le_of_ble_eq_true rfl) (rl_tellsNow hR (by omega)) (fun r Na La hp hNa => ?_)
          obtain ⟨rfl, rfl, g1, g2⟩ := hp
          obtain ⟨e0, e1, e2, e3, e4, e6, e7⟩ := g2.1 t (by omega) (by omega)
          have hfl := md_isFl g2.1 (rl_ti hR m (N 0 4)) (u := t) (by omega) (by omega)
          refine fw_aload_n dX6_pieces_65 rfl rfl ?_
          refine fw_iload_n dX6_pieces_66 rfl rfl ?_
          refine fw_pV mX6_isFile [_] dX6_pieces_67 mv_X6_isFile lk_6_211 ⟨⟨by decide, by decide⟩, rfl, rfl, rfl, by decide, by decide⟩ ly1_0 ⟨by decide, by decide⟩ rfl rfl (Nat.le_of_ble_eq_true rfl) (sp_X6_isFile _ _ _ (by omega)) ?_
          refine fw_bifne 76 dX6_pieces_70 (by decide) (fun h70 => ?_) (fun h70 => ?_)
          · skip
            refine fw_aload_n dX6_pieces_76 rfl rfl ?_
            refine fw_iconst dX6_pieces_77 ⟨by decide, by decide⟩ ?_
            refine fw_puti 28 rfl dX6_pieces_78 fp_6_200 ly1_0 (by decide) ⟨by decide, by decide⟩ rfl ?_
            refine fw_aload_n dX6_pieces_81 rfl rfl ?_
            refine fw_iload_n dX6_pieces_82 rfl rfl ?_
            refine fw_cV mX6_cutsFile [_] dX6_pieces_83 mv_X6_cutsFile lk_6_263 ⟨⟨by decide, by decide⟩, rfl, rfl, rfl, by decide, by decide⟩ ly1_0 ⟨by decide, by decide⟩ rfl rfl (Nat.le_of_ble_eq_true rfl) (rl_cutsFile (c := []) hR (t := t) (by omega) g1 g2 (md_fc_upd Na La 0) ⟨fw_updj, fun i a h => by simp at h⟩ (fun a h => by simp at h) (by decide)) (fun r Nb Lb hp hNb => ?_)
            obtain ⟨rfl, f1, f2⟩ := hp
            obtain ⟨o1, o2, o3⟩ := rl_W_ok (K := La) hR m (N 0 4) (t := t) (by omega)
            have pk := fun q (a : 0 ≤ q) (b : q < 4) => rl_pm (hP q a b).1.2 g1 f1
            refine fw_iconst dX6_pieces_86 ⟨by decide, by decide⟩ ?_
            refine fw_istore (ls2 := [_, _, _, _, _]) dX6_pieces_87 (by decide) rfl ?_
            refine fw_iconst dX6_pieces_89 ⟨by decide, by decide⟩ ?_
            refine fw_istore (ls2 := [_, _, _, _, _, _]) dX6_pieces_90 (by decide) rfl ?_
            refine lp_X6_pieces N Nb La Lb m w t (by omega) (rl_W N La (rl_S M N m (N 0 4)) t) f2 (by omega) (pk m (by omega) (by omega)) q2 _ ⟨?_, rl_mq_fc g1 f1⟩ 705 0 0 (by omega) (by decide) (by omega) rfl
            congr 2; unfold an_pieces; (repeat' split) <;> omega
          · skip
            refine fw_bipush dX6_pieces_73 ⟨by decide, by decide⟩ (by decide) ?_
            exact fw_iret dX6_pieces_75 ⟨rfl, rfl, rfl⟩ (⟨(by congr 2; unfold an_pieces; (repeat' split) <;> omega), (rl_mq_of g1)⟩)
        · skip
          refine fw_iload_n dX6_pieces_41 rfl rfl ?_
          refine fw_if_ne 54 dX6_pieces_42 (by decide) (fun h42 => ?_) (fun h42 => ?_)
          · skip
            refine fw_aload_n dX6_pieces_54 rfl rfl ?_
            refine fw_iload_n dX6_pieces_55 rfl rfl ?_
            refine fw_pV mX6_bytesAt [_] dX6_pieces_56 mv_X6_bytesAt lk_6_214 ⟨⟨by decide, by decide⟩, rfl, rfl, rfl, by decide, by decide⟩ ly1_0 ⟨by decide, by decide⟩ rfl rfl (Nat.le_of_ble_eq_true rfl) (sp_X6_bytesAt m (by omega) (md_pl N K m) N K p2 q2 q3) ?_
            refine fw_iret dX6_pieces_59 ⟨rfl, rfl, rfl⟩ ?_
            refine ⟨?_, rl_mq_rf N K⟩
            congr 2; unfold an_pieces; (repeat' split) <;> omega
          · skip
            refine fw_aload_n dX6_pieces_45 rfl rfl ?_
            refine fw_getr 25 21 rfl dX6_pieces_46 ff_6_76 ly1_0 ⟨by decide, by decide⟩ rfl rfl (by decide) ?_
            refine fw_iload_n dX6_pieces_49 rfl rfl ?_
            refine fw_iaload dX6_pieces_50 ly1_21 ⟨by decide, by decide⟩ ⟨by omega, by omega⟩ ?_
            refine fw_goto 59 dX6_pieces_51 (by decide) ?_
            refine fw_iret dX6_pieces_59 ⟨rfl, rfl, rfl⟩ ?_
            refine ⟨?_, rl_mq_rf N K⟩
            rw [p2.1]
            congr 2; unfold an_pieces; (repeat' split) <;> omega
      · skip
        refine fw_iload_n dX6_pieces_27 rfl rfl ?_
        refine fw_pS mX6_isThing [_] dX6_pieces_28 mv_X6_isThing lk_6_182 ⟨⟨by decide, by decide⟩, rfl, rfl, rfl, by decide, by decide⟩ rfl rfl (Nat.le_of_ble_eq_true rfl) (sp_X6_isThing _ _ _) ?_
        refine fw_bifne 36 dX6_pieces_31 (by decide) (fun h31 => ?_) (fun h31 => ?_)
        · skip
          obtain ⟨P, hP⟩ := rl_pcs hR
          obtain ⟨⟨p1, p2⟩, ⟨p3, p4, p5⟩, ⟨p6, p7, p8, p9⟩, q1, q2, q3, q4, q5⟩ := hP m (by omega) (by omega)
          refine fw_iload_n dX6_pieces_36 rfl rfl ?_
          refine fw_iconst dX6_pieces_37 ⟨by decide, by decide⟩ ?_
          refine fw_icmp_ge 60 dX6_pieces_38 (by decide) (fun h38 => ?_) (fun h38 => ?_)
          · skip
            refine fw_aload_n dX6_pieces_60 rfl rfl ?_
            refine fw_iload_n dX6_pieces_61 rfl rfl ?_
            refine fw_cV mX6_tellsNow [_] dX6_pieces_62 mv_X6_tellsNow lk_6_176 ⟨⟨by decide, by decide⟩, rfl, rfl, rfl, by decide, by decide⟩ ly1_0 ⟨by decide, by decide⟩ rfl rfl (Nat.le_of_ble_eq_true rfl) (rl_tellsNow hR (by omega)) (fun r Na La hp hNa => ?_)
            obtain ⟨rfl, rfl, g1, g2⟩ := hp
            obtain ⟨e0, e1, e2, e3, e4, e6, e7⟩ := g2.1 t (by omega) (by omega)
            have hfl := md_isFl g2.1 (rl_ti hR m (N 0 4)) (u := t) (by omega) (by omega)
            refine fw_aload_n dX6_pieces_65 rfl rfl ?_
            refine fw_iload_n dX6_pieces_66 rfl rfl ?_
            refine fw_pV mX6_isFile [_] dX6_pieces_67 mv_X6_isFile lk_6_211 ⟨⟨by decide, by decide⟩, rfl, rfl, rfl, by decide, by decide⟩ ly1_0 ⟨by decide, by decide⟩ rfl rfl (Nat.le_of_ble_eq_true rfl) (sp_X6_isFile _ _ _ (by omega)) ?_
            refine fw_bifne 76 dX6_pieces_70 (by decide) (fun h70 => ?_) (fun h70 => ?_)
            · skip
              refine fw_aload_n dX6_pieces_76 rfl rfl ?_
              refine fw_iconst dX6_pieces_77 ⟨by decide, by decide⟩ ?_
              refine fw_puti 28 rfl dX6_pieces_78 fp_6_200 ly1_0 (by decide) ⟨by decide, by decide⟩ rfl ?_
              refine fw_aload_n dX6_pieces_81 rfl rfl ?_
              refine fw_iload_n dX6_pieces_82 rfl rfl ?_
              refine fw_cV mX6_cutsFile [_] dX6_pieces_83 mv_X6_cutsFile lk_6_263 ⟨⟨by decide, by decide⟩, rfl, rfl, rfl, by decide, by decide⟩ ly1_0 ⟨by decide, by decide⟩ rfl rfl (Nat.le_of_ble_eq_true rfl) (rl_cutsFile (c := []) hR (t := t) (by omega) g1 g2 (md_fc_upd Na La 0) ⟨fw_updj, fun i a h => by simp at h⟩ (fun a h => by simp at h) (by decide)) (fun r Nb Lb hp hNb => ?_)
              obtain ⟨rfl, f1, f2⟩ := hp
              obtain ⟨o1, o2, o3⟩ := rl_W_ok (K := La) hR m (N 0 4) (t := t) (by omega)
              have pk := fun q (a : 0 ≤ q) (b : q < 4) => rl_pm (hP q a b).1.2 g1 f1
              refine fw_iconst dX6_pieces_86 ⟨by decide, by decide⟩ ?_
              refine fw_istore (ls2 := [_, _, _, _, _]) dX6_pieces_87 (by decide) rfl ?_
              refine fw_iconst dX6_pieces_89 ⟨by decide, by decide⟩ ?_
              refine fw_istore (ls2 := [_, _, _, _, _, _]) dX6_pieces_90 (by decide) rfl ?_
              refine lp_X6_pieces N Nb La Lb m w t (by omega) (rl_W N La (rl_S M N m (N 0 4)) t) f2 (by omega) (pk m (by omega) (by omega)) q2 _ ⟨?_, rl_mq_fc g1 f1⟩ 705 0 0 (by omega) (by decide) (by omega) rfl
              congr 2; unfold an_pieces; (repeat' split) <;> omega
            · skip
              refine fw_bipush dX6_pieces_73 ⟨by decide, by decide⟩ (by decide) ?_
              exact fw_iret dX6_pieces_75 ⟨rfl, rfl, rfl⟩ (⟨(by congr 2; unfold an_pieces; (repeat' split) <;> omega), (rl_mq_of g1)⟩)
          · skip
            refine fw_iload_n dX6_pieces_41 rfl rfl ?_
            refine fw_if_ne 54 dX6_pieces_42 (by decide) (fun h42 => ?_) (fun h42 => ?_)
            · skip
              refine fw_aload_n dX6_pieces_54 rfl rfl ?_
              refine fw_iload_n dX6_pieces_55 rfl rfl ?_
              refine fw_pV mX6_bytesAt [_] dX6_pieces_56 mv_X6_bytesAt lk_6_214 ⟨⟨by decide, by decide⟩, rfl, rfl, rfl, by decide, by decide⟩ ly1_0 ⟨by decide, by decide⟩ rfl rfl (Nat.le_of_ble_eq_true rfl) (sp_X6_bytesAt m (by omega) (md_pl N K m) N K p2 q2 q3) ?_
              refine fw_iret dX6_pieces_59 ⟨rfl, rfl, rfl⟩ ?_
              refine ⟨?_, rl_mq_rf N K⟩
              congr 2; unfold an_pieces; (repeat' split) <;> omega
            · skip
              refine fw_aload_n dX6_pieces_45 rfl rfl ?_
              refine fw_getr 25 21 rfl dX6_pieces_46 ff_6_76 ly1_0 ⟨by decide, by decide⟩ rfl rfl (by decide) ?_
              refine fw_iload_n dX6_pieces_49 rfl rfl ?_
              refine fw_iaload dX6_pieces_50 ly1_21 ⟨by decide, by decide⟩ ⟨by omega, by omega⟩ ?_
              refine fw_goto 59 dX6_pieces_51 (by decide) ?_
              refine fw_iret dX6_pieces_59 ⟨rfl, rfl, rfl⟩ ?_
              refine ⟨?_, rl_mq_rf N K⟩
              rw [p2.1]
              congr 2; unfold an_pieces; (repeat' split) <;> omega
        · skip
          refine fw_iconst dX6_pieces_34 ⟨by decide, by decide⟩ ?_
          exact fw_iret dX6_pieces_35 ⟨rfl, rfl, rfl⟩ (⟨(by congr 2; unfold an_pieces; (repeat' split) <;> omega), rl_mq_rf N K⟩)

set_option maxRecDepth 20000 in
set_option maxHeartbeats 4000000 in
theorem sp_X6_pieces (M N : fw_F) (L K : fw_G) (hR : Rel M L (fw_upd N 0 0 0) K) (m w t : Int) : fw_SD mX6_pieces [fw_r 0, fw_i m, fw_i w, fw_i t] N K (fun r N2 K2 => r = some (fw_i (an_pieces ((fw_upd N 0 0 0) 0 2) (rl_S M (fw_upd N 0 0 0) m ((fw_upd N 0 0 0) 0 4)) m w t ((md_pl (fw_upd N 0 0 0) K m).length : Int) (pc_sz (md_pl (fw_upd N 0 0 0) K m)) (((rl_W (fw_upd N 0 0 0) K (rl_S M (fw_upd N 0 0 0) m ((fw_upd N 0 0 0) 0 4)) t).filter (pc_no (md_pl (fw_upd N 0 0 0) K m))).length : Int))) ∧ rl_mq (fw_upd N 0 0 0) K N2 K2) := by
  refine fw_SP_of pl_X6_pieces (ls := [_, _, _, _]) rfl (Nat.le_of_ble_eq_true rfl) fun hA hM => ?_
  refine fw_aload_n dX6_pieces_0 rfl rfl ?_
  refine fw_iconst dX6_pieces_1 ⟨by decide, by decide⟩ ?_
  refine fw_puti 0 rfl dX6_pieces_2 fp_6_106 ly1_0 (by decide) ⟨by decide, by decide⟩ rfl ?_
  exact pm_X6_pieces M (fw_upd N 0 0 0) L K hR m w t
