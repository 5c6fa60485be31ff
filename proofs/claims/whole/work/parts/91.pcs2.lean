/-! pieces come and go -/
noncomputable def ab_cv (C : Prop) (v : Int) : Int := @ite Int C (Classical.propDecidable C) v (-2)
theorem ab_cv_1 {C : Prop} {v : Int} (h : C) : ab_cv C v = v := if_pos h
theorem ab_cv_0 {C : Prop} {v : Int} (h : ¬ C) : ab_cv C v = -2 := if_neg h
def rl_mp (m : Int) (l : List pc_P) (N : fw_F) (K : fw_G) (N2 : fw_F) (K2 : fw_G) : Prop := (∀ k, (1 ≤ k ∧ k ≤ 6) ∨ k = 20 ∨ 26 ≤ k → N2 k = N k ∧ K2 k = K k) ∧ (∀ j, ¬ j = 0 → ¬ j = 28 → N2 0 j = N 0 j) ∧ K2 0 = K 0 ∧ pm_at N2 K2 m l ∧ ∀ u, 0 ≤ u → u < 4 → ¬ u = m → pm_at N2 K2 u (md_pl N K u)
theorem rl_pieces {M N M2 N2 : fw_F} {L K L2 K2 : fw_G} (hR : Rel M L N K) {m : Int} {p' l : List pc_P} (hM : ∀ k, (k < 169 ∨ 177 < k) → (k < 191 ∨ 196 < k) → ¬ k = 179 + 3 * m → ¬ k = 179 + 3 * m + 2 → M2 k = M k) (hL : ∀ k, (k < 169 ∨ 177 < k) → (k < 191 ∨ 196 < k) → ¬ k = 179 + 3 * m + 1 → L2 k = L k) (hm : 0 ≤ m ∧ m < 4) (hp : ps_at M2 L2 (179 + 3 * m) p') (h : rl_mp m l N K N2 K2) (hpl : p'.Perm l) (hnd : p'.Nodup) (hok : pc_ok p') (hsz : pc_sz p' ≤ N 20 m) : Rel M2 L2 N2 K2 := by
  obtain ⟨P, hP⟩ := rl_pcs hR
  obtain ⟨ha, hg, hk, ho, -, hs⟩ := hR
  obtain ⟨d1, d2, d3, d4, d5⟩ := h
  have gM : ∀ k, k < 169 → M2 k = M k := fun k a => hM k (by omega) (by omega) (by omega) (by omega)
  have gM2 : ∀ k, 197 ≤ k → M2 k = M k := fun k a => hM k (by omega) (by omega) (by omega) (by omega)
  refine ⟨?_, rl_g_c hg (gM 3 (by decide)) (by rw [gM 1 (by decide)]) (gM 4 (by decide)) (fun k a b => ⟨gM k (by omega), hL k (by omega) (by omega) (by omega)⟩) (d2 2 (by decide) (by decide)) (d1 1 (by omega)).1 (d1 2 (by omega)).1 (d1 3 (by omega)).2, rl_k_c hk (gM 5 (by decide)) (d2 4 (by decide) (by decide)) (d1 1 (by omega)).1 (d1 4 (by omega)).1 (d1 5 (by omega)).1, rl_o_c ho (gM 6 (by decide)) (gM 7 (by decide)) (gM 3 (by decide)) (by rw [gM 1 (by decide)]) (d1 2 (by omega)).1 (d1 6 (by omega)).1, ⟨fun u => if u = m then p' else P u, fun u => if u = m then l else md_pl N K u, fun u a b => ?_⟩, rl_s_c hs (by rw [gM2 198 (by decide)]) (gM2 199 (by decide)) (gM2 200 (by decide)) (gM2 201 (by decide)) (gM2 202 (by decide)) (d2 31 (by decide) (by decide)) (d1 26 (by omega)).1 (d1 27 (by omega)).1 (d1 28 (by omega)).1 (d1 29 (by omega)).1⟩
  · unfold rl_a at ha ⊢
    rw [gM 0 (by decide), gM 1 (by decide), hL 0 (by omega) (by omega) (by omega), d2 2 (by decide) (by decide), d2 3 (by decide) (by decide), d2 4 (by decide) (by decide), d3]; exact ha
  · obtain ⟨⟨p1, p2⟩, p3, ⟨p6, p7, p8, p9⟩, q1, q2, q3, q4, q5⟩ := hP u a b
    rw [gM2 197 (by decide), (d1 20 (by omega)).1]
    by_cases hu : u = m
    · subst hu
      simp only [if_pos]
      exact ⟨⟨hp, d4⟩, ⟨hpl, hnd, hok⟩, hsz, p7, p8, p9⟩
    · simp only [if_neg hu]
      exact ⟨⟨ps_at_fr p1 (hM _ (by omega) (by omega) (by omega) (by omega)) (hM _ (by omega) (by omega) (by omega) (by omega)) (hL _ (by omega) (by omega) (by omega)), d5 u a b hu⟩, p3, p6, p7, p8, p9⟩
theorem pc_el_perm {P Q : Int → List pc_P} {n m : Int} {a : pc_P} (hn : n ≤ 4) (h : ∀ q, 0 ≤ q → q < 4 → (P q).Perm (Q q)) : pc_el P n m a ↔ pc_el Q n m a := ⟨fun ⟨q, q0, q1, q2, q3⟩ => ⟨q, q0, q1, q2, (h q q0 (by omega)).mem_iff.mp q3⟩, fun ⟨q, q0, q1, q2, q3⟩ => ⟨q, q0, q1, q2, (h q q0 (by omega)).mem_iff.mpr q3⟩⟩
def rl_fC (N : fw_F) (K : fw_G) (m : Int) (F : List pc_P) : Prop := (∀ a ∈ F, pc_el (md_pl N K) (N 0 2) m a) ∧ pc_sz (md_pl N K m) + pc_sz F ≤ N 20 m
def an_fetch (n : Int) (S : ab_S) (m t v : Int) : Int := if ¬ ((0 ≤ m ∧ m < n) ∧ (0 ≤ t ∧ t < 12)) then -1 else if ¬ (¬ S.1 1 t = 0 ∧ S.1 2 t = 1) then -2 else v
theorem pc_filter_self {c P : List pc_P} (h : ∀ a ∈ c, ¬ a ∈ P) : c.filter (pc_no P) = c := List.filter_eq_self.mpr (fun a ha => by simp [pc_no, h a ha])

set_option maxRecDepth 20000 in
set_option maxHeartbeats 4000000 in
theorem sp_X5_fetch (M N : fw_F) (L K : fw_G) (hR : Rel M L N K) (m t : Int) : fw_SC mX5_fetch [fw_r 0, fw_i m, fw_i t] M L (fun r M2 L2 => r = some (fw_i (an_fetch (N 0 2) (rl_S M N m (N 0 4)) m t (ab_cv (rl_fC N K m ((rl_W N K (rl_S M N m (N 0 4)) t).filter (pc_no (md_pl N K m)))) (pc_sz ((rl_W N K (rl_S M N m (N 0 4)) t).filter (pc_no (md_pl N K m))))))) ∧ ∀ N2 K2, ((((((0 ≤ m ∧ m < N 0 2) ∧ (0 ≤ t ∧ t < 12)) ∧ (¬ (rl_S M N m (N 0 4)).1 1 t = 0 ∧ (rl_S M N m (N 0 4)).1 2 t = 1)) ∧ rl_fC N K m ((rl_W N K (rl_S M N m (N 0 4)) t).filter (pc_no (md_pl N K m)))) → rl_mp m (pc_all (md_pl N K m) (rl_W N K (rl_S M N m (N 0 4)) t)) N K N2 K2) ∧ (¬ ((((0 ≤ m ∧ m < N 0 2) ∧ (0 ≤ t ∧ t < 12)) ∧ (¬ (rl_S M N m (N 0 4)).1 1 t = 0 ∧ (rl_S M N m (N 0 4)).1 2 t = 1)) ∧ rl_fC N K m ((rl_W N K (rl_S M N m (N 0 4)) t).filter (pc_no (md_pl N K m)))) → rl_mq N K N2 K2)) → Rel M2 L2 N2 K2) := by
  refine fw_SP_of pl_X5_fetch (ls := [_, _, _]) rfl (Nat.le_of_ble_eq_true rfl) fun hA hM => ?_
  obtain ⟨ha1, ha2, ha3, ha4, ha5, ha6⟩ := hR.1
  have hn1 := hR.2.1.1.1.1
  have hn2 := hR.2.1.1.1.2.1
  refine fw_aload_n dX5_fetch_0 rfl rfl ?_
  refine fw_iload_n dX5_fetch_1 rfl rfl ?_
  refine fw_pV mX5_isMachine [_] dX5_fetch_2 mv_X5_isMachine lk_5_62 ⟨⟨by decide, by decide⟩, rfl, rfl, rfl, by decide, by decide⟩ ly0_0 ⟨by decide, by decide⟩ rfl rfl (Nat.le_of_ble_eq_true rfl) (sp_X5_isMachine _ _ _) ?_
  refine fw_bifeq 15 dX5_fetch_5 (by decide) (fun h5 => ?_) (fun h5 => ?_)
  · skip
    refine fw_iconst dX5_fetch_15 ⟨by decide, by decide⟩ ?_
    refine fw_iret dX5_fetch_16 ⟨rfl, rfl, rfl⟩ ?_
    refine ⟨?_, fun N2 K2 h => ?_⟩
    · congr 2; unfold an_fetch; (repeat' split) <;> omega
    · refine rl_md hR (h.2 (fun z => ?_))
      have z1 := z.1
      omega
  · skip
    refine fw_iload_n dX5_fetch_8 rfl rfl ?_
    refine fw_pS mX5_isThing [_] dX5_fetch_9 mv_X5_isThing lk_5_66 ⟨⟨by decide, by decide⟩, rfl, rfl, rfl, by decide, by decide⟩ rfl rfl (Nat.le_of_ble_eq_true rfl) (sp_X5_isThing _ _ _) ?_
    refine fw_bifne 17 dX5_fetch_12 (by decide) (fun h12 => ?_) (fun h12 => ?_)
    · skip
      refine fw_aload_n dX5_fetch_17 rfl rfl ?_
      refine fw_iload_n dX5_fetch_18 rfl rfl ?_
      refine fw_cV mX5_growNow [_] dX5_fetch_19 mv_X5_growNow lk_5_72 ⟨⟨by decide, by decide⟩, rfl, rfl, rfl, by decide, by decide⟩ ly0_0 ⟨by decide, by decide⟩ rfl rfl (Nat.le_of_ble_eq_true rfl) (rl_growNow hR (by omega)) (fun r Ma_ La_ hp hMa_ => ?_)
      obtain ⟨rfl, rfl, g1, g2⟩ := hp
      obtain ⟨e0, e1, e2, e3, e4, e5, e6, e7⟩ := g2.1 t (by omega) (by omega)
      refine fw_aload_n dX5_fetch_22 rfl rfl ?_
      refine fw_getr 1 168 rfl dX5_fetch_23 ff_5_21 ly0_0 ⟨by decide, by decide⟩ rfl rfl (by decide) ?_
      refine fw_iload_n dX5_fetch_26 rfl rfl ?_
      refine fw_pV mX4_isFile [_] dX5_fetch_27 mv_X4_isFile lk_5_110 ⟨⟨by decide, by decide⟩, rfl, rfl, rfl, by decide, by decide⟩ ly0_168 ⟨by decide, by decide⟩ rfl rfl (Nat.le_of_ble_eq_true rfl) (sp_X4_isFile _ _ _ (by omega)) ?_
      rw [e1, e2]
      refine fw_bifne 36 dX5_fetch_30 (by decide) (fun h30 => ?_) (fun h30 => ?_)
      · skip
        obtain ⟨P, hP⟩ := rl_pcs hR
        obtain ⟨⟨p1, p2⟩, ⟨p3, p4, p5⟩, ⟨p6, p7, p8, p9⟩, q1, q2, q3, q4, q5⟩ := hP m (by omega) (by omega)
        have hkm := ps_kept (show 0 ≤ m by omega) (show m < 4 by omega)
        refine fw_aload_n dX5_fetch_36 rfl rfl ?_
        refine fw_iload_n dX5_fetch_37 rfl rfl ?_
        refine fw_cV mX5_wantPiecesOf [_] dX5_fetch_38 mv_X5_wantPiecesOf lk_5_241 ⟨⟨by decide, by decide⟩, rfl, rfl, rfl, by decide, by decide⟩ ly0_0 ⟨by decide, by decide⟩ rfl rfl (Nat.le_of_ble_eq_true rfl) (rl_want hR (by omega) g1 g2) (fun r Mb_ Lb_ hp hMb_ => ?_)
        obtain ⟨rfl, w1, w2, w3⟩ := hp
        obtain ⟨o1, o2, o3⟩ := rl_W_ok (K := K) hR m (N 0 4) (t := t) (by omega)
        have pk := fun q (a : 0 ≤ q) (b : q < 4) => ps_at_fr (hP q a b).1.1 ((w1 _ (by omega) (by omega)).trans (g1 _ (by omega))) ((w1 _ (by omega) (by omega)).trans (g1 _ (by omega))) (w2 _ (by omega))
        refine fw_aload_n dX5_fetch_41 rfl rfl ?_
        refine fw_getr 3 191 rfl dX5_fetch_42 ff_5_34 ly0_0 ⟨by decide, by decide⟩ rfl rfl (by decide) ?_
        refine fw_aload_n dX5_fetch_45 rfl rfl ?_
        refine fw_getr 2 178 rfl dX5_fetch_46 ff_5_27 ly0_0 ⟨by decide, by decide⟩ rfl rfl (by decide) ?_
        refine fw_iload_n dX5_fetch_49 rfl rfl ?_
        refine fw_aaload (179 + 3 * _) dX5_fetch_50 ly0_178 (Or.inr rfl) ⟨by decide, by decide⟩ ⟨by omega, by omega⟩ (rc_178 _) (by omega) ?_
        refine fw_cV mX2_removeAll [_] dX5_fetch_51 mv_X2_removeAll lk_5_244 ⟨⟨by decide, by decide⟩, rfl, rfl, rfl, by decide, by decide⟩ ly0_191 ⟨by decide, by decide⟩ rfl rfl (Nat.le_of_ble_eq_true rfl) (sp_X2_removeAll 191 (179 + 3 * m) 32 200 ps_191 hkm _ (P m) Mb_ Lb_ w3 (pk m (by omega) (by omega)) o2 (by decide) q1 (by decide) (by omega) o1) (fun r Mc_ Lc_ hp hMc_ => ?_)
        obtain ⟨rfl, v1, v2, c, v3, v4⟩ := hp
        rw [pc_no_perm p3] at v4
        have cm : ∀ a, a ∈ c ↔ a ∈ ((rl_W N K (rl_S M N m (N 0 4)) t).filter (pc_no (md_pl N K m))) := fun a => v4.mem_iff
        have cw : ∀ a ∈ c, a ∈ rl_W N K (rl_S M N m (N 0 4)) t := fun a ha => (List.mem_filter.mp ((cm a).mp ha)).1
        have cp : ∀ a ∈ c, ¬ a ∈ P m := fun a ha hx => by have h9 := (List.mem_filter.mp ((cm a).mp ha)).2; simp [pc_no] at h9; exact h9 (p3.mem_iff.mp hx)
        have cok : pc_ok c := fun a ha => o1 a (cw a ha)
        have cnd : c.Nodup := v4.nodup_iff.mpr (o3.filter _)
        have cl : c.length ≤ 32 := by rw [v4.length_eq]; exact Nat.le_trans (List.length_filter_le _ _) o2
        have csz := pc_sz_perm v4
        have pkc := fun q (a : 0 ≤ q) (b : q < 4) => ps_at_fr (pk q a b) (v1 _ (by omega) (by omega)) (v1 _ (by omega) (by omega)) (v2 _ (by omega))
        have e07 : Mc_ 0 7 = N 0 2 := by rw [v1 0 (by decide) (by decide), w1 0 (by decide) (by decide), g1 0 (by decide)]; exact ha1
        have e197 : Mc_ 197 m = N 20 m := by rw [v1 197 (by decide) (by decide), w1 197 (by decide) (by decide), g1 197 (by decide)]; exact p7
        refine fw_aload_n dX5_fetch_54 rfl rfl ?_
        refine fw_iload_n dX5_fetch_55 rfl rfl ?_
        refine fw_cV mX5_othersHaveWanted [_] dX5_fetch_56 mv_X5_othersHaveWanted lk_5_247 ⟨⟨by decide, by decide⟩, rfl, rfl, rfl, by decide, by decide⟩ ly0_0 ⟨by decide, by decide⟩ rfl rfl (Nat.le_of_ble_eq_true rfl) (sp_X5_othersHaveWanted P c Mc_ Lc_ v3 cl cok (fun q a b => ⟨pkc q a b, (hP q a b).2.2.2.1, (hP q a b).2.1.2.2⟩) m (by rw [e07]; omega)) (fun r M1 L1 hp hM1 => ?_)
        obtain ⟨hM9, hL9, z, rfl, hz1, hz2⟩ := hp
        rw [hM9, hL9]
        rw [e07] at hz2
        have hz3 : z = 1 ↔ ∀ a ∈ ((rl_W N K (rl_S M N m (N 0 4)) t).filter (pc_no (md_pl N K m))), pc_el (md_pl N K) (N 0 2) m a := hz2.trans ⟨fun h a ha => (pc_el_perm hn2 (fun q a b => (hP q a b).2.1.1)).mp (h a ((cm a).mpr ha)), fun h a ha => (pc_el_perm hn2 (fun q a b => (hP q a b).2.1.1)).mpr (h a ((cm a).mp ha))⟩
        refine fw_if_eq 70 dX5_fetch_59 (by decide) (fun h59 => ?_) (fun h59 => ?_)
        · skip
          refine fw_bipush dX5_fetch_70 ⟨by decide, by decide⟩ (by decide) ?_
          refine fw_iret dX5_fetch_72 ⟨rfl, rfl, rfl⟩ ?_
          have hFC : ¬ rl_fC N K m ((rl_W N K (rl_S M N m (N 0 4)) t).filter (pc_no (md_pl N K m))) := fun z => by have := hz3.mpr z.1; omega
          refine ⟨?_, fun N2 K2 h => rl_md (rl_cl hR (fun k a b => ⟨by rw [v1 k (by omega) (by omega), w1 k (by omega) (by omega)]; exact g1 k a, by rw [v2 k (by omega)]; exact w2 k (by omega)⟩)) (h.2 (fun z => hFC z.2))⟩
          rw [ab_cv_0 hFC]; congr 2; unfold an_fetch; (repeat' split) <;> omega
        · skip
          refine fw_aload_n dX5_fetch_62 rfl rfl ?_
          refine fw_iload_n dX5_fetch_63 rfl rfl ?_
          refine fw_pV mX5_hasRoomForWanted [_] dX5_fetch_64 mv_X5_hasRoomForWanted lk_5_120 ⟨⟨by decide, by decide⟩, rfl, rfl, rfl, by decide, by decide⟩ ly0_0 ⟨by decide, by decide⟩ rfl rfl (Nat.le_of_ble_eq_true rfl) (sp_X5_hasRoomForWanted P c Mc_ Lc_ v3 cl cok (fun q a b => ⟨pkc q a b, (hP q a b).2.2.2.1, (hP q a b).2.1.2.2⟩) m (by omega)) ?_
          rw [pc_filter_self cp, csz, e197, ← q5]
          refine fw_bifne 73 dX5_fetch_67 (by decide) (fun h67 => ?_) (fun h67 => ?_)
          · skip
            refine fw_aload_n dX5_fetch_73 rfl rfl ?_
            refine fw_getr 2 178 rfl dX5_fetch_74 ff_5_27 ly0_0 ⟨by decide, by decide⟩ rfl rfl (by decide) ?_
            refine fw_iload_n dX5_fetch_77 rfl rfl ?_
            refine fw_aaload (179 + 3 * _) dX5_fetch_78 ly0_178 (Or.inr rfl) ⟨by decide, by decide⟩ ⟨by omega, by omega⟩ (rc_178 _) (by omega) ?_
            refine fw_aload_n dX5_fetch_79 rfl rfl ?_
            refine fw_getr 3 191 rfl dX5_fetch_80 ff_5_34 ly0_0 ⟨by decide, by decide⟩ rfl rfl (by decide) ?_
            refine fw_cV mX2_addAll [_] dX5_fetch_83 mv_X2_addAll lk_5_130 ⟨⟨by decide, by decide⟩, rfl, rfl, rfl, by decide, by decide⟩ hkm.1 ⟨by have := hkm.2.2.2.2.2; omega, by have := hkm.2.2.2.2.2; omega⟩ rfl rfl (Nat.le_of_ble_eq_true rfl) (sp_X2_addAll (179 + 3 * m) 191 200 32 hkm ps_191 (P m) c Mc_ Lc_ (pkc m (by omega) (by omega)) v3 q1 (by decide) cl (by decide) (by omega) p5 cok (by rw [pc_all_eq cnd, pc_filter_self cp, pc_sz_app]; omega)) (fun r Md_ Ld_ hp hMd_ => ?_)
            obtain ⟨rfl, x1, x2, x3⟩ := hp
            refine fw_aload_n dX5_fetch_86 rfl rfl ?_
            refine fw_getr 3 191 rfl dX5_fetch_87 ff_5_34 ly0_0 ⟨by decide, by decide⟩ rfl rfl (by decide) ?_
            refine fw_geti 3 rfl dX5_fetch_90 ff_5_237 ly0_191 ⟨by decide, by decide⟩ rfl ?_
            refine fw_iret dX5_fetch_93 ⟨rfl, rfl, rfl⟩ ?_
            have hFC : rl_fC N K m ((rl_W N K (rl_S M N m (N 0 4)) t).filter (pc_no (md_pl N K m))) := ⟨hz3.mp (by omega), h67⟩
            rw [pc_all_eq cnd, pc_filter_self cp] at x3
            refine ⟨?_, fun N2 K2 h => ?_⟩
            · rw [ab_cv_1 hFC, x1 191 (by omega) (by omega), v3.2.1, csz]; congr 2; unfold an_fetch; (repeat' split) <;> omega
            · refine rl_pieces hR (m := m) (fun k a b e f => ?_) (fun k a b e => ?_) (by omega) x3 (h.1 ⟨by omega, hFC⟩) ?_ ?_ ?_ ?_
              · rw [x1 k e f, v1 k (by omega) (by omega), w1 k (by omega) (by omega)]; exact g1 k a
              · rw [x2 k e, v2 k (by omega)]; exact w2 k (by omega)
              · rw [pc_all_eq o3]; exact p3.append v4
              · exact List.nodup_append.mpr ⟨p4, cnd, fun x hx y hy e => cp y hy (e ▸ hx)⟩
              · intro a ha; rcases List.mem_append.mp ha with ha | ha; exact p5 a ha; exact cok a ha
              · rw [pc_sz_app, csz, ← q5]; exact h67
          · skip
            refine fw_bipush dX5_fetch_70 ⟨by decide, by decide⟩ (by decide) ?_
            refine fw_iret dX5_fetch_72 ⟨rfl, rfl, rfl⟩ ?_
            have hFC : ¬ rl_fC N K m ((rl_W N K (rl_S M N m (N 0 4)) t).filter (pc_no (md_pl N K m))) := fun z => h67 z.2
            refine ⟨?_, fun N2 K2 h => rl_md (rl_cl hR (fun k a b => ⟨by rw [v1 k (by omega) (by omega), w1 k (by omega) (by omega)]; exact g1 k a, by rw [v2 k (by omega)]; exact w2 k (by omega)⟩)) (h.2 (fun z => hFC z.2))⟩
            rw [ab_cv_0 hFC]; congr 2; unfold an_fetch; (repeat' split) <;> omega
      · skip
        refine fw_bipush dX5_fetch_33 ⟨by decide, by decide⟩ (by decide) ?_
        refine fw_iret dX5_fetch_35 ⟨rfl, rfl, rfl⟩ ?_
        refine ⟨?_, fun N2 K2 h => ?_⟩
        · congr 2; unfold an_fetch; (repeat' split) <;> omega
        · refine rl_md (rl_cl hR (fun k a b => ⟨g1 k a, rfl⟩)) (h.2 (fun z => ?_))
          have z1 := z.1
          omega
    · skip
      refine fw_iconst dX5_fetch_15 ⟨by decide, by decide⟩ ?_
      refine fw_iret dX5_fetch_16 ⟨rfl, rfl, rfl⟩ ?_
      refine ⟨?_, fun N2 K2 h => ?_⟩
      · congr 2; unfold an_fetch; (repeat' split) <;> omega
      · refine rl_md hR (h.2 (fun z => ?_))
        have z1 := z.1
        omega

set_option maxRecDepth 20000 in
set_option maxHeartbeats 4000000 in
theorem lp_X6_fetch (N N1 : fw_F) (K K1 : fw_G) (m t : Int) (hm : 0 ≤ m ∧ m < 4) (hn : 1 ≤ N1 0 2 ∧ N1 0 2 ≤ 4) (W : List pc_P) (hW : ct_at N1 K1 W) (hWl : W.length ≤ 704) (hq : ∀ q, 0 ≤ q → q < 4 → pm_at N1 K1 q (md_pl N K q) ∧ (md_pl N K q).length ≤ 200) (Q : fw_P) (hgo : (∀ a ∈ W.filter (pc_no (md_pl N K m)), pc_el (md_pl N K) (N1 0 2) m a) → ∀ k, fw_D mX6_fetch 109 [some (fw_r 0), some (fw_i m), some (fw_i t), some (fw_i k)] [] N1 K1 Q) (hno : ¬ (∀ a ∈ W.filter (pc_no (md_pl N K m)), pc_el (md_pl N K) (N1 0 2) m a) → Q (some (fw_i (-2))) N1 K1) : ∀ (q : Nat) (i : Int), (W.length : Int) - i < q → 0 ≤ i → i ≤ W.length → (∀ (j : Nat) (a : pc_P), (j : Int) < i → W[j]? = some a → ¬ a ∈ md_pl N K m → pc_el (md_pl N K) (N1 0 2) m a) → fw_D mX6_fetch 50 [some (fw_r 0), some (fw_i m), some (fw_i t), some (fw_i i)] [] N1 K1 Q := by
  intro q
  induction q with
  | zero => intro i h0 h1 h2; omega
  | succ q ih =>
    intro i h0 h1 h2 h3
    have e1 := hW.1
    refine fw_iload_n dX6_fetch_50 rfl rfl ?_
    refine fw_aload_n dX6_fetch_51 rfl rfl ?_
    refine fw_geti 28 rfl dX6_fetch_52 ff_6_200 ly1_0 ⟨by decide, by decide⟩ rfl ?_
    refine fw_icmp_ge 109 dX6_fetch_55 (by decide) (fun h55 => ?_) (fun h55 => ?_)
    · skip
      refine hgo (fun a ha => ?_) i
      have h9 := List.mem_filter.mp ha
      obtain ⟨j, hj⟩ := List.getElem?_of_mem h9.1
      have := (List.getElem?_eq_some_iff.mp hj).1
      exact h3 j a (by omega) hj (by simpa [pc_no] using h9.2)
    · skip
      obtain ⟨a, ha, a1, a2⟩ := ct_at_get hW h1 (by omega)
      refine fw_aload_n dX6_fetch_58 rfl rfl ?_
      refine fw_iload_n dX6_fetch_59 rfl rfl ?_
      refine fw_aload_n dX6_fetch_60 rfl rfl ?_
      refine fw_getr 29 24 rfl dX6_fetch_61 ff_6_85 ly1_0 ⟨by decide, by decide⟩ rfl rfl (by decide) ?_
      refine fw_iload_n dX6_fetch_64 rfl rfl ?_
      refine fw_laload dX6_fetch_65 ly1_24 ⟨by decide, by decide⟩ ⟨by omega, by omega⟩ ?_
      refine fw_aload_n dX6_fetch_66 rfl rfl ?_
      refine fw_getr 30 25 rfl dX6_fetch_67 ff_6_88 ly1_0 ⟨by decide, by decide⟩ rfl rfl (by decide) ?_
      refine fw_iload_n dX6_fetch_70 rfl rfl ?_
      refine fw_iaload dX6_fetch_71 ly1_25 ⟨by decide, by decide⟩ ⟨by omega, by omega⟩ ?_
      refine fw_cV mX6_pieceAt [_, _, _] dX6_fetch_72 mv_X6_pieceAt lk_6_203 ⟨⟨by decide, by decide⟩, rfl, rfl, rfl, by decide, by decide⟩ ly1_0 ⟨by decide, by decide⟩ rfl rfl (Nat.le_of_ble_eq_true rfl) (sp_X6_pieceAt m hm (md_pl N K m) N1 K1 (hq m hm.1 hm.2).1 (hq m hm.1 hm.2).2 _ _) (fun r M1 L1 hp hM1 => ?_)
      obtain ⟨hM9, hL9, z, rfl, hz⟩ := hp
      rw [hM9, hL9]
      have hmz : z = -9 ↔ ¬ a ∈ md_pl N K m := by
        rw [show (K1 24 i, N1 25 i) = a from Prod.ext a1 a2] at hz
        rcases hz with hz | hz
        · exact ⟨fun _ => hz.2, fun _ => hz.1⟩
        · exact ⟨fun q => by omega, fun q => absurd (List.mem_of_getElem? hz.2) q⟩
      refine fw_bipush dX6_fetch_75 ⟨by decide, by decide⟩ (by decide) ?_
      refine fw_icmp_ne 103 dX6_fetch_77 (by decide) (fun h77 => ?_) (fun h77 => ?_)
      · skip
        refine fw_iinc (ls2 := [_, _, _, _]) dX6_fetch_103 rfl ⟨by omega, by omega⟩ (by decide) rfl ?_
        refine fw_goto 50 dX6_fetch_106 (by decide) ?_
        refine ih (i + 1) (by omega) (by omega) (by omega) (fun j b hj hb hx => ?_)
        rcases (show (j : Int) < i ∨ j = i.toNat by omega) with hji | hji
        · exact h3 j b hji hb hx
        · rw [hji, ha] at hb; injection hb with hb; subst hb
          exact absurd (hmz.mpr hx) h77
      · skip
        refine fw_aload_n dX6_fetch_80 rfl rfl ?_
        refine fw_iload_n dX6_fetch_81 rfl rfl ?_
        refine fw_aload_n dX6_fetch_82 rfl rfl ?_
        refine fw_getr 29 24 rfl dX6_fetch_83 ff_6_85 ly1_0 ⟨by decide, by decide⟩ rfl rfl (by decide) ?_
        refine fw_iload_n dX6_fetch_86 rfl rfl ?_
        refine fw_laload dX6_fetch_87 ly1_24 ⟨by decide, by decide⟩ ⟨by omega, by omega⟩ ?_
        refine fw_aload_n dX6_fetch_88 rfl rfl ?_
        refine fw_getr 30 25 rfl dX6_fetch_89 ff_6_88 ly1_0 ⟨by decide, by decide⟩ rfl rfl (by decide) ?_
        refine fw_iload_n dX6_fetch_92 rfl rfl ?_
        refine fw_iaload dX6_fetch_93 ly1_25 ⟨by decide, by decide⟩ ⟨by omega, by omega⟩ ?_
        refine fw_cV mX6_isElsewhere [_, _, _] dX6_fetch_94 mv_X6_isElsewhere lk_6_266 ⟨⟨by decide, by decide⟩, rfl, rfl, rfl, by decide, by decide⟩ ly1_0 ⟨by decide, by decide⟩ rfl rfl (Nat.le_of_ble_eq_true rfl) (sp_X6_isElsewhere (md_pl N K) N1 K1 hq m hn _ _) (fun r M1 L1 hp hM1 => ?_)
        obtain ⟨hM9, hL9, y, rfl, hy1, hy2⟩ := hp
        rw [hM9, hL9]
        rw [show (K1 24 i, N1 25 i) = a from Prod.ext a1 a2] at hy2
        refine fw_if_ne 103 dX6_fetch_97 (by decide) (fun h97 => ?_) (fun h97 => ?_)
        · skip
          refine fw_iinc (ls2 := [_, _, _, _]) dX6_fetch_103 rfl ⟨by omega, by omega⟩ (by decide) rfl ?_
          refine fw_goto 50 dX6_fetch_106 (by decide) ?_
          refine ih (i + 1) (by omega) (by omega) (by omega) (fun j b hj hb hx => ?_)
          rcases (show (j : Int) < i ∨ j = i.toNat by omega) with hji | hji
          · exact h3 j b hji hb hx
          · rw [hji, ha] at hb; injection hb with hb; subst hb
            exact hy2.mp (by omega)
        · skip
          refine fw_bipush dX6_fetch_100 ⟨by decide, by decide⟩ (by decide) ?_
          refine fw_iret dX6_fetch_102 ⟨rfl, rfl, rfl⟩ ?_
          refine hno (fun h => ?_)
          have h9 := hy2.mpr (h a (List.mem_filter.mpr ⟨List.mem_of_getElem? ha, by simp [pc_no]; exact hmz.mp h77⟩))
          omega

set_option maxRecDepth 20000 in
set_option maxHeartbeats 4000000 in
theorem pm_X6_fetch (M N : fw_F) (L K : fw_G) (hR : Rel M L N K) (m t : Int) : fw_D mX6_fetch 5 [some (fw_r 0), some (fw_i m), some (fw_i t)] [] N K (fun r N2 K2 => r = some (fw_i (an_fetch (N 0 2) (rl_S M N m (N 0 4)) m t (ab_cv (rl_fC N K m ((rl_W N K (rl_S M N m (N 0 4)) t).filter (pc_no (md_pl N K m)))) (pc_sz ((rl_W N K (rl_S M N m (N 0 4)) t).filter (pc_no (md_pl N K m))))))) ∧ ((((((0 ≤ m ∧ m < N 0 2) ∧ (0 ≤ t ∧ t < 12)) ∧ (¬ (rl_S M N m (N 0 4)).1 1 t = 0 ∧ (rl_S M N m (N 0 4)).1 2 t = 1)) ∧ rl_fC N K m ((rl_W N K (rl_S M N m (N 0 4)) t).filter (pc_no (md_pl N K m)))) → rl_mp m (pc_all (md_pl N K m) (rl_W N K (rl_S M N m (N 0 4)) t)) N K N2 K2) ∧ (¬ ((((0 ≤ m ∧ m < N 0 2) ∧ (0 ≤ t ∧ t < 12)) ∧ (¬ (rl_S M N m (N 0 4)).1 1 t = 0 ∧ (rl_S M N m (N 0 4)).1 2 t = 1)) ∧ rl_fC N K m ((rl_W N K (rl_S M N m (N 0 4)) t).filter (pc_no (md_pl N K m)))) → rl_mq N K N2 K2))) := by
  obtain ⟨ha1, ha2, ha3, ha4, ha5, ha6⟩ := hR.1
  have hn1 := hR.2.1.1.1.1
  have hn2 := hR.2.1.1.1.2.1
  refine fw_aload_n dX6_fetch_5 rfl rfl ?_
  refine fw_iload_n dX6_fetch_6 rfl rfl ?_
  refine fw_pV mX6_isMachine [_] dX6_fetch_7 mv_X6_isMachine lk_6_179 ⟨⟨by decide, by decide⟩, rfl, rfl, rfl, by decide, by decide⟩ ly1_0 ⟨by decide, by decide⟩ rfl rfl (Nat.le_of_ble_eq_true rfl) (sp_X6_isMachine _ _ _ (by omega)) ?_
  refine fw_bifeq 20 dX6_fetch_10 (by decide) (fun h10 => ?_) (fun h10 => ?_)
  · skip
    refine fw_iconst dX6_fetch_20 ⟨by decide, by decide⟩ ?_
    refine fw_iret dX6_fetch_21 ⟨rfl, rfl, rfl⟩ ?_
    refine ⟨?_, fun z => ?_, fun _ => rl_mq_rf N K⟩
    · congr 2; unfold an_fetch; (repeat' split) <;> omega
    · have z1 := z.1; omega
  · skip
    refine fw_iload_n dX6_fetch_13 rfl rfl ?_
    refine fw_pS mX6_isThing [_] dX6_fetch_14 mv_X6_isThing lk_6_182 ⟨⟨by decide, by decide⟩, rfl, rfl, rfl, by decide, by decide⟩ rfl rfl (Nat.le_of_ble_eq_true rfl) (sp_X6_isThing _ _ _) ?_
    refine fw_bifne 22 dX6_fetch_17 (by decide) (fun h17 => ?_) (fun h17 => ?_)
    · skip
      refine fw_aload_n dX6_fetch_22 rfl rfl ?_
      refine fw_iload_n dX6_fetch_23 rfl rfl ?_
      refine fw_cV mX6_tellsNow [_] dX6_fetch_24 mv_X6_tellsNow lk_6_176 ⟨⟨by decide, by decide⟩, rfl, rfl, rfl, by decide, by decide⟩ ly1_0 ⟨by decide, by decide⟩ rfl rfl (Nat.le_of_ble_eq_true rfl) (rl_tellsNow hR (by omega)) (fun r Na_ La_ hp hNa_ => ?_)
      obtain ⟨rfl, rfl, g1, g2⟩ := hp
      obtain ⟨e0, e1, e2, e3, e4, e6, e7⟩ := g2.1 t (by omega) (by omega)
      have hfl := md_isFl g2.1 (rl_ti hR m (N 0 4)) (u := t) (by omega) (by omega)
      refine fw_aload_n dX6_fetch_27 rfl rfl ?_
      refine fw_iload_n dX6_fetch_28 rfl rfl ?_
      refine fw_pV mX6_isFile [_] dX6_fetch_29 mv_X6_isFile lk_6_211 ⟨⟨by decide, by decide⟩, rfl, rfl, rfl, by decide, by decide⟩ ly1_0 ⟨by decide, by decide⟩ rfl rfl (Nat.le_of_ble_eq_true rfl) (sp_X6_isFile _ _ _ (by omega)) ?_
      refine fw_bifne 38 dX6_fetch_32 (by decide) (fun h32 => ?_) (fun h32 => ?_)
      · skip
        obtain ⟨P, hP⟩ := rl_pcs hR
        obtain ⟨⟨p1, p2⟩, ⟨p3, p4, p5⟩, ⟨p6, p7, p8, p9⟩, q1, q2, q3, q4, q5⟩ := hP m (by omega) (by omega)
        refine fw_aload_n dX6_fetch_38 rfl rfl ?_
        refine fw_iconst dX6_fetch_39 ⟨by decide, by decide⟩ ?_
        refine fw_puti 28 rfl dX6_fetch_40 fp_6_200 ly1_0 (by decide) ⟨by decide, by decide⟩ rfl ?_
        refine fw_aload_n dX6_fetch_43 rfl rfl ?_
        refine fw_iload_n dX6_fetch_44 rfl rfl ?_
        refine fw_cV mX6_cutsFile [_] dX6_fetch_45 mv_X6_cutsFile lk_6_263 ⟨⟨by decide, by decide⟩, rfl, rfl, rfl, by decide, by decide⟩ ly1_0 ⟨by decide, by decide⟩ rfl rfl (Nat.le_of_ble_eq_true rfl) (rl_cutsFile (c := []) hR (t := t) (by omega) g1 g2 (md_fc_upd Na_ La_ 0) ⟨fw_updj, fun i a h => by simp at h⟩ (fun a h => by simp at h) (by decide)) (fun r Nb_ Lb_ hp hNb_ => ?_)
        obtain ⟨rfl, f1, f2⟩ := hp
        obtain ⟨o1, o2, o3⟩ := rl_W_ok (K := La_) hR m (N 0 4) (t := t) (by omega)
        have pk := fun q (a : 0 ≤ q) (b : q < 4) => rl_pm (hP q a b).1.2 g1 f1
        refine fw_iconst dX6_fetch_48 ⟨by decide, by decide⟩ ?_
        refine fw_istore_n (ls2 := [_, _, _, _]) dX6_fetch_49 rfl (by decide) rfl ?_
        have e20 : Nb_ 20 = N 20 := (f1.1 20 (by decide) (by decide)).trans (g1 20 (by decide))
        have e02 : Nb_ 0 2 = N 0 2 := by rw [f1.2.1 2 (by decide), g1 0 (by decide)]
        have eF := hfl.mp h32
        refine lp_X6_fetch N Nb_ La_ Lb_ m t (by omega) (by rw [e02]; omega) (rl_W N La_ (rl_S M N m (N 0 4)) t) f2 (by omega) (fun q a b => ⟨pk q a b, (hP q a b).2.2.2.2.1⟩) _ (fun hel k => ?_) (fun hel => ?_) 705 0 (by omega) (by decide) (by omega) (fun j a hj => by omega)
        · rw [e02] at hel
          refine fw_aload_n dX6_fetch_109 rfl rfl ?_
          refine fw_iload_n dX6_fetch_110 rfl rfl ?_
          refine fw_pV mX6_lacking [_] dX6_fetch_111 mv_X6_lacking lk_6_218 ⟨⟨by decide, by decide⟩, rfl, rfl, rfl, by decide, by decide⟩ ly1_0 ⟨by decide, by decide⟩ rfl rfl (Nat.le_of_ble_eq_true rfl) (sp_X6_lacking m (by omega) (md_pl N La_ m) Nb_ Lb_ (pk m (by omega) (by omega)) q2 (rl_W N La_ (rl_S M N m (N 0 4)) t) f2 (by omega) o1) ?_
          refine fw_istore_n (ls2 := [_, _, _, _]) dX6_fetch_114 rfl (by decide) rfl ?_
          have s1 := pc_sz_len q3
          have s2 := pc_sz_len (l := ((rl_W N La_ (rl_S M N m (N 0 4)) t).filter (pc_no (md_pl N La_ m)))) (fun b hb => o1 b (List.mem_filter.mp hb).1)
          have s3 := List.length_filter_le (pc_no (md_pl N La_ m)) (rl_W N La_ (rl_S M N m (N 0 4)) t)
          refine fw_aload_n dX6_fetch_115 rfl rfl ?_
          refine fw_iload_n dX6_fetch_116 rfl rfl ?_
          refine fw_pV mX6_bytesAt [_] dX6_fetch_117 mv_X6_bytesAt lk_6_214 ⟨⟨by decide, by decide⟩, rfl, rfl, rfl, by decide, by decide⟩ ly1_0 ⟨by decide, by decide⟩ rfl rfl (Nat.le_of_ble_eq_true rfl) (sp_X6_bytesAt m (by omega) (md_pl N La_ m) Nb_ Lb_ (pk m (by omega) (by omega)) q2 q3) ?_
          refine fw_iload_n dX6_fetch_120 rfl rfl ?_
          refine fw_iadd dX6_fetch_121 ⟨by omega, by omega⟩ ?_
          refine fw_aload_n dX6_fetch_122 rfl rfl ?_
          refine fw_getr 24 20 rfl dX6_fetch_123 ff_6_73 ly1_0 ⟨by decide, by decide⟩ rfl rfl (by decide) ?_
          refine fw_iload_n dX6_fetch_126 rfl rfl ?_
          refine fw_iaload dX6_fetch_127 ly1_20 ⟨by decide, by decide⟩ ⟨by omega, by omega⟩ ?_
          rw [e20]
          refine fw_icmp_le 134 dX6_fetch_128 (by decide) (fun h128 => ?_) (fun h128 => ?_)
          · skip
            refine fw_aload_n dX6_fetch_134 rfl rfl ?_
            refine fw_iload_n dX6_fetch_135 rfl rfl ?_
            refine fw_cV mX6_takes [_] dX6_fetch_136 mv_X6_takes lk_6_221 ⟨⟨by decide, by decide⟩, rfl, rfl, rfl, by decide, by decide⟩ ly1_0 ⟨by decide, by decide⟩ rfl rfl (Nat.le_of_ble_eq_true rfl) (sp_X6_takes m (by omega) (md_pl N La_ m) Nb_ Lb_ (pk m (by omega) (by omega)) (rl_W N La_ (rl_S M N m (N 0 4)) t) f2 (by omega) q3 o1 (by rw [pc_all_eq o3, pc_sz_app]; omega)) (fun r Nc_ Lc_ hp hNc_ => ?_)
            obtain ⟨rfl, x1, x2, x3, x4, x5⟩ := hp
            refine fw_iload_n dX6_fetch_139 rfl rfl ?_
            refine fw_iret dX6_fetch_140 ⟨rfl, rfl, rfl⟩ ?_
            have hFC : rl_fC N La_ m ((rl_W N La_ (rl_S M N m (N 0 4)) t).filter (pc_no (md_pl N La_ m))) := ⟨hel, by omega⟩
            refine ⟨?_, fun _ => ⟨fun k a => ⟨?_, ?_⟩, fun j a b => ?_, ?_, x1, fun u a b e => pm_at_ot (hP u a b).2.2.2.2.1 e (pk u a b) (x4 u e) x5⟩, fun z => absurd ⟨by omega, hFC⟩ z⟩
            · rw [ab_cv_1 hFC]; congr 2; unfold an_fetch; (repeat' split) <;> omega
            · rw [x2 k (by omega) (by omega), f1.1 k (by omega) (by omega)]; exact g1 k (by omega)
            · rw [x3 k (by omega)]; exact f1.2.2 k (by omega)
            · rw [x2 0 (by decide) (by decide), f1.2.1 j b, g1 0 (by decide)]
            · rw [x3 0 (by decide)]; exact f1.2.2 0 (by decide)
          · skip
            refine fw_bipush dX6_fetch_131 ⟨by decide, by decide⟩ (by decide) ?_
            refine fw_iret dX6_fetch_133 ⟨rfl, rfl, rfl⟩ ?_
            have hFC : ¬ rl_fC N La_ m ((rl_W N La_ (rl_S M N m (N 0 4)) t).filter (pc_no (md_pl N La_ m))) := fun z => by have := z.2; omega
            refine ⟨?_, fun z => absurd z.2 hFC, fun _ => rl_mq_fc g1 f1⟩
            rw [ab_cv_0 hFC]; congr 2; unfold an_fetch; (repeat' split) <;> omega
        · rw [e02] at hel
          have hFC : ¬ rl_fC N La_ m ((rl_W N La_ (rl_S M N m (N 0 4)) t).filter (pc_no (md_pl N La_ m))) := fun z => hel z.1
          refine ⟨?_, fun z => absurd z.2 hFC, fun _ => rl_mq_fc g1 f1⟩
          rw [ab_cv_0 hFC]; congr 2; unfold an_fetch; (repeat' split) <;> omega
      · skip
        refine fw_bipush dX6_fetch_35 ⟨by decide, by decide⟩ (by decide) ?_
        refine fw_iret dX6_fetch_37 ⟨rfl, rfl, rfl⟩ ?_
        refine ⟨?_, fun z => ?_, fun _ => rl_mq_of g1⟩
        · congr 2; unfold an_fetch; (repeat' split) <;> omega
        · have z1 := z.1; omega
    · skip
      refine fw_iconst dX6_fetch_20 ⟨by decide, by decide⟩ ?_
      refine fw_iret dX6_fetch_21 ⟨rfl, rfl, rfl⟩ ?_
      refine ⟨?_, fun z => ?_, fun _ => rl_mq_rf N K⟩
      · congr 2; unfold an_fetch; (repeat' split) <;> omega
      · have z1 := z.1; omega

set_option maxRecDepth 20000 in
set_option maxHeartbeats 4000000 in
theorem sp_X6_fetch (M N : fw_F) (L K : fw_G) (hR : Rel M L (fw_upd N 0 0 0) K) (m t : Int) : fw_SD mX6_fetch [fw_r 0, fw_i m, fw_i t] N K (fun r N2 K2 => r = some (fw_i (an_fetch ((fw_upd N 0 0 0) 0 2) (rl_S M (fw_upd N 0 0 0) m ((fw_upd N 0 0 0) 0 4)) m t (ab_cv (rl_fC (fw_upd N 0 0 0) K m ((rl_W (fw_upd N 0 0 0) K (rl_S M (fw_upd N 0 0 0) m ((fw_upd N 0 0 0) 0 4)) t).filter (pc_no (md_pl (fw_upd N 0 0 0) K m)))) (pc_sz ((rl_W (fw_upd N 0 0 0) K (rl_S M (fw_upd N 0 0 0) m ((fw_upd N 0 0 0) 0 4)) t).filter (pc_no (md_pl (fw_upd N 0 0 0) K m))))))) ∧ ((((((0 ≤ m ∧ m < (fw_upd N 0 0 0) 0 2) ∧ (0 ≤ t ∧ t < 12)) ∧ (¬ (rl_S M (fw_upd N 0 0 0) m ((fw_upd N 0 0 0) 0 4)).1 1 t = 0 ∧ (rl_S M (fw_upd N 0 0 0) m ((fw_upd N 0 0 0) 0 4)).1 2 t = 1)) ∧ rl_fC (fw_upd N 0 0 0) K m ((rl_W (fw_upd N 0 0 0) K (rl_S M (fw_upd N 0 0 0) m ((fw_upd N 0 0 0) 0 4)) t).filter (pc_no (md_pl (fw_upd N 0 0 0) K m)))) → rl_mp m (pc_all (md_pl (fw_upd N 0 0 0) K m) (rl_W (fw_upd N 0 0 0) K (rl_S M (fw_upd N 0 0 0) m ((fw_upd N 0 0 0) 0 4)) t)) (fw_upd N 0 0 0) K N2 K2) ∧ (¬ ((((0 ≤ m ∧ m < (fw_upd N 0 0 0) 0 2) ∧ (0 ≤ t ∧ t < 12)) ∧ (¬ (rl_S M (fw_upd N 0 0 0) m ((fw_upd N 0 0 0) 0 4)).1 1 t = 0 ∧ (rl_S M (fw_upd N 0 0 0) m ((fw_upd N 0 0 0) 0 4)).1 2 t = 1)) ∧ rl_fC (fw_upd N 0 0 0) K m ((rl_W (fw_upd N 0 0 0) K (rl_S M (fw_upd N 0 0 0) m ((fw_upd N 0 0 0) 0 4)) t).filter (pc_no (md_pl (fw_upd N 0 0 0) K m)))) → rl_mq (fw_upd N 0 0 0) K N2 K2))) := by
  refine fw_SP_of pl_X6_fetch (ls := [_, _, _]) rfl (Nat.le_of_ble_eq_true rfl) fun hA hM => ?_
  refine fw_aload_n dX6_fetch_0 rfl rfl ?_
  refine fw_iconst dX6_fetch_1 ⟨by decide, by decide⟩ ?_
  refine fw_puti 0 rfl dX6_fetch_2 fp_6_106 ly1_0 (by decide) ⟨by decide, by decide⟩ rfl ?_
  exact pm_X6_fetch M (fw_upd N 0 0 0) L K hR m t
