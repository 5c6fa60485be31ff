/-! away -/
def rl_of (S : ab_S) (t : Int) : Int → Bool := fun u => decide (¬ u = t ∧ (¬ S.1 1 u = 0 ∧ S.1 2 u = 1))
def rl_E (N : fw_F) (K : fw_G) (S : ab_S) (t : Int) : List pc_P := pc_all [] (pc_os (rl_of S t) (rl_fs N K S) 12)
abbrev pc_ya (l : List pc_P) : pc_P → Bool := fun a => decide (a ∈ l)
def rl_X (N : fw_F) (K : fw_G) (S : ab_S) (m t : Int) : List pc_P := ((rl_W N K S t).filter (pc_no (rl_E N K S t))).filter (pc_ya (md_pl N K m))
def rl_D (N : fw_F) (K : fw_G) (S : ab_S) (t : Int) : List pc_P := (rl_W N K S t).filter (pc_no (rl_E N K S t))
theorem pc_all_over {C : List pc_P} : ∀ (f Y : List pc_P), pc_all (C ++ Y.filter (pc_no C)) f = C ++ (pc_all Y f).filter (pc_no C) := by
  intro f
  induction f with
  | nil => intro Y; rfl
  | cons a t ih =>
    intro Y
    show pc_all (pc_ins (C ++ Y.filter (pc_no C)) a) t = C ++ (pc_all (pc_ins Y a) t).filter (pc_no C)
    rw [← ih]
    congr 1
    unfold pc_ins
    by_cases hc : a ∈ C
    · rw [if_pos (List.mem_append_left _ hc)]
      split
      · rfl
      · rw [List.filter_append, List.filter_cons_of_neg (by simp [pc_no, hc]), List.filter_nil, List.append_nil]
    · by_cases hy : a ∈ Y
      · rw [if_pos (List.mem_append_right _ (List.mem_filter.mpr ⟨hy, by simp [pc_no, hc]⟩)), if_pos hy]
      · rw [if_neg, if_neg hy, List.filter_append, List.filter_cons_of_pos (by simp [pc_no, hc]), List.filter_nil, List.append_assoc]
        intro h
        rcases List.mem_append.mp h with h | h
        · exact hc h
        · exact hy (List.mem_filter.mp h).1
theorem rl_E_ok {M N : fw_F} {L K : fw_G} (hR : Rel M L N K) (m d t : Int) : ∀ n : Nat, n ≤ 12 → pc_ok (pc_all [] (pc_os (rl_of (rl_S M N m d) t) (rl_fs N K (rl_S M N m d)) n)) ∧ (pc_all [] (pc_os (rl_of (rl_S M N m d) t) (rl_fs N K (rl_S M N m d)) n)).length ≤ 32 * n := by
  intro n hn
  have h1 := pc_os_ok (P := rl_of (rl_S M N m d) t) (fs := rl_fs N K (rl_S M N m d)) n (fun i a b _ => rl_fs_ok hR m d (t := i) ⟨a, by omega⟩)
  have h3 := pc_all_len (pc_os (rl_of (rl_S M N m d) t) (rl_fs N K (rl_S M N m d)) n) []
  simp only [List.length_nil] at h3
  exact ⟨pc_all_ok (fun a h => by simp at h) h1.1, by omega⟩
theorem rl_gather {M N M1 Mx : fw_F} {L K Lx : fw_G} (hR : Rel M L N K) {m d t : Int} (g1 : ∀ k, k < 169 ∨ 177 < k → M1 k = M k) (g2 : cl_V M1 (rl_S M N m d) (rl_e N)) (hx : ∀ k, k < 191 → Mx k = M1 k ∧ Lx k = L k) : fw_SC mX5_gatherPiecesOfOthers [fw_r 0, fw_i t] Mx Lx (fun r M2 L2 => r = none ∧ (∀ k, ¬ k = 194 → ¬ k = 196 → M2 k = Mx k) ∧ (∀ k, ¬ k = 195 → L2 k = Lx k) ∧ ps_at M2 L2 194 (rl_E N K (rl_S M N m d) t)) := by
  have hw : ∀ u, 0 ≤ u → u < 12 → cl_rw Mx u ∧ cl_fs Mx Lx u = rl_fs N K (rl_S M N m d) u := fun u a b => by
    have h1 := (rl_crw hR (t := u) ⟨a, b⟩ g1 g2).1
    rw [← (rl_cbc hR (t := u) ⟨a, b⟩ g1 g2).2.2]
    exact ⟨cl_rw_of h1 (hx 176 (by decide)).1 (hx 177 (by decide)).1 (fun k a b => (hx k (by omega)).1), cl_fs_of h1 (hx 176 (by decide)).1 (hx 177 (by decide)).1 (fun k a b => hx k (by omega))⟩
  refine fw_SP_mono (sp_X5_gatherPiecesOfOthers Mx Lx t (fun u a b => (hw u a b).1)) (fun r M2 L2 _ h => ?_)
  rw [pc_os_congr (P' := rl_of (rl_S M N m d) t) (fs' := rl_fs N K (rl_S M N m d)) 12 (fun u a b => ⟨?_, fun _ => (hw u a (by omega)).2⟩)] at h
  · exact h
  · obtain ⟨-, w1, w2, -⟩ := g2.1 u a (by omega)
    unfold cl_of rl_of
    rw [(hx 170 (by decide)).1, (hx 171 (by decide)).1, w1, w2]

theorem pc_sz_filter {l : List pc_P} (h : pc_ok l) (f : pc_P → Bool) : pc_sz (l.filter f) ≤ pc_sz l := by
  induction l with
  | nil => exact Int.le_refl _
  | cons a t ih =>
    have h1 := ih (fun b hb => h b (List.mem_cons_of_mem _ hb))
    have h2 := h a List.mem_cons_self
    by_cases hf : f a = true
    · rw [List.filter_cons_of_pos hf]; simp only [pc_sz]; omega
    · rw [List.filter_cons_of_neg hf]; simp only [pc_sz]; omega

set_option maxRecDepth 20000 in
set_option maxHeartbeats 4000000 in
theorem sp_X5_away (M N : fw_F) (L K : fw_G) (hR : Rel M L N K) (m t : Int) : fw_SC mX5_away [fw_r 0, fw_i m, fw_i t] M L (fun r M2 L2 => r = some (fw_i (an_fetch (N 0 2) (rl_S M N m (N 0 4)) m t (ab_cv (∀ a ∈ (rl_X N K (rl_S M N m (N 0 4)) m t), pc_el (md_pl N K) (N 0 2) m a) (pc_sz (rl_X N K (rl_S M N m (N 0 4)) m t))))) ∧ ∀ N2 K2, ((((((0 ≤ m ∧ m < N 0 2) ∧ (0 ≤ t ∧ t < 12)) ∧ (¬ (rl_S M N m (N 0 4)).1 1 t = 0 ∧ (rl_S M N m (N 0 4)).1 2 t = 1)) ∧ (∀ a ∈ (rl_X N K (rl_S M N m (N 0 4)) m t), pc_el (md_pl N K) (N 0 2) m a)) → ∃ l, l.Perm ((md_pl N K m).filter (pc_no (rl_D N K (rl_S M N m (N 0 4)) t))) ∧ rl_mp m l N K N2 K2) ∧ (¬ ((((0 ≤ m ∧ m < N 0 2) ∧ (0 ≤ t ∧ t < 12)) ∧ (¬ (rl_S M N m (N 0 4)).1 1 t = 0 ∧ (rl_S M N m (N 0 4)).1 2 t = 1)) ∧ (∀ a ∈ (rl_X N K (rl_S M N m (N 0 4)) m t), pc_el (md_pl N K) (N 0 2) m a)) → rl_mq N K N2 K2)) → Rel M2 L2 N2 K2) := by
  refine fw_SP_of pl_X5_away (ls := [_, _, _]) rfl (Nat.le_of_ble_eq_true rfl) fun hA hM => ?_
  obtain ⟨ha1, ha2, ha3, ha4, ha5, ha6⟩ := hR.1
  have hn1 := hR.2.1.1.1.1
  have hn2 := hR.2.1.1.1.2.1
  refine fw_aload_n dX5_away_0 rfl rfl ?_
  refine fw_iload_n dX5_away_1 rfl rfl ?_
  refine fw_pV mX5_isMachine [_] dX5_away_2 mv_X5_isMachine lk_5_62 ⟨⟨by decide, by decide⟩, rfl, rfl, rfl, by decide, by decide⟩ ly0_0 ⟨by decide, by decide⟩ rfl rfl (Nat.le_of_ble_eq_true rfl) (sp_X5_isMachine _ _ _) ?_
  refine fw_bifeq 15 dX5_away_5 (by decide) (fun h5 => ?_) (fun h5 => ?_)
  · skip
    refine fw_iconst dX5_away_15 ⟨by decide, by decide⟩ ?_
    refine fw_iret dX5_away_16 ⟨rfl, rfl, rfl⟩ ?_
    refine ⟨?_, fun N2 K2 h => ?_⟩
    · congr 2; unfold an_fetch; (repeat' split) <;> omega
    · refine rl_md hR (h.2 (fun z => ?_))
      have z1 := z.1
      omega
  · skip
    refine fw_iload_n dX5_away_8 rfl rfl ?_
    refine fw_pS mX5_isThing [_] dX5_away_9 mv_X5_isThing lk_5_66 ⟨⟨by decide, by decide⟩, rfl, rfl, rfl, by decide, by decide⟩ rfl rfl (Nat.le_of_ble_eq_true rfl) (sp_X5_isThing _ _ _) ?_
    refine fw_bifne 17 dX5_away_12 (by decide) (fun h12 => ?_) (fun h12 => ?_)
    · skip
      refine fw_aload_n dX5_away_17 rfl rfl ?_
      refine fw_iload_n dX5_away_18 rfl rfl ?_
      refine fw_cV mX5_growNow [_] dX5_away_19 mv_X5_growNow lk_5_72 ⟨⟨by decide, by decide⟩, rfl, rfl, rfl, by decide, by decide⟩ ly0_0 ⟨by decide, by decide⟩ rfl rfl (Nat.le_of_ble_eq_true rfl) (rl_growNow hR (by omega)) (fun r Ma_ La_ hp hMa_ => ?_)
      obtain ⟨rfl, rfl, g1, g2⟩ := hp
      obtain ⟨e0, e1, e2, e3, e4, e5, e6, e7⟩ := g2.1 t (by omega) (by omega)
      refine fw_aload_n dX5_away_22 rfl rfl ?_
      refine fw_getr 1 168 rfl dX5_away_23 ff_5_21 ly0_0 ⟨by decide, by decide⟩ rfl rfl (by decide) ?_
      refine fw_iload_n dX5_away_26 rfl rfl ?_
      refine fw_pV mX4_isFile [_] dX5_away_27 mv_X4_isFile lk_5_110 ⟨⟨by decide, by decide⟩, rfl, rfl, rfl, by decide, by decide⟩ ly0_168 ⟨by decide, by decide⟩ rfl rfl (Nat.le_of_ble_eq_true rfl) (sp_X4_isFile _ _ _ (by omega)) ?_
      rw [e1, e2]
      refine fw_bifne 36 dX5_away_30 (by decide) (fun h30 => ?_) (fun h30 => ?_)
      · skip
        obtain ⟨P, hP⟩ := rl_pcs hR
        obtain ⟨⟨p1, p2⟩, ⟨p3, p4, p5⟩, ⟨p6, p7, p8, p9⟩, q1, q2, q3, q4, q5⟩ := hP m (by omega) (by omega)
        have hkm := ps_kept (show 0 ≤ m by omega) (show m < 4 by omega)
        refine fw_aload_n dX5_away_36 rfl rfl ?_
        refine fw_iload_n dX5_away_37 rfl rfl ?_
        refine fw_cV mX5_wantPiecesOf [_] dX5_away_38 mv_X5_wantPiecesOf lk_5_241 ⟨⟨by decide, by decide⟩, rfl, rfl, rfl, by decide, by decide⟩ ly0_0 ⟨by decide, by decide⟩ rfl rfl (Nat.le_of_ble_eq_true rfl) (rl_want hR (by omega) g1 g2) (fun r Mb_ Lb_ hp hMb_ => ?_)
        obtain ⟨rfl, w1, w2, w3⟩ := hp
        obtain ⟨o1, o2, o3⟩ := rl_W_ok (K := K) hR m (N 0 4) (t := t) (by omega)
        have pk := fun q (a : 0 ≤ q) (b : q < 4) => ps_at_fr (hP q a b).1.1 ((w1 _ (by omega) (by omega)).trans (g1 _ (by omega))) ((w1 _ (by omega) (by omega)).trans (g1 _ (by omega))) (w2 _ (by omega))
        refine fw_aload_n dX5_away_41 rfl rfl ?_
        refine fw_getr 3 191 rfl dX5_away_42 ff_5_34 ly0_0 ⟨by decide, by decide⟩ rfl rfl (by decide) ?_
        refine fw_aload_n dX5_away_45 rfl rfl ?_
        refine fw_getr 2 178 rfl dX5_away_46 ff_5_27 ly0_0 ⟨by decide, by decide⟩ rfl rfl (by decide) ?_
        refine fw_iload_n dX5_away_49 rfl rfl ?_
        refine fw_aaload (179 + 3 * _) dX5_away_50 ly0_178 (Or.inr rfl) ⟨by decide, by decide⟩ ⟨by omega, by omega⟩ (rc_178 _) (by omega) ?_
        refine fw_cV mX2_keepOnly [_] dX5_away_51 mv_X2_keepOnly lk_5_250 ⟨⟨by decide, by decide⟩, rfl, rfl, rfl, by decide, by decide⟩ ly0_191 ⟨by decide, by decide⟩ rfl rfl (Nat.le_of_ble_eq_true rfl) (sp_X2_keepOnly 191 (179 + 3 * m) 32 200 ps_191 hkm _ (P m) Mb_ Lb_ w3 (pk m (by omega) (by omega)) o2 (by decide) q1 (by decide) (by omega) o1) (fun r Mc_ Lc_ hp hMc_ => ?_)
        obtain ⟨rfl, v1, v2, c1, v3, v4⟩ := hp
        have hxb : ∀ k, k < 191 → Mc_ k = Ma_ k ∧ Lc_ k = La_ k := fun k a => ⟨by rw [v1 k (by omega) (by omega)]; exact w1 k (by omega) (by omega), by rw [v2 k (by omega)]; exact w2 k (by omega)⟩
        have e2o := rl_E_ok (K := K) hR m (N 0 4) t 12 (by decide)
        have c1ok : pc_ok c1 := fun a ha => o1 a (List.mem_filter.mp (v4.mem_iff.mp ha)).1
        have c1l : c1.length ≤ 32 := by rw [v4.length_eq]; exact Nat.le_trans (List.length_filter_le _ _) o2
        refine fw_aload_n dX5_away_54 rfl rfl ?_
        refine fw_iload_n dX5_away_55 rfl rfl ?_
        refine fw_cV mX5_gatherPiecesOfOthers [_] dX5_away_56 mv_X5_gatherPiecesOfOthers lk_5_253 ⟨⟨by decide, by decide⟩, rfl, rfl, rfl, by decide, by decide⟩ ly0_0 ⟨by decide, by decide⟩ rfl rfl (Nat.le_of_ble_eq_true rfl) (rl_gather (t := t) hR g1 g2 hxb) (fun r Md_ Ld_ hp hMd_ => ?_)
        obtain ⟨rfl, x1, x2, x3⟩ := hp
        have v3d := ps_at_fr v3 (x1 191 (by decide) (by decide)) (x1 193 (by decide) (by decide)) (x2 192 (by decide))
        refine fw_aload_n dX5_away_59 rfl rfl ?_
        refine fw_getr 3 191 rfl dX5_away_60 ff_5_34 ly0_0 ⟨by decide, by decide⟩ rfl rfl (by decide) ?_
        refine fw_aload_n dX5_away_63 rfl rfl ?_
        refine fw_getr 4 194 rfl dX5_away_64 ff_5_38 ly0_0 ⟨by decide, by decide⟩ rfl rfl (by decide) ?_
        refine fw_cV mX2_removeAll [_] dX5_away_67 mv_X2_removeAll lk_5_244 ⟨⟨by decide, by decide⟩, rfl, rfl, rfl, by decide, by decide⟩ ly0_191 ⟨by decide, by decide⟩ rfl rfl (Nat.le_of_ble_eq_true rfl) (sp_X2_removeAll 191 194 32 384 ps_191 ps_194 c1 (rl_E N K (rl_S M N m (N 0 4)) t) Md_ Ld_ v3d x3 c1l (by decide) (by have := e2o.2; exact this) (by decide) (by decide) c1ok) (fun r Me_ Le_ hp hMe_ => ?_)
        obtain ⟨rfl, y1, y2, c2, y3, y4⟩ := hp
        have c2m : ∀ a, a ∈ c2 ↔ a ∈ (rl_X N K (rl_S M N m (N 0 4)) m t) := fun a => by
          rw [y4.mem_iff]
          unfold rl_X
          simp only [List.mem_filter, v4.mem_iff, pc_no, pc_ya, decide_eq_true_eq, p3.mem_iff]
          exact ⟨fun h => ⟨⟨h.1.1, h.2⟩, h.1.2⟩, fun h => ⟨⟨h.1.1, h.2⟩, h.1.2⟩⟩
        have c2nd : c2.Nodup := y4.nodup_iff.mpr ((v4.nodup_iff.mpr (o3.filter _)).filter _)
        have xnd : (rl_X N K (rl_S M N m (N 0 4)) m t).Nodup := (o3.filter _).filter _
        have c2p : c2.Perm (rl_X N K (rl_S M N m (N 0 4)) m t) := (List.perm_ext_iff_of_nodup c2nd xnd).mpr c2m
        have c2ok : pc_ok c2 := fun a ha => c1ok a (List.mem_filter.mp (y4.mem_iff.mp ha)).1
        have c2l : c2.length ≤ 32 := by rw [y4.length_eq]; exact Nat.le_trans (List.length_filter_le _ _) c1l
        have pkc := fun q (a : 0 ≤ q) (b : q < 4) => ps_at_fr (pk q a b) ((y1 _ (by omega) (by omega)).trans ((x1 _ (by omega) (by omega)).trans (v1 _ (by omega) (by omega)))) ((y1 _ (by omega) (by omega)).trans ((x1 _ (by omega) (by omega)).trans (v1 _ (by omega) (by omega)))) ((y2 _ (by omega)).trans ((x2 _ (by omega)).trans (v2 _ (by omega))))
        have e07 : Me_ 0 7 = N 0 2 := by rw [y1 0 (by decide) (by decide), x1 0 (by decide) (by decide), v1 0 (by decide) (by decide), w1 0 (by decide) (by decide), g1 0 (by decide)]; exact ha1
        refine fw_aload_n dX5_away_70 rfl rfl ?_
        refine fw_iload_n dX5_away_71 rfl rfl ?_
        refine fw_cV mX5_othersHaveWanted [_] dX5_away_72 mv_X5_othersHaveWanted lk_5_247 ⟨⟨by decide, by decide⟩, rfl, rfl, rfl, by decide, by decide⟩ ly0_0 ⟨by decide, by decide⟩ rfl rfl (Nat.le_of_ble_eq_true rfl) (sp_X5_othersHaveWanted P c2 Me_ Le_ y3 c2l c2ok (fun q a b => ⟨pkc q a b, (hP q a b).2.2.2.1, (hP q a b).2.1.2.2⟩) m (by rw [e07]; omega)) (fun r M1 L1 hp hM1 => ?_)
        obtain ⟨hM9, hL9, z, rfl, hz1, hz2⟩ := hp
        rw [hM9, hL9]
        rw [e07] at hz2
        have hz3 : z = 1 ↔ (∀ a ∈ (rl_X N K (rl_S M N m (N 0 4)) m t), pc_el (md_pl N K) (N 0 2) m a) := hz2.trans ⟨fun h a ha => (pc_el_perm hn2 (fun q a b => (hP q a b).2.1.1)).mp (h a ((c2m a).mpr ha)), fun h a ha => (pc_el_perm hn2 (fun q a b => (hP q a b).2.1.1)).mpr (h a ((c2m a).mp ha))⟩
        refine fw_if_ne 81 dX5_away_75 (by decide) (fun h75 => ?_) (fun h75 => ?_)
        · skip
          refine fw_aload_n dX5_away_81 rfl rfl ?_
          refine fw_getr 2 178 rfl dX5_away_82 ff_5_27 ly0_0 ⟨by decide, by decide⟩ rfl rfl (by decide) ?_
          refine fw_iload_n dX5_away_85 rfl rfl ?_
          refine fw_aaload (179 + 3 * _) dX5_away_86 ly0_178 (Or.inr rfl) ⟨by decide, by decide⟩ ⟨by omega, by omega⟩ (rc_178 _) (by omega) ?_
          refine fw_aload_n dX5_away_87 rfl rfl ?_
          refine fw_getr 3 191 rfl dX5_away_88 ff_5_34 ly0_0 ⟨by decide, by decide⟩ rfl rfl (by decide) ?_
          refine fw_cV mX2_removeAll [_] dX5_away_91 mv_X2_removeAll lk_5_244 ⟨⟨by decide, by decide⟩, rfl, rfl, rfl, by decide, by decide⟩ hkm.1 ⟨by have := hkm.2.2.2.2.2; omega, by have := hkm.2.2.2.2.2; omega⟩ rfl rfl (Nat.le_of_ble_eq_true rfl) (sp_X2_removeAll (179 + 3 * m) 191 200 32 hkm ps_191 (P m) c2 Me_ Le_ (pkc m (by omega) (by omega)) y3 q1 (by decide) c2l (by decide) (by omega) p5) (fun r Mf_ Lf_ hp hMf_ => ?_)
          obtain ⟨rfl, u1, u2, c3, u3, u4⟩ := hp
          refine fw_aload_n dX5_away_94 rfl rfl ?_
          refine fw_getr 3 191 rfl dX5_away_95 ff_5_34 ly0_0 ⟨by decide, by decide⟩ rfl rfl (by decide) ?_
          refine fw_geti 3 rfl dX5_away_98 ff_5_237 ly0_191 ⟨by decide, by decide⟩ rfl ?_
          refine fw_iret dX5_away_101 ⟨rfl, rfl, rfl⟩ ?_
          have hAC : (∀ a ∈ (rl_X N K (rl_S M N m (N 0 4)) m t), pc_el (md_pl N K) (N 0 2) m a) := hz3.mp (by omega)
          refine ⟨?_, fun N2 K2 h => ?_⟩
          · rw [ab_cv_1 hAC, u1 191 (by omega) (by omega), y3.2.1, pc_sz_perm c2p]; congr 2; unfold an_fetch; (repeat' split) <;> omega
          · obtain ⟨l, l1, l2⟩ := h.1 ⟨by omega, hAC⟩
            have c3p : c3.Perm l := by
              refine u4.trans (((p3.filter _).trans ?_).trans l1.symm)
              rw [List.filter_congr (fun a ha => ?_)]
              simp only [pc_no, c2m, rl_X, rl_D, List.mem_filter, pc_ya, decide_eq_true_eq]
              simp [ha]
            have hsub : ∀ a ∈ c3, a ∈ P m := fun a ha => (List.mem_filter.mp (u4.mem_iff.mp ha)).1
            have hsz : pc_sz c3 ≤ pc_sz (P m) := by rw [pc_sz_perm u4]; exact pc_sz_filter p5 _
            refine rl_pieces hR (m := m) (fun k a b e f => ?_) (fun k a b e => ?_) (by omega) u3 l2 c3p (u4.nodup_iff.mpr (p4.filter _)) (fun a ha => p5 a (hsub a ha)) (by omega)
            · rw [u1 k e f, y1 k (by omega) (by omega), x1 k (by omega) (by omega), v1 k (by omega) (by omega), w1 k (by omega) (by omega)]; exact g1 k a
            · rw [u2 k e, y2 k (by omega), x2 k (by omega), v2 k (by omega)]; exact w2 k (by omega)
        · skip
          refine fw_bipush dX5_away_78 ⟨by decide, by decide⟩ (by decide) ?_
          refine fw_iret dX5_away_80 ⟨rfl, rfl, rfl⟩ ?_
          have hAC : ¬ (∀ a ∈ (rl_X N K (rl_S M N m (N 0 4)) m t), pc_el (md_pl N K) (N 0 2) m a) := fun z => by have := hz3.mpr z; omega
          refine ⟨?_, fun N2 K2 h => rl_md (rl_cl hR (fun k a b => ⟨by rw [y1 k (by omega) (by omega), x1 k (by omega) (by omega), v1 k (by omega) (by omega), w1 k (by omega) (by omega)]; exact g1 k a, by rw [y2 k (by omega), x2 k (by omega), v2 k (by omega)]; exact w2 k (by omega)⟩)) (h.2 (fun z => hAC z.2))⟩
          rw [ab_cv_0 hAC]; congr 2; unfold an_fetch; (repeat' split) <;> omega
      · skip
        refine fw_bipush dX5_away_33 ⟨by decide, by decide⟩ (by decide) ?_
        refine fw_iret dX5_away_35 ⟨rfl, rfl, rfl⟩ ?_
        refine ⟨?_, fun N2 K2 h => ?_⟩
        · congr 2; unfold an_fetch; (repeat' split) <;> omega
        · refine rl_md (rl_cl hR (fun k a b => ⟨g1 k a, rfl⟩)) (h.2 (fun z => ?_))
          have z1 := z.1
          omega
    · skip
      refine fw_iconst dX5_away_15 ⟨by decide, by decide⟩ ?_
      refine fw_iret dX5_away_16 ⟨rfl, rfl, rfl⟩ ?_
      refine ⟨?_, fun N2 K2 h => ?_⟩
      · congr 2; unfold an_fetch; (repeat' split) <;> omega
      · refine rl_md hR (h.2 (fun z => ?_))
        have z1 := z.1
        omega
