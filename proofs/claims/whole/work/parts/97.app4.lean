/-! write -/
theorem ab_hh_congr {kn kn' hg hg' : Int → Int} : ∀ n : Nat, n ≤ 4 → (∀ p, 0 ≤ p → p < 4 → kn p = kn' p ∧ (0 < kn p → hg p = hg' p)) → ab_hh kn hg n = ab_hh kn' hg' n := by
  intro n
  induction n with
  | zero => intro _ _; rfl
  | succ n ih =>
    intro hn h
    simp only [ab_hh]
    obtain ⟨a, b⟩ := h n (by omega) (by omega)
    rw [ih (by omega) h, ← a]
    split
    · rename_i q
      rw [b q]
    · rfl
theorem cl_AP_fr {m act su d T : Int} {M Mp M1 M1p G : fw_F} {L Lp L1 : fw_G} {r : Option fw_V} (h : cl_AP m act su d T M L G r M1 L1) (hm : 0 ≤ m ∧ m < 4) (h4 : 0 ≤ M 4 m ∧ M 4 m < 20) (hO : ∀ j, 0 ≤ j → j < T → 0 ≤ M 3 j ∧ M 3 j < 80) (hkn : ∀ p, 0 ≤ p → p < 4 → 0 ≤ M 5 ((d * 4 + m) * 4 + p) ∧ M 5 ((d * 4 + m) * 4 + p) ≤ 20) (e : ∀ k, k < 179 → Mp k = M k) (e1 : ∀ k, k < 179 → M1p k = M1 k) (e2 : ∀ k, 179 ≤ k → M1p k = Mp k) : cl_AP m act su d T Mp Lp G r M1p Lp := by
  obtain ⟨a0, -, a1, a2, a3, a4, a5, a6, a7, a8, a9⟩ := h
  have p1 := e 1 (by decide)
  have p3 := e 3 (by decide)
  have p4 := e 4 (by decide)
  have p5 := e 5 (by decide)
  have p6 := e 6 (by decide)
  have hC : 8 + 2 * (m * 20 + M 4 m) + 1 < 179 := by omega
  have hh := ab_hh_congr (kn := fun p => Mp 5 ((d * 4 + m) * 4 + p)) (kn' := fun p => M 5 ((d * 4 + m) * 4 + p)) (hg := fun p => Mp (8 + 2 * (p * 20 + (Mp 5 ((d * 4 + m) * 4 + p) - 1))) 5) (hg' := fun p => M (8 + 2 * (p * 20 + (M 5 ((d * 4 + m) * 4 + p) - 1))) 5) 4 (by decide) (fun p a b => by
    have h9 := hkn p a b
    rw [p5]
    exact ⟨rfl, fun _ => by rw [e _ (by omega)]⟩)
  unfold cl_AP
  rw [hh]
  simp only [p4, p5, p3, p6, p1]
  rw [e1 (8 + 2 * (m * 20 + M 4 m)) (by omega), e1 (8 + 2 * (m * 20 + M 4 m) + 1) (by omega), e (8 + 2 * (m * 20 + M 4 m)) (by omega), e1 1 (by decide), e1 3 (by decide), e1 4 (by decide), e1 5 (by decide), e1 7 (by decide)]
  refine ⟨a0, trivial, fun k b1 b3 b4 b5 b7 b8 b9 => ?_, a2, a3, a4, a5, a6, a7, ?_, a9⟩
  · rcases Int.lt_or_le k 179 with c | c
    · rw [e1 k c, e k c]; exact a1 k b1 b3 b4 b5 b7 b8 b9
    · exact e2 k c
  · exact cl_ins_of a8 (e1 _ (by omega)) (fun j a b => e1 _ (by have := hO j a b; omega))
def rl_Wc (x : Int64) (v : Int) : List pc_P := pc_all [] (pc_cs x v)
theorem rl_Wc_ok (x : Int64) {v : Int} (h : 0 ≤ v ∧ v ≤ 8) : pc_ok (rl_Wc x v) ∧ (rl_Wc x v).length ≤ 8 ∧ (rl_Wc x v).Nodup := by
  obtain ⟨h1, h2⟩ := pc_cs_ok x h.2
  have h3 := pc_all_len (pc_cs x v) []
  exact ⟨pc_all_ok (fun a h => by simp at h) h1, by unfold rl_Wc; simp only [List.length_nil] at h3; omega, pc_all_nd List.nodup_nil⟩
def an_write (n km : Int) (S : ab_S) (m t v tot rm : Int) : Int := if ¬ ((0 ≤ m ∧ m < n) ∧ (0 ≤ t ∧ t < 12) ∧ (0 ≤ v ∧ v ≤ 8)) then -1 else if ¬ (¬ S.1 1 t = 0 ∧ S.1 2 t = 1) ∨ rm < tot then -2 else if 20 ≤ km then -3 else km

set_option maxRecDepth 20000 in
set_option maxHeartbeats 4000000 in
theorem sp_X5_write (M N : fw_F) (L K : fw_G) (hR : Rel M L N K) (m t : Int) (x : Int64) (v : Int) : fw_SC mX5_write [fw_r 0, fw_i m, fw_i t, fw_l x, fw_i v] M L (fun r M2 L2 => r = some (fw_i (an_write (N 0 2) (N 1 m) (rl_S M N m (N 0 4)) m t v (pc_sz (md_pl N K m) + pc_sz ((rl_Wc x v).filter (pc_no (md_pl N K m)))) (N 20 m))) ∧ ∀ N2 K2, (((((0 ≤ m ∧ m < N 0 2) ∧ (0 ≤ t ∧ t < 12) ∧ (0 ≤ v ∧ v ≤ 8)) ∧ ((¬ (rl_S M N m (N 0 4)).1 1 t = 0 ∧ (rl_S M N m (N 0 4)).1 2 t = 1) ∧ (pc_sz (md_pl N K m) + pc_sz ((rl_Wc x v).filter (pc_no (md_pl N K m)))) ≤ N 20 m) ∧ N 1 m < 20) → ∃ Nx Kx r, rl_mp m (pc_all (md_pl N K m) (rl_Wc x v)) N K Nx Kx ∧ md_AP m 3 t 0 v 0 Nx (fw_upl Kx 3 (20 * m + Nx 1 m) x) r N2 K2) ∧ (¬ (((0 ≤ m ∧ m < N 0 2) ∧ (0 ≤ t ∧ t < 12) ∧ (0 ≤ v ∧ v ≤ 8)) ∧ ((¬ (rl_S M N m (N 0 4)).1 1 t = 0 ∧ (rl_S M N m (N 0 4)).1 2 t = 1) ∧ (pc_sz (md_pl N K m) + pc_sz ((rl_Wc x v).filter (pc_no (md_pl N K m)))) ≤ N 20 m) ∧ N 1 m < 20) → rl_mq N K N2 K2)) → Rel M2 L2 N2 K2) := by
  refine fw_SP_of pl_X5_write (ls := [_, _, _, _, _, _]) rfl (Nat.le_of_ble_eq_true rfl) fun hA hM => ?_
  obtain ⟨ha1, ha2, ha3, ha4, ha5, ha6⟩ := hR.1
  have hn1 := hR.2.1.1.1.1
  have hn2 := hR.2.1.1.1.2.1
  refine fw_aload_n dX5_write_0 rfl rfl ?_
  refine fw_iload_n dX5_write_1 rfl rfl ?_
  refine fw_pV mX5_isMachine [_] dX5_write_2 mv_X5_isMachine lk_5_62 ⟨⟨by decide, by decide⟩, rfl, rfl, rfl, by decide, by decide⟩ ly0_0 ⟨by decide, by decide⟩ rfl rfl (Nat.le_of_ble_eq_true rfl) (sp_X5_isMachine _ _ _) ?_
  refine fw_bifeq 27 dX5_write_5 (by decide) (fun h5 => ?_) (fun h5 => ?_)
  · skip
    refine fw_iconst dX5_write_27 ⟨by decide, by decide⟩ ?_
    refine fw_iret dX5_write_28 ⟨rfl, rfl, rfl⟩ ?_
    refine ⟨(by congr 2; unfold an_write; (repeat' split) <;> omega), fun N2 K2 h => rl_md hR (h.2 (fun z => by omega))⟩
  · skip
    refine fw_iload_n dX5_write_8 rfl rfl ?_
    refine fw_pS mX5_isThing [_] dX5_write_9 mv_X5_isThing lk_5_66 ⟨⟨by decide, by decide⟩, rfl, rfl, rfl, by decide, by decide⟩ rfl rfl (Nat.le_of_ble_eq_true rfl) (sp_X5_isThing _ _ _) ?_
    refine fw_bifeq 27 dX5_write_12 (by decide) (fun h12 => ?_) (fun h12 => ?_)
    · skip
      refine fw_iconst dX5_write_27 ⟨by decide, by decide⟩ ?_
      refine fw_iret dX5_write_28 ⟨rfl, rfl, rfl⟩ ?_
      refine ⟨(by congr 2; unfold an_write; (repeat' split) <;> omega), fun N2 K2 h => rl_md hR (h.2 (fun z => by omega))⟩
    · skip
      refine fw_iload dX5_write_15 rfl ?_
      refine fw_if_lt 27 dX5_write_17 (by decide) (fun h17 => ?_) (fun h17 => ?_)
      · skip
        refine fw_iconst dX5_write_27 ⟨by decide, by decide⟩ ?_
        refine fw_iret dX5_write_28 ⟨rfl, rfl, rfl⟩ ?_
        refine ⟨(by congr 2; unfold an_write; (repeat' split) <;> omega), fun N2 K2 h => rl_md hR (h.2 (fun z => by omega))⟩
      · skip
        refine fw_iload dX5_write_20 rfl ?_
        refine fw_bipush dX5_write_22 ⟨by decide, by decide⟩ (by decide) ?_
        refine fw_icmp_le 29 dX5_write_24 (by decide) (fun h24 => ?_) (fun h24 => ?_)
        · skip
          refine fw_aload_n dX5_write_29 rfl rfl ?_
          refine fw_iload_n dX5_write_30 rfl rfl ?_
          refine fw_cV mX5_growNow [_] dX5_write_31 mv_X5_growNow lk_5_72 ⟨⟨by decide, by decide⟩, rfl, rfl, rfl, by decide, by decide⟩ ly0_0 ⟨by decide, by decide⟩ rfl rfl (Nat.le_of_ble_eq_true rfl) (rl_growNow hR (by omega)) (fun r Ma_ La_ hp hMa_ => ?_)
          obtain ⟨rfl, rfl, g1, g2⟩ := hp
          have hRa := rl_cl hR (fun k a b => ⟨g1 k a, rfl⟩)
          have hmkm := hR.2.1.1.1.2.2 m (by omega) (by omega)
          obtain ⟨e0, e1, e2, e3, -⟩ := g2.1 t (by omega) (by omega)
          obtain ⟨P, hP⟩ := rl_pcs hR
          obtain ⟨⟨p1, p2⟩, ⟨p3, p4, p5⟩, ⟨p6, p7, p8, p9⟩, q1, q2, q3, q4, q5⟩ := hP m (by omega) (by omega)
          have hkm := ps_kept (show 0 ≤ m by omega) (show m < 4 by omega)
          refine fw_aload_n dX5_write_34 rfl rfl ?_
          refine fw_getr 1 168 rfl dX5_write_35 ff_5_21 ly0_0 ⟨by decide, by decide⟩ rfl rfl (by decide) ?_
          refine fw_iload_n dX5_write_38 rfl rfl ?_
          refine fw_pV mX4_isFile [_] dX5_write_39 mv_X4_isFile lk_5_110 ⟨⟨by decide, by decide⟩, rfl, rfl, rfl, by decide, by decide⟩ ly0_168 ⟨by decide, by decide⟩ rfl rfl (Nat.le_of_ble_eq_true rfl) (sp_X4_isFile _ _ _ (by omega)) ?_
          rw [e1, e2]
          refine fw_bifne 48 dX5_write_42 (by decide) (fun h42 => ?_) (fun h42 => ?_)
          · skip
            refine fw_aload_n dX5_write_48 rfl rfl ?_
            refine fw_getr 3 191 rfl dX5_write_49 ff_5_34 ly0_0 ⟨by decide, by decide⟩ rfl rfl (by decide) ?_
            refine fw_cV mX2_empty [] dX5_write_52 mv_X2_empty lk_5_113 ⟨⟨by decide, by decide⟩, rfl, rfl, rfl, by decide, by decide⟩ ly0_191 ⟨by decide, by decide⟩ rfl rfl (Nat.le_of_ble_eq_true rfl) (sp_X2_empty 191 32 ps_191 Ma_ La_) (fun r Mb_ Lb_ hp hMb_ => ?_)
            obtain ⟨rfl, rfl, w1, w3⟩ := hp
            refine fw_aload_n dX5_write_55 rfl rfl ?_
            refine fw_getr 3 191 rfl dX5_write_56 ff_5_34 ly0_0 ⟨by decide, by decide⟩ rfl rfl (by decide) ?_
            refine fw_lload_n dX5_write_59 rfl rfl ?_
            refine fw_iload dX5_write_60 rfl ?_
            refine fw_cV mX2_addCutOf [_, _] dX5_write_62 mv_X2_addCutOf lk_5_116 ⟨⟨by decide, by decide⟩, rfl, rfl, rfl, by decide, by decide⟩ ly0_191 ⟨by decide, by decide⟩ rfl rfl (Nat.le_of_ble_eq_true rfl) (sp_X2_addCutOf 191 32 ps_191 [] Mb_ Lb_ w3 (by decide) (fun a h => by simp at h) x v (by omega) (by simp only [List.length_nil]; omega)) (fun r Mc_ Lc_ hp hMc_ => ?_)
            obtain ⟨rfl, v1, v2, v3⟩ := hp
            obtain ⟨o1, o2, o3⟩ := rl_Wc_ok x (v := v) (by omega)
            have hRc := rl_cl (M2 := Mc_) (L2 := Lc_) hR (fun k a b => ⟨by rw [v1 k (by omega) (by omega), w1 k (by omega)]; exact g1 k a, by rw [v2 k (by omega)]⟩)
            have pk := fun q (a : 0 ≤ q) (b : q < 4) => (ps_at_fr (M2 := Mc_) (L2 := Lc_) (hP q a b).1.1 ((v1 _ (by omega) (by omega)).trans ((w1 _ (by omega)).trans (g1 _ (by omega)))) ((v1 _ (by omega) (by omega)).trans ((w1 _ (by omega)).trans (g1 _ (by omega)))) (v2 _ (by omega)))
            have e197 : Mc_ 197 m = N 20 m := by rw [v1 197 (by decide) (by decide), w1 197 (by decide), g1 197 (by decide)]; exact p7
            have h4c := hRc.2.1.2.2.2 m (by omega) (by omega)
            refine fw_aload_n dX5_write_65 rfl rfl ?_
            refine fw_iload_n dX5_write_66 rfl rfl ?_
            refine fw_pV mX5_hasRoomForWanted [_] dX5_write_67 mv_X5_hasRoomForWanted lk_5_120 ⟨⟨by decide, by decide⟩, rfl, rfl, rfl, by decide, by decide⟩ ly0_0 ⟨by decide, by decide⟩ rfl rfl (Nat.le_of_ble_eq_true rfl) (sp_X5_hasRoomForWanted P (rl_Wc x v) Mc_ Lc_ v3 (by omega) o1 (fun q a b => ⟨pk q a b, (hP q a b).2.2.2.1, (hP q a b).2.1.2.2⟩) m (by omega)) ?_
            rw [pc_no_perm p3, ← q5, e197]
            refine fw_bifne 76 dX5_write_70 (by decide) (fun h70 => ?_) (fun h70 => ?_)
            · skip
              refine fw_aload_n dX5_write_76 rfl rfl ?_
              refine fw_getr 0 1 rfl dX5_write_77 ff_5_12 ly0_0 ⟨by decide, by decide⟩ rfl rfl (by decide) ?_
              refine fw_iload_n dX5_write_80 rfl rfl ?_
              refine fw_pV mX1_isFull [_] dX5_write_81 mv_X1_isFull lk_5_82 ⟨⟨by decide, by decide⟩, rfl, rfl, rfl, by decide, by decide⟩ ly0_1 ⟨by decide, by decide⟩ rfl rfl (Nat.le_of_ble_eq_true rfl) (sp_X1_isFull _ _ _ (by omega)) ?_
              refine fw_bifeq 90 dX5_write_84 (by decide) (fun h84 => ?_) (fun h84 => ?_)
              · skip
                refine fw_aload_n dX5_write_90 rfl rfl ?_
                refine fw_getr 0 1 rfl dX5_write_91 ff_5_12 ly0_0 ⟨by decide, by decide⟩ rfl rfl (by decide) ?_
                refine fw_iload_n dX5_write_94 rfl rfl ?_
                refine fw_iconst dX5_write_95 ⟨by decide, by decide⟩ ?_
                refine fw_iload_n dX5_write_96 rfl rfl ?_
                refine fw_cV mX1_append [_, _, _] dX5_write_97 mv_X1_append lk_5_85 ⟨⟨by decide, by decide⟩, rfl, rfl, rfl, by decide, by decide⟩ ly0_1 ⟨by decide, by decide⟩ rfl rfl (Nat.le_of_ble_eq_true rfl) (rl_appendC (act := 3) (su := t) hRc (by omega) (by omega)) (fun r Md_ Ld_ hp hMd_ => ?_)
                have hap := hp
                obtain ⟨rfl, rfl, a1, -⟩ := hp
                have hnum := cl_AP_num hap
                rw [h4c] at hnum a1
                rw [h4c]
                have a1b : ∀ k, 178 < k → Md_ k = Mc_ k := fun k a => a1 k (by omega) (by omega) (by omega) (by omega) (by omega) (by omega) (by omega)
                refine fw_astore (ls2 := [_, _, _, _, _, _, _]) dX5_write_100 (by decide) rfl ?_
                refine fw_aload dX5_write_102 rfl ?_
                refine fw_lload_n dX5_write_104 rfl rfl ?_
                refine fw_putl 11 rfl dX5_write_105 fp_5_123 (ly_ch (by omega) (by omega) (by omega)) (by decide) ⟨by omega, by omega⟩ rfl ?_
                refine fw_aload dX5_write_108 rfl ?_
                refine fw_iload dX5_write_110 rfl ?_
                refine fw_puti 10 rfl dX5_write_112 fp_5_127 (ly_ch (by omega) (by omega) (by omega)) (by decide) ⟨by omega, by omega⟩ rfl ?_
                refine fw_aload_n dX5_write_115 rfl rfl ?_
                refine fw_getr 2 178 rfl dX5_write_116 ff_5_27 ly0_0 ⟨by decide, by decide⟩ rfl rfl (by decide) ?_
                refine fw_iload_n dX5_write_119 rfl rfl ?_
                refine fw_aaload (179 + 3 * _) dX5_write_120 ly0_178 (Or.inr rfl) ⟨by decide, by decide⟩ ⟨by omega, by omega⟩ (rc_178 _) (by omega) ?_
                refine fw_aload_n dX5_write_121 rfl rfl ?_
                refine fw_getr 3 191 rfl dX5_write_122 ff_5_34 ly0_0 ⟨by decide, by decide⟩ rfl rfl (by decide) ?_
                refine fw_cV mX2_addAll [_] dX5_write_125 mv_X2_addAll lk_5_130 ⟨⟨by decide, by decide⟩, rfl, rfl, rfl, by decide, by decide⟩ hkm.1 ⟨by have := hkm.2.2.2.2.2; omega, by have := hkm.2.2.2.2.2; omega⟩ rfl rfl (Nat.le_of_ble_eq_true rfl) (sp_X2_addAll (179 + 3 * m) 191 200 32 hkm ps_191 (P m) (rl_Wc x v) (fw_upd Md_ (8 + 2 * (m * 20 + N 1 m)) 10 v) (fw_upl Ld_ (8 + 2 * (m * 20 + N 1 m)) 11 x) (ps_at_fr (pk m (by omega) (by omega)) (by rw [fw_updne (by omega)]; exact a1b _ (by omega)) (by rw [fw_updne (by omega)]; exact a1b _ (by omega)) (fw_uplne (by omega))) (ps_at_fr v3 (by rw [fw_updne (by omega)]; exact a1b _ (by omega)) (by rw [fw_updne (by omega)]; exact a1b _ (by omega)) (fw_uplne (by omega))) q1 (by decide) (by omega) (by decide) (by omega) p5 o1 (by rw [pc_all_eq o3, pc_sz_app, pc_no_perm p3]; omega)) (fun r Me_ Le_ hp hMe_ => ?_)
                obtain ⟨rfl, x1, x2, x3⟩ := hp
                refine fw_aload dX5_write_128 rfl ?_
                refine fw_geti 2 rfl dX5_write_130 ff_5_104 (ly_ch (by omega) (by omega) (by omega)) ⟨by omega, by omega⟩ rfl ?_
                refine fw_iret dX5_write_133 ⟨rfl, rfl, rfl⟩ ?_
                have hnum2 : Me_ (8 + 2 * (m * 20 + N 1 m)) 2 = N 1 m := by rw [x1 _ (by omega) (by omega), fw_updjn (by decide)]; exact hnum
                refine ⟨by rw [hnum2]; congr 2; unfold an_write; (repeat' split) <;> omega, fun N2 K2 h => ?_⟩
                obtain ⟨Nx, Kx, rx, hmp, hd⟩ := h.1 (by omega)
                have hk := hd.2.1
                have n1 := (hmp.1 1 (by omega)).1
                have hRp : Rel (fun k => if k = 179 + 3 * m ∨ k = 179 + 3 * m + 2 then Me_ k else Mc_ k) (fun k => if k = 179 + 3 * m + 1 then Le_ k else Ld_ k) Nx Kx := by
                  refine rl_pieces hRc (m := m) (fun k _ _ a b => if_neg (by omega)) (fun k _ _ a => if_neg a) (by omega) (ps_at_fr x3 (if_pos (Or.inl rfl)) (if_pos (Or.inr rfl)) (if_pos rfl)) hmp ?_ (pc_all_nd p4) (pc_all_ok p5 o1) ?_
                  · rw [pc_all_eq o3, pc_all_eq o3, pc_no_perm p3]; exact p3.append_right _
                  · rw [pc_all_eq o3, pc_sz_app, pc_no_perm p3, ← q5]; omega
                have hapx := cl_AP_fr (Mp := fun k => if k = 179 + 3 * m ∨ k = 179 + 3 * m + 2 then Me_ k else Mc_ k) (M1p := fun k => if k = 179 + 3 * m ∨ k = 179 + 3 * m + 2 then Me_ k else Md_ k) (Lp := fun k => if k = 179 + 3 * m + 1 then Le_ k else Ld_ k) hap (by omega) (by rw [h4c]; omega) (fun j a b => by have hl := hRc.2.1.1.2.2.2.2.1 j a b; exact ⟨hl.1, hl.2.1⟩) (fun p a b => by rw [rl_kn5 hRc (by omega) ⟨a, b⟩]; have h7 := rl_now hRc m p (by omega) (by omega) a b; have h8 := (rl_mk hRc p a b).1; omega) (fun k a => if_neg (by omega)) (fun k a => if_neg (by omega)) (fun k a => by by_cases hk2 : k = 179 + 3 * m ∨ k = 179 + 3 * m + 2; rw [if_pos hk2, if_pos hk2]; rw [if_neg hk2, if_neg hk2]; exact a1b k (by omega))
                have eMp : ∀ k, k < 179 → (fun k => if k = 179 + 3 * m ∨ k = 179 + 3 * m + 2 then Me_ k else Mc_ k) k = Mc_ k := fun k a => if_neg (by omega)
                refine rl_append (M := fun k => if k = 179 + 3 * m ∨ k = 179 + 3 * m + 2 then Me_ k else Mc_ k) (L := fun k => if k = 179 + 3 * m + 1 then Le_ k else Ld_ k) (N := Nx) hRp (by rw [hmp.2.1 2 (by decide) (by decide)]; omega) (by rw [n1]; omega) ⟨by decide, by omega, fun z => by omega, fun z => by omega, fun _ => by omega⟩ (r1 := some (fw_r (8 + 2 * (m * 20 + Mc_ 4 m)))) (M1 := fun k => if k = 179 + 3 * m ∨ k = 179 + 3 * m + 2 then Me_ k else Md_ k) (L1 := fun k => if k = 179 + 3 * m + 1 then Le_ k else Ld_ k) (wh := 3) (t := t) (into := 0) (nm := v) (kd := 0) ?_ (fun k a => ?_) (fun f a => ?_) (fun z => by omega) (fun z => by omega) (fun _ => ?_) (fun k a => ?_) (fun _ => ?_) hd (fun k a => ?_) (fun y a => ?_)
                · rw [show (if (1 : Int) = 179 + 3 * m ∨ (1 : Int) = 179 + 3 * m + 2 then Me_ 1 else Mc_ 1) = Mc_ 1 from if_neg (by omega), rl_apG_of n1 (hmp.1 2 (by omega)).1 (hmp.1 4 (by omega)).1]; exact hapx
                · rw [n1] at a
                  by_cases hk2 : k = 179 + 3 * m ∨ k = 179 + 3 * m + 2
                  · rw [if_pos hk2]
                  · rw [if_neg hk2, x1 k (by omega) (by omega), fw_updne a]
                · rw [n1, if_neg (by omega), x1 _ (by omega) (by omega), fw_updjn (by omega)]
                · rw [n1, x1 _ (by omega) (by omega), fw_updj]
                · rw [n1] at a
                  by_cases hk2 : k = 179 + 3 * m + 1
                  · rw [if_pos hk2]
                  · rw [if_neg hk2, x2 k hk2, fw_uplne a]
                · rw [n1, x2 _ (by omega), fw_uplj, hk, n1, show 20 * m + N 1 m = m * 20 + N 1 m by omega, fw_uplj]
                · rw [hk, fw_uplne a]
                · rw [hk, fw_upleq, if_neg (by omega)]
              · skip
                refine fw_bipush dX5_write_87 ⟨by decide, by decide⟩ (by decide) ?_
                refine fw_iret dX5_write_89 ⟨rfl, rfl, rfl⟩ ?_
                refine ⟨(by congr 2; unfold an_write; (repeat' split) <;> omega), fun N2 K2 h => rl_md hRc (h.2 (fun z => by omega))⟩
            · skip
              refine fw_bipush dX5_write_73 ⟨by decide, by decide⟩ (by decide) ?_
              refine fw_iret dX5_write_75 ⟨rfl, rfl, rfl⟩ ?_
              refine ⟨(by congr 2; unfold an_write; (repeat' split) <;> omega), fun N2 K2 h => rl_md hRc (h.2 (fun z => by omega))⟩
          · skip
            refine fw_bipush dX5_write_45 ⟨by decide, by decide⟩ (by decide) ?_
            refine fw_iret dX5_write_47 ⟨rfl, rfl, rfl⟩ ?_
            refine ⟨(by congr 2; unfold an_write; (repeat' split) <;> omega), fun N2 K2 h => rl_md hRa (h.2 (fun z => by omega))⟩
        · skip
          refine fw_iconst dX5_write_27 ⟨by decide, by decide⟩ ?_
          refine fw_iret dX5_write_28 ⟨rfl, rfl, rfl⟩ ?_
          refine ⟨(by congr 2; unfold an_write; (repeat' split) <;> omega), fun N2 K2 h => rl_md hR (h.2 (fun z => by omega))⟩

set_option maxRecDepth 20000 in
set_option maxHeartbeats 4000000 in
theorem pm_X6_write (M N : fw_F) (L K : fw_G) (hR : Rel M L N K) (m t : Int) (x : Int64) (v : Int) : fw_D mX6_write 5 [some (fw_r 0), some (fw_i m), some (fw_i t), some (fw_l x), none, some (fw_i v)] [] N K (fun r N2 K2 => r = some (fw_i (an_write (N 0 2) (N 1 m) (rl_S M N m (N 0 4)) m t v (pc_sz (md_pl N K m) + pc_sz ((rl_Wc x v).filter (pc_no (md_pl N K m)))) (N 20 m))) ∧ (((((0 ≤ m ∧ m < N 0 2) ∧ (0 ≤ t ∧ t < 12) ∧ (0 ≤ v ∧ v ≤ 8)) ∧ ((¬ (rl_S M N m (N 0 4)).1 1 t = 0 ∧ (rl_S M N m (N 0 4)).1 2 t = 1) ∧ (pc_sz (md_pl N K m) + pc_sz ((rl_Wc x v).filter (pc_no (md_pl N K m)))) ≤ N 20 m) ∧ N 1 m < 20) → ∃ Nx Kx r, rl_mp m (pc_all (md_pl N K m) (rl_Wc x v)) N K Nx Kx ∧ md_AP m 3 t 0 v 0 Nx (fw_upl Kx 3 (20 * m + Nx 1 m) x) r N2 K2) ∧ (¬ (((0 ≤ m ∧ m < N 0 2) ∧ (0 ≤ t ∧ t < 12) ∧ (0 ≤ v ∧ v ≤ 8)) ∧ ((¬ (rl_S M N m (N 0 4)).1 1 t = 0 ∧ (rl_S M N m (N 0 4)).1 2 t = 1) ∧ (pc_sz (md_pl N K m) + pc_sz ((rl_Wc x v).filter (pc_no (md_pl N K m)))) ≤ N 20 m) ∧ N 1 m < 20) → rl_mq N K N2 K2))) := by
  obtain ⟨ha1, ha2, ha3, ha4, ha5, ha6⟩ := hR.1
  have hn1 := hR.2.1.1.1.1
  have hn2 := hR.2.1.1.1.2.1
  refine fw_aload_n dX6_write_5 rfl rfl ?_
  refine fw_iload_n dX6_write_6 rfl rfl ?_
  refine fw_pV mX6_isMachine [_] dX6_write_7 mv_X6_isMachine lk_6_179 ⟨⟨by decide, by decide⟩, rfl, rfl, rfl, by decide, by decide⟩ ly1_0 ⟨by decide, by decide⟩ rfl rfl (Nat.le_of_ble_eq_true rfl) (sp_X6_isMachine _ _ _ (by omega)) ?_
  refine fw_bifeq 31 dX6_write_10 (by decide) (fun h10 => ?_) (fun h10 => ?_)
  · skip
    refine fw_iconst dX6_write_31 ⟨by decide, by decide⟩ ?_
    refine fw_iret dX6_write_32 ⟨rfl, rfl, rfl⟩ ?_
    refine ⟨(by congr 2; unfold an_write; (repeat' split) <;> omega), fun z => absurd z (by omega), fun _ => rl_mq_rf N K⟩
  · skip
    refine fw_iload_n dX6_write_13 rfl rfl ?_
    refine fw_pS mX6_isThing [_] dX6_write_14 mv_X6_isThing lk_6_182 ⟨⟨by decide, by decide⟩, rfl, rfl, rfl, by decide, by decide⟩ rfl rfl (Nat.le_of_ble_eq_true rfl) (sp_X6_isThing _ _ _) ?_
    refine fw_bifeq 31 dX6_write_17 (by decide) (fun h17 => ?_) (fun h17 => ?_)
    · skip
      refine fw_iconst dX6_write_31 ⟨by decide, by decide⟩ ?_
      refine fw_iret dX6_write_32 ⟨rfl, rfl, rfl⟩ ?_
      refine ⟨(by congr 2; unfold an_write; (repeat' split) <;> omega), fun z => absurd z (by omega), fun _ => rl_mq_rf N K⟩
    · skip
      refine fw_iload dX6_write_20 rfl ?_
      refine fw_iconst dX6_write_22 ⟨by decide, by decide⟩ ?_
      refine fw_bipush dX6_write_23 ⟨by decide, by decide⟩ (by decide) ?_
      refine fw_pS mX6_in [_, _, _] dX6_write_25 mv_X6_in lk_6_115 ⟨⟨by decide, by decide⟩, rfl, rfl, rfl, by decide, by decide⟩ rfl rfl (Nat.le_of_ble_eq_true rfl) (sp_X6_in _ _ _ _ _) ?_
      refine fw_bifne 33 dX6_write_28 (by decide) (fun h28 => ?_) (fun h28 => ?_)
      · skip
        refine fw_aload_n dX6_write_33 rfl rfl ?_
        refine fw_iload_n dX6_write_34 rfl rfl ?_
        refine fw_cV mX6_tellsNow [_] dX6_write_35 mv_X6_tellsNow lk_6_176 ⟨⟨by decide, by decide⟩, rfl, rfl, rfl, by decide, by decide⟩ ly1_0 ⟨by decide, by decide⟩ rfl rfl (Nat.le_of_ble_eq_true rfl) (rl_tellsNow hR (by omega)) (fun r Na_ La_ hp hNa_ => ?_)
        obtain ⟨rfl, rfl, g1, g2⟩ := hp
        have hmkm := hR.2.1.1.1.2.2 m (by omega) (by omega)
        obtain ⟨e0, e1, e2, e3, e4, e6, e7⟩ := g2.1 t (by omega) (by omega)
        have hfl := md_isFl g2.1 (rl_ti hR m (N 0 4)) (u := t) (by omega) (by omega)
        obtain ⟨P, hP⟩ := rl_pcs hR
        obtain ⟨⟨p1, p2⟩, ⟨p3, p4, p5⟩, ⟨p6, p7, p8, p9⟩, q1, q2, q3, q4, q5⟩ := hP m (by omega) (by omega)
        refine fw_aload_n dX6_write_38 rfl rfl ?_
        refine fw_iconst dX6_write_39 ⟨by decide, by decide⟩ ?_
        refine fw_puti 28 rfl dX6_write_40 fp_6_200 ly1_0 (by decide) ⟨by decide, by decide⟩ rfl ?_
        refine fw_aload_n dX6_write_43 rfl rfl ?_
        refine fw_lload_n dX6_write_44 rfl rfl ?_
        refine fw_iload dX6_write_45 rfl ?_
        refine fw_cV mX6_cuts [_, _] dX6_write_47 mv_X6_cuts lk_6_207 ⟨⟨by decide, by decide⟩, rfl, rfl, rfl, by decide, by decide⟩ ly1_0 ⟨by decide, by decide⟩ rfl rfl (Nat.le_of_ble_eq_true rfl) (sp_X6_cuts [] (fw_upd Na_ 0 28 0) La_ ⟨fw_updj, fun i a h => by simp at h⟩ (fun a h => by simp at h) x v (by omega) (by simp only [List.length_nil]; omega)) (fun r Nb_ Lb_ hp hNb_ => ?_)
        obtain ⟨rfl, f1, f2⟩ := hp
        obtain ⟨o1, o2, o3⟩ := rl_Wc_ok x (v := v) (by omega)
        have f1 := (md_fc_upd Na_ La_ 0).tr f1
        have pk := fun q (a : 0 ≤ q) (b : q < 4) => rl_pm (hP q a b).1.2 g1 f1
        have e20 : Nb_ 20 = N 20 := (f1.1 20 (by decide) (by decide)).trans (g1 20 (by decide))
        have e1b : Nb_ 1 = N 1 := (f1.1 1 (by decide) (by decide)).trans (g1 1 (by decide))
        refine fw_aload_n dX6_write_50 rfl rfl ?_
        refine fw_iload_n dX6_write_51 rfl rfl ?_
        refine fw_pV mX6_isFile [_] dX6_write_52 mv_X6_isFile lk_6_211 ⟨⟨by decide, by decide⟩, rfl, rfl, rfl, by decide, by decide⟩ ly1_0 ⟨by decide, by decide⟩ rfl rfl (Nat.le_of_ble_eq_true rfl) (sp_X6_isFile _ _ _ (by omega)) ?_
        rw [f1.1 11 (by decide) (by decide), f1.1 12 (by decide) (by decide)]
        refine fw_bifeq 78 dX6_write_55 (by decide) (fun h55 => ?_) (fun h55 => ?_)
        · skip
          refine fw_bipush dX6_write_78 ⟨by decide, by decide⟩ (by decide) ?_
          refine fw_iret dX6_write_80 ⟨rfl, rfl, rfl⟩ ?_
          refine ⟨(by congr 2; unfold an_write; (repeat' split) <;> omega), fun z => absurd z (by omega), fun _ => rl_mq_fc g1 f1⟩
        · skip
          refine fw_aload_n dX6_write_58 rfl rfl ?_
          refine fw_iload_n dX6_write_59 rfl rfl ?_
          refine fw_pV mX6_bytesAt [_] dX6_write_60 mv_X6_bytesAt lk_6_214 ⟨⟨by decide, by decide⟩, rfl, rfl, rfl, by decide, by decide⟩ ly1_0 ⟨by decide, by decide⟩ rfl rfl (Nat.le_of_ble_eq_true rfl) (sp_X6_bytesAt m (by omega) (md_pl N La_ m) Nb_ Lb_ (pk m (by omega) (by omega)) q2 q3) ?_
          have s1 := pc_sz_len q3
          have s2 := pc_sz_len (l := ((rl_Wc x v).filter (pc_no (md_pl N La_ m)))) (fun b hb => o1 b (List.mem_filter.mp hb).1)
          have s3 := List.length_filter_le (pc_no (md_pl N La_ m)) (rl_Wc x v)
          refine fw_aload_n dX6_write_63 rfl rfl ?_
          refine fw_iload_n dX6_write_64 rfl rfl ?_
          refine fw_pV mX6_lacking [_] dX6_write_65 mv_X6_lacking lk_6_218 ⟨⟨by decide, by decide⟩, rfl, rfl, rfl, by decide, by decide⟩ ly1_0 ⟨by decide, by decide⟩ rfl rfl (Nat.le_of_ble_eq_true rfl) (sp_X6_lacking m (by omega) (md_pl N La_ m) Nb_ Lb_ (pk m (by omega) (by omega)) q2 (rl_Wc x v) f2 (by omega) o1) ?_
          refine fw_iadd dX6_write_68 ⟨by omega, by omega⟩ ?_
          refine fw_aload_n dX6_write_69 rfl rfl ?_
          refine fw_getr 24 20 rfl dX6_write_70 ff_6_73 ly1_0 ⟨by decide, by decide⟩ rfl rfl (by decide) ?_
          refine fw_iload_n dX6_write_73 rfl rfl ?_
          refine fw_iaload dX6_write_74 ly1_20 ⟨by decide, by decide⟩ ⟨by omega, by omega⟩ ?_
          rw [e20]
          refine fw_icmp_le 81 dX6_write_75 (by decide) (fun h75 => ?_) (fun h75 => ?_)
          · skip
            refine fw_aload_n dX6_write_81 rfl rfl ?_
            refine fw_getr 5 1 rfl dX6_write_82 ff_6_13 ly1_0 ⟨by decide, by decide⟩ rfl rfl (by decide) ?_
            refine fw_iload_n dX6_write_85 rfl rfl ?_
            refine fw_iaload dX6_write_86 ly1_1 ⟨by decide, by decide⟩ ⟨by omega, by omega⟩ ?_
            rw [e1b]
            refine fw_bipush dX6_write_87 ⟨by decide, by decide⟩ (by decide) ?_
            refine fw_icmp_ne 95 dX6_write_89 (by decide) (fun h89 => ?_) (fun h89 => ?_)
            · skip
              refine fw_aload_n dX6_write_95 rfl rfl ?_
              refine fw_iload_n dX6_write_96 rfl rfl ?_
              refine fw_cV mX6_takes [_] dX6_write_97 mv_X6_takes lk_6_221 ⟨⟨by decide, by decide⟩, rfl, rfl, rfl, by decide, by decide⟩ ly1_0 ⟨by decide, by decide⟩ rfl rfl (Nat.le_of_ble_eq_true rfl) (sp_X6_takes m (by omega) (md_pl N La_ m) Nb_ Lb_ (pk m (by omega) (by omega)) (rl_Wc x v) f2 (by omega) q3 o1 (by rw [pc_all_eq o3, pc_sz_app]; omega)) (fun r Nc_ Lc_ hp hNc_ => ?_)
              obtain ⟨rfl, x1, x2, x3, x4, x5⟩ := hp
              have e1c : Nc_ 1 = N 1 := (x2 1 (by decide) (by decide)).trans e1b
              have hmp : rl_mp m (pc_all (md_pl N La_ m) (rl_Wc x v)) N La_ Nc_ Lc_ := by
                refine ⟨fun k a => ⟨?_, ?_⟩, fun j a b => ?_, ?_, x1, fun u a b e => pm_at_ot (hP u a b).2.2.2.2.1 e (pk u a b) (x4 u e) x5⟩
                · rw [x2 k (by omega) (by omega), f1.1 k (by omega) (by omega)]; exact g1 k (by omega)
                · rw [x3 k (by omega)]; exact f1.2.2 k (by omega)
                · rw [x2 0 (by decide) (by decide), f1.2.1 j b, g1 0 (by decide)]
                · rw [x3 0 (by decide)]; exact f1.2.2 0 (by decide)
              have e1m : Nc_ 1 m = N 1 m := by rw [e1c]
              refine fw_aload_n dX6_write_100 rfl rfl ?_
              refine fw_getr 7 3 rfl dX6_write_101 ff_6_20 ly1_0 ⟨by decide, by decide⟩ rfl rfl (by decide) ?_
              refine fw_bipush dX6_write_104 ⟨by decide, by decide⟩ (by decide) ?_
              refine fw_iload_n dX6_write_106 rfl rfl ?_
              refine fw_imul dX6_write_107 ⟨by omega, by omega⟩ ?_
              refine fw_aload_n dX6_write_108 rfl rfl ?_
              refine fw_getr 5 1 rfl dX6_write_109 ff_6_13 ly1_0 ⟨by decide, by decide⟩ rfl rfl (by decide) ?_
              refine fw_iload_n dX6_write_112 rfl rfl ?_
              refine fw_iaload dX6_write_113 ly1_1 ⟨by decide, by decide⟩ ⟨by omega, by omega⟩ ?_
              refine fw_iadd dX6_write_114 ⟨by omega, by omega⟩ ?_
              refine fw_lload_n dX6_write_115 rfl rfl ?_
              refine fw_lastore dX6_write_116 ly1_3 (by decide) ⟨by decide, by decide⟩ ⟨by omega, by omega⟩ ?_
              refine fw_aload_n dX6_write_117 rfl rfl ?_
              refine fw_iload_n dX6_write_118 rfl rfl ?_
              refine fw_iconst dX6_write_119 ⟨by decide, by decide⟩ ?_
              refine fw_iload_n dX6_write_120 rfl rfl ?_
              refine fw_iconst dX6_write_121 ⟨by decide, by decide⟩ ?_
              refine fw_iload dX6_write_122 rfl ?_
              refine fw_iconst dX6_write_124 ⟨by decide, by decide⟩ ?_
              refine fw_cV mX6_makes [_, _, _, _, _, _] dX6_write_125 mv_X6_makes lk_6_188 ⟨⟨by decide, by decide⟩, rfl, rfl, rfl, by decide, by decide⟩ ly1_0 ⟨by decide, by decide⟩ rfl rfl (Nat.le_of_ble_eq_true rfl) (rl_makes (wh := 3) (t := t) (into := 0) (nm := v) (kd := 0) hR (by omega) (by omega) (hmp.2.1 2 (by decide) (by decide)) e1c (hmp.1 2 (by omega)).1 (hmp.1 4 (by omega)).1) (fun r Ne_ Le_ hp hNe_ => ?_)
              have had := hp
              obtain ⟨rfl, -⟩ := hp
              refine fw_iret dX6_write_128 ⟨rfl, rfl, rfl⟩ ?_
              refine ⟨by rw [e1m]; congr 2; unfold an_write; (repeat' split) <;> omega, fun _ => ⟨Nc_, Lc_, _, hmp, had⟩, fun z => absurd (by omega) z⟩
            · skip
              refine fw_bipush dX6_write_92 ⟨by decide, by decide⟩ (by decide) ?_
              refine fw_iret dX6_write_94 ⟨rfl, rfl, rfl⟩ ?_
              refine ⟨(by congr 2; unfold an_write; (repeat' split) <;> omega), fun z => absurd z (by omega), fun _ => rl_mq_fc g1 f1⟩
          · skip
            refine fw_bipush dX6_write_78 ⟨by decide, by decide⟩ (by decide) ?_
            refine fw_iret dX6_write_80 ⟨rfl, rfl, rfl⟩ ?_
            refine ⟨(by congr 2; unfold an_write; (repeat' split) <;> omega), fun z => absurd z (by omega), fun _ => rl_mq_fc g1 f1⟩
      · skip
        refine fw_iconst dX6_write_31 ⟨by decide, by decide⟩ ?_
        refine fw_iret dX6_write_32 ⟨rfl, rfl, rfl⟩ ?_
        refine ⟨(by congr 2; unfold an_write; (repeat' split) <;> omega), fun z => absurd z (by omega), fun _ => rl_mq_rf N K⟩

set_option maxRecDepth 20000 in
set_option maxHeartbeats 4000000 in
theorem sp_X6_write (M N : fw_F) (L K : fw_G) (hR : Rel M L (fw_upd N 0 0 0) K) (m t : Int) (x : Int64) (v : Int) : fw_SD mX6_write [fw_r 0, fw_i m, fw_i t, fw_l x, fw_i v] N K (fun r N2 K2 => r = some (fw_i (an_write ((fw_upd N 0 0 0) 0 2) ((fw_upd N 0 0 0) 1 m) (rl_S M (fw_upd N 0 0 0) m ((fw_upd N 0 0 0) 0 4)) m t v (pc_sz (md_pl (fw_upd N 0 0 0) K m) + pc_sz ((rl_Wc x v).filter (pc_no (md_pl (fw_upd N 0 0 0) K m)))) ((fw_upd N 0 0 0) 20 m))) ∧ (((((0 ≤ m ∧ m < (fw_upd N 0 0 0) 0 2) ∧ (0 ≤ t ∧ t < 12) ∧ (0 ≤ v ∧ v ≤ 8)) ∧ ((¬ (rl_S M (fw_upd N 0 0 0) m ((fw_upd N 0 0 0) 0 4)).1 1 t = 0 ∧ (rl_S M (fw_upd N 0 0 0) m ((fw_upd N 0 0 0) 0 4)).1 2 t = 1) ∧ (pc_sz (md_pl (fw_upd N 0 0 0) K m) + pc_sz ((rl_Wc x v).filter (pc_no (md_pl (fw_upd N 0 0 0) K m)))) ≤ (fw_upd N 0 0 0) 20 m) ∧ (fw_upd N 0 0 0) 1 m < 20) → ∃ Nx Kx r, rl_mp m (pc_all (md_pl (fw_upd N 0 0 0) K m) (rl_Wc x v)) (fw_upd N 0 0 0) K Nx Kx ∧ md_AP m 3 t 0 v 0 Nx (fw_upl Kx 3 (20 * m + Nx 1 m) x) r N2 K2) ∧ (¬ (((0 ≤ m ∧ m < (fw_upd N 0 0 0) 0 2) ∧ (0 ≤ t ∧ t < 12) ∧ (0 ≤ v ∧ v ≤ 8)) ∧ ((¬ (rl_S M (fw_upd N 0 0 0) m ((fw_upd N 0 0 0) 0 4)).1 1 t = 0 ∧ (rl_S M (fw_upd N 0 0 0) m ((fw_upd N 0 0 0) 0 4)).1 2 t = 1) ∧ (pc_sz (md_pl (fw_upd N 0 0 0) K m) + pc_sz ((rl_Wc x v).filter (pc_no (md_pl (fw_upd N 0 0 0) K m)))) ≤ (fw_upd N 0 0 0) 20 m) ∧ (fw_upd N 0 0 0) 1 m < 20) → rl_mq (fw_upd N 0 0 0) K N2 K2))) := by
  refine fw_SP_of pl_X6_write (ls := [_, _, _, _, _, _]) rfl (Nat.le_of_ble_eq_true rfl) fun hA hM => ?_
  refine fw_aload_n dX6_write_0 rfl rfl ?_
  refine fw_iconst dX6_write_1 ⟨by decide, by decide⟩ ?_
  refine fw_puti 0 rfl dX6_write_2 fp_6_106 ly1_0 (by decide) ⟨by decide, by decide⟩ rfl ?_
  exact pm_X6_write M (fw_upd N 0 0 0) L K hR m t x v
