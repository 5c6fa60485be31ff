/-! make -/
def rl_nw (N : fw_F) (m t : Int) : Prop := ∃ x, ab_lv (N 1) x ∧ x % 20 < N 4 (4 * m + x / 20) ∧ md_G N x 0 = 0 ∧ md_G N x 1 = t
noncomputable def ab_lu (P : Int → Prop) : Int := Classical.epsilon (fun q : Int => (1 ≤ q ∧ q ≤ 12) ∧ (∀ t, 1 ≤ t → t < q → P t) ∧ (q < 12 → ¬ P q))
theorem ab_lu_of {P : Int → Prop} {q : Int} (h : (1 ≤ q ∧ q ≤ 12) ∧ (∀ t, 1 ≤ t → t < q → P t) ∧ (q < 12 → ¬ P q)) : q = ab_lu P := by
  have hs := Classical.epsilon_spec (p := fun q : Int => (1 ≤ q ∧ q ≤ 12) ∧ (∀ t, 1 ≤ t → t < q → P t) ∧ (q < 12 → ¬ P q)) ⟨q, h⟩
  obtain ⟨a1, a2, a3⟩ := h
  obtain ⟨b1, b2, b3⟩ := hs
  rcases Int.lt_trichotomy q (ab_lu P) with c | c | c
  · exact absurd (b2 q a1.1 c) (a3 (by have h9 : ab_lu P ≤ 12 := b1.2; omega))
  · exact c
  · exact absurd (a2 _ b1.1 c) (b3 (by have h9 := a1.2; have h8 : ab_lu P < q := c; show ab_lu P < 12; omega))
theorem rl_nwC {M N : fw_F} {L K : fw_G} (hR : Rel M L N K) {m t : Int} (hm : 0 ≤ m ∧ m < 4) : (∃ i, 0 ≤ i ∧ i < M 1 6 ∧ M (8 + 2 * M 3 i) 3 = 0 ∧ M (8 + 2 * M 3 i) 2 < M 5 ((M 1 7 * 4 + m) * 4 + M (8 + 2 * M 3 i) 1) ∧ M (8 + 2 * M 3 i) 4 = t) ↔ rl_nw N m t := by
  have key : ∀ x, ab_lv (N 1) x → (M (8 + 2 * x) 3 = md_G N x 0 ∧ M (8 + 2 * x) 2 = x % 20 ∧ M 5 ((M 1 7 * 4 + m) * 4 + M (8 + 2 * x) 1) = N 4 (4 * m + x / 20) ∧ M (8 + 2 * x) 4 = md_G N x 1) := fun x hx => by
    obtain ⟨⟨w1, w2, w3, w4, w5, w6⟩, -⟩ := hR.2.1.2.1 x hx
    have h0 := hx.1
    have h1 := hx.2.1
    exact ⟨w3, w2, by rw [w1]; exact rl_kn5 hR hm ⟨by omega, by omega⟩, w4⟩
  constructor
  · rintro ⟨i, i0, i1, i2, i3, i4⟩
    have hl := hR.2.1.1.2.2.2.2.1 i i0 i1
    obtain ⟨k1, k2, k3, k4⟩ := key _ hl
    rw [k1] at i2
    rw [k2, k3] at i3
    rw [k4] at i4
    exact ⟨M 3 i, hl, i3, i2, i4⟩
  · rintro ⟨x, hl, i3, i2, i4⟩
    obtain ⟨j, j0, j1, j2⟩ := hR.2.1.1.2.2.2.2.2.2.1 x hl
    obtain ⟨k1, k2, k3, k4⟩ := key x hl
    refine ⟨j, j0, j1, ?_⟩
    rw [j2, k1, k2, k3, k4]
    exact ⟨i2, i3, i4⟩
theorem rl_nwM {M N Nx : fw_F} {L K : fw_G} (hR : Rel M L N K) {m t : Int} (hm : 0 ≤ m ∧ m < 4) (e0 : Nx 0 2 = N 0 2) (e2 : Nx 2 = N 2) (e4 : Nx 4 = N 4) : (∃ p i, 0 ≤ p ∧ p < Nx 0 2 ∧ 0 ≤ i ∧ i < Nx 4 (4 * m + p) ∧ md_G Nx (20 * p + i) 0 = 0 ∧ md_G Nx (20 * p + i) 1 = t) ↔ rl_nw N m t := by
  rw [e0, e4, md_G_of e2]
  have hn2 := hR.2.1.1.1.2.1
  constructor
  · rintro ⟨p, i, p0, p1, i0, i1, i2, i3⟩
    have h7 := rl_now hR m p hm.1 hm.2 p0 (by omega)
    have h8 := (rl_mk hR p p0 (by omega)).1
    refine ⟨20 * p + i, ab_lv_of p0 (by omega) i0 (by omega) h8, ?_, i2, i3⟩
    rw [show (20 * p + i) % 20 = i by omega, show (20 * p + i) / 20 = p by omega]
    exact i1
  · rintro ⟨x, hl, x1, x2, x3⟩
    have h0 := hl.1
    have h1 := hl.2.1
    refine ⟨x / 20, x % 20, by omega, ?_, by omega, x1, ?_, ?_⟩
    · rcases Int.lt_or_le (x / 20) (N 0 2) with c | c
      · exact c
      · have h9 := (rl_mk hR (x / 20) (by omega) (by omega)).2 c
        have h8 := hl.2.2
        omega
    · rw [show 20 * (x / 20) + x % 20 = x by omega]; exact x2
    · rw [show 20 * (x / 20) + x % 20 = x by omega]; exact x3
theorem rl_nw_ne {M N : fw_F} {L K : fw_G} (hR : Rel M L N K) {m f q : Int} (hf : 0 ≤ f ∧ f < 12) (hF : ¬ (rl_S M N m (N 0 4)).1 1 f = 0) (hq : 1 ≤ q) (hn : ¬ rl_nw N m q) : ¬ q = f := by
  intro e
  subst e
  have h1 := (ti_there (rl_ti hR m (N 0 4)) (t := q) hf).2 hF
  obtain ⟨i, i1, i2, i3, i4⟩ := ab_TT_made _ q hq h1
  have hT := ab_T80 hR.2.1.1
  have hl := hR.2.1.1.2.2.2.2.1 i (by omega) (by omega)
  rw [rl_kn_now] at i2
  exact hn ⟨M 3 i, hl, i2, i3, i4⟩
theorem rl_nw12 {M N : fw_F} {L K : fw_G} (hR : Rel M L N K) {m t : Int} (h : rl_nw N m t) : t ≤ 11 := by
  obtain ⟨x, hl, x1, x2, x3⟩ := h
  have := (hR.2.1.1.2.1 x hl).2.1.2
  omega
noncomputable def rl_lu (N : fw_F) (m : Int) : Int := ab_lu (rl_nw N m)
def an_make (n km : Int) (S : ab_S) (lu m k f nm : Int) : Int := if ¬ ((0 ≤ m ∧ m < n) ∧ (k = 1 ∨ k = 2) ∧ (0 ≤ f ∧ f < 12) ∧ (0 ≤ nm ∧ nm < 10)) then -1 else if ¬ (¬ S.1 1 f = 0 ∧ S.1 2 f = 2) then -2 else if 12 ≤ lu ∨ 20 ≤ km then -3 else lu

set_option maxRecDepth 20000 in
set_option maxHeartbeats 4000000 in
theorem sp_X5_make (M N : fw_F) (L K : fw_G) (hR : Rel M L N K) (m k f nm : Int) : fw_SC mX5_make [fw_r 0, fw_i m, fw_i k, fw_i f, fw_i nm] M L (fun r M2 L2 => r = some (fw_i (an_make (N 0 2) (N 1 m) (rl_S M N m (N 0 4)) (rl_lu N m) m k f nm)) ∧ ∀ N2 K2, (((((0 ≤ m ∧ m < N 0 2) ∧ (k = 1 ∨ k = 2) ∧ (0 ≤ f ∧ f < 12) ∧ (0 ≤ nm ∧ nm < 10)) ∧ (¬ (rl_S M N m (N 0 4)).1 1 f = 0 ∧ (rl_S M N m (N 0 4)).1 2 f = 2) ∧ rl_lu N m < 12 ∧ N 1 m < 20) → ∃ Nx r, rl_mq N K Nx K ∧ md_AP m 0 (rl_lu N m) f nm k Nx K r N2 K2) ∧ (¬ (((0 ≤ m ∧ m < N 0 2) ∧ (k = 1 ∨ k = 2) ∧ (0 ≤ f ∧ f < 12) ∧ (0 ≤ nm ∧ nm < 10)) ∧ (¬ (rl_S M N m (N 0 4)).1 1 f = 0 ∧ (rl_S M N m (N 0 4)).1 2 f = 2) ∧ rl_lu N m < 12 ∧ N 1 m < 20) → rl_mq N K N2 K2)) → Rel M2 L2 N2 K2) := by
  refine fw_SP_of pl_X5_make (ls := [_, _, _, _, _]) rfl (Nat.le_of_ble_eq_true rfl) fun hA hM => ?_
  obtain ⟨ha1, ha2, ha3, ha4, ha5, ha6⟩ := hR.1
  have hn1 := hR.2.1.1.1.1
  have hn2 := hR.2.1.1.1.2.1
  refine fw_aload_n dX5_make_0 rfl rfl ?_
  refine fw_iload_n dX5_make_1 rfl rfl ?_
  refine fw_pV mX5_isMachine [_] dX5_make_2 mv_X5_isMachine lk_5_62 ⟨⟨by decide, by decide⟩, rfl, rfl, rfl, by decide, by decide⟩ ly0_0 ⟨by decide, by decide⟩ rfl rfl (Nat.le_of_ble_eq_true rfl) (sp_X5_isMachine _ _ _) ?_
  refine fw_bifeq 33 dX5_make_5 (by decide) (fun h5 => ?_) (fun h5 => ?_)
  · skip
    refine fw_iconst dX5_make_33 ⟨by decide, by decide⟩ ?_
    refine fw_iret dX5_make_34 ⟨rfl, rfl, rfl⟩ ?_
    refine ⟨(by congr 2; unfold an_make; (repeat' split) <;> omega), fun N2 K2 h => rl_md hR (h.2 (fun z => by omega))⟩
  · skip
    refine fw_iload_n dX5_make_8 rfl rfl ?_
    refine fw_iconst dX5_make_9 ⟨by decide, by decide⟩ ?_
    refine fw_icmp_eq 18 dX5_make_10 (by decide) (fun h10 => ?_) (fun h10 => ?_)
    · skip
      refine fw_iload_n dX5_make_18 rfl rfl ?_
      refine fw_pS mX5_isThing [_] dX5_make_19 mv_X5_isThing lk_5_66 ⟨⟨by decide, by decide⟩, rfl, rfl, rfl, by decide, by decide⟩ rfl rfl (Nat.le_of_ble_eq_true rfl) (sp_X5_isThing _ _ _) ?_
      refine fw_bifeq 33 dX5_make_22 (by decide) (fun h22 => ?_) (fun h22 => ?_)
      · skip
        refine fw_iconst dX5_make_33 ⟨by decide, by decide⟩ ?_
        refine fw_iret dX5_make_34 ⟨rfl, rfl, rfl⟩ ?_
        refine ⟨(by congr 2; unfold an_make; (repeat' split) <;> omega), fun N2 K2 h => rl_md hR (h.2 (fun z => by omega))⟩
      · skip
        refine fw_iload dX5_make_25 rfl ?_
        refine fw_pS mX5_isOwnName [_] dX5_make_27 mv_X5_isOwnName lk_5_69 ⟨⟨by decide, by decide⟩, rfl, rfl, rfl, by decide, by decide⟩ rfl rfl (Nat.le_of_ble_eq_true rfl) (sp_X5_isOwnName _ _ _) ?_
        refine fw_bifne 35 dX5_make_30 (by decide) (fun h30 => ?_) (fun h30 => ?_)
        · skip
          refine fw_aload_n dX5_make_35 rfl rfl ?_
          refine fw_iload_n dX5_make_36 rfl rfl ?_
          refine fw_cV mX5_growNow [_] dX5_make_37 mv_X5_growNow lk_5_72 ⟨⟨by decide, by decide⟩, rfl, rfl, rfl, by decide, by decide⟩ ly0_0 ⟨by decide, by decide⟩ rfl rfl (Nat.le_of_ble_eq_true rfl) (rl_growNow hR (by omega)) (fun r Ma_ La_ hp hMa_ => ?_)
          obtain ⟨rfl, rfl, g1, g2⟩ := hp
          have hRa := rl_cl hR (fun k a b => ⟨g1 k a, rfl⟩)
          have h4m := hRa.2.1.2.2.2 m (by omega) (by omega)
          have hmkm := hR.2.1.1.1.2.2 m (by omega) (by omega)
          obtain ⟨f0, f1, f2, f3, -⟩ := g2.1 f (by omega) (by omega)
          refine fw_aload_n dX5_make_40 rfl rfl ?_
          refine fw_getr 1 168 rfl dX5_make_41 ff_5_21 ly0_0 ⟨by decide, by decide⟩ rfl rfl (by decide) ?_
          refine fw_iload_n dX5_make_44 rfl rfl ?_
          refine fw_pV mX4_isFolder [_] dX5_make_45 mv_X4_isFolder lk_5_75 ⟨⟨by decide, by decide⟩, rfl, rfl, rfl, by decide, by decide⟩ ly0_168 ⟨by decide, by decide⟩ rfl rfl (Nat.le_of_ble_eq_true rfl) (sp_X4_isFolder _ _ _ (by omega)) ?_
          rw [f1, f2]
          refine fw_bifne 54 dX5_make_48 (by decide) (fun h48 => ?_) (fun h48 => ?_)
          · skip
            refine fw_aload_n dX5_make_54 rfl rfl ?_
            refine fw_getr 0 1 rfl dX5_make_55 ff_5_12 ly0_0 ⟨by decide, by decide⟩ rfl rfl (by decide) ?_
            refine fw_iload_n dX5_make_58 rfl rfl ?_
            refine fw_cV mX1_leastUnmade [_] dX5_make_59 mv_X1_leastUnmade lk_5_78 ⟨⟨by decide, by decide⟩, rfl, rfl, rfl, by decide, by decide⟩ ly0_1 ⟨by decide, by decide⟩ rfl rfl (Nat.le_of_ble_eq_true rfl) (sp_X1_leastUnmade m Ma_ La_ (by omega) (by rw [g1 1 (by decide), ha4]; exact ha5) (ab_T80 hRa.2.1.1) (fun i a b => by have hlv := hRa.2.1.1.2.2.2.2.1 i a b; obtain ⟨⟨w1, w2, w3, w4, w5, w6⟩, -⟩ := hRa.2.1.2.1 _ hlv; have hr := (hRa.2.1.1.2.1 _ hlv).2.1; have h7 := hlv.1; have h8 := hlv.2.1; exact ⟨⟨h7, h8⟩, by rw [w1]; omega, by rw [w4]; omega⟩)) (fun r Mb_ Lb_ hp hMb_ => ?_)
            obtain ⟨hM9, hL9, q, rfl, s1, s2, s3⟩ := hp
            rw [hM9, hL9]
            have hlu : q = rl_lu N m := ab_lu_of ⟨s1, fun t a b => (rl_nwC hRa (by omega)).mp (s2 t a b), fun a z => s3 a ((rl_nwC hRa (by omega)).mpr z)⟩
            have hqn : q < 12 → ¬ rl_nw N m q := fun a z => s3 a ((rl_nwC hRa (by omega)).mpr z)
            refine fw_istore (ls2 := [_, _, _, _, _, _]) dX5_make_62 (by decide) rfl ?_
            refine fw_iload dX5_make_64 rfl ?_
            refine fw_bipush dX5_make_66 ⟨by decide, by decide⟩ (by decide) ?_
            refine fw_icmp_ge 82 dX5_make_68 (by decide) (fun h68 => ?_) (fun h68 => ?_)
            · skip
              refine fw_bipush dX5_make_82 ⟨by decide, by decide⟩ (by decide) ?_
              refine fw_iret dX5_make_84 ⟨rfl, rfl, rfl⟩ ?_
              refine ⟨(by congr 2; unfold an_make; (repeat' split) <;> omega), fun N2 K2 h => rl_md hRa (h.2 (fun z => by omega))⟩
            · skip
              refine fw_aload_n dX5_make_71 rfl rfl ?_
              refine fw_getr 0 1 rfl dX5_make_72 ff_5_12 ly0_0 ⟨by decide, by decide⟩ rfl rfl (by decide) ?_
              refine fw_iload_n dX5_make_75 rfl rfl ?_
              refine fw_pV mX1_isFull [_] dX5_make_76 mv_X1_isFull lk_5_82 ⟨⟨by decide, by decide⟩, rfl, rfl, rfl, by decide, by decide⟩ ly0_1 ⟨by decide, by decide⟩ rfl rfl (Nat.le_of_ble_eq_true rfl) (sp_X1_isFull _ _ _ (by omega)) ?_
              refine fw_bifeq 85 dX5_make_79 (by decide) (fun h79 => ?_) (fun h79 => ?_)
              · skip
                refine fw_aload_n dX5_make_85 rfl rfl ?_
                refine fw_getr 0 1 rfl dX5_make_86 ff_5_12 ly0_0 ⟨by decide, by decide⟩ rfl rfl (by decide) ?_
                refine fw_iload_n dX5_make_89 rfl rfl ?_
                refine fw_iconst dX5_make_90 ⟨by decide, by decide⟩ ?_
                refine fw_iload dX5_make_91 rfl ?_
                refine fw_cV mX1_append [_, _, _] dX5_make_93 mv_X1_append lk_5_85 ⟨⟨by decide, by decide⟩, rfl, rfl, rfl, by decide, by decide⟩ ly0_1 ⟨by decide, by decide⟩ rfl rfl (Nat.le_of_ble_eq_true rfl) (rl_appendC (act := 0) (su := q) hRa (by omega) (by omega)) (fun r Mc_ Lc_ hp hMc_ => ?_)
                have hap := hp
                obtain ⟨rfl, rfl, -⟩ := hp
                have hnum := cl_AP_num hap
                rw [h4m] at hnum
                rw [h4m]
                refine fw_astore (ls2 := [_, _, _, _, _, _, _]) dX5_make_96 (by decide) rfl ?_
                refine fw_aload dX5_make_98 rfl ?_
                refine fw_iload_n dX5_make_100 rfl rfl ?_
                refine fw_puti 7 rfl dX5_make_101 fp_5_89 (ly_ch (by omega) (by omega) (by omega)) (by decide) ⟨by omega, by omega⟩ rfl ?_
                refine fw_aload dX5_make_104 rfl ?_
                refine fw_iload_n dX5_make_106 rfl rfl ?_
                refine fw_puti 8 rfl dX5_make_107 fp_5_94 (ly_ch (by omega) (by omega) (by omega)) (by decide) ⟨by omega, by omega⟩ rfl ?_
                refine fw_aload dX5_make_110 rfl ?_
                refine fw_iload dX5_make_112 rfl ?_
                refine fw_puti 9 rfl dX5_make_114 fp_5_97 (ly_ch (by omega) (by omega) (by omega)) (by decide) ⟨by omega, by omega⟩ rfl ?_
                refine fw_iload dX5_make_117 rfl ?_
                refine fw_iret dX5_make_119 ⟨rfl, rfl, rfl⟩ ?_
                refine ⟨by rw [hlu]; congr 2; unfold an_make; (repeat' split) <;> omega, fun N2 K2 h => ?_⟩
                obtain ⟨Nx, rx, hq, hd⟩ := h.1 (by omega)
                have hk := hd.2.1
                rw [hlu] at hap
                exact rl_append_q hRa (by omega) (by omega) ⟨by decide, by omega, fun _ => by omega, fun _ => ⟨by omega, rl_nw_ne (m := m) hR (by omega) (by omega) (by omega) (by rw [← hlu]; exact hqn (by omega)), by omega, by omega⟩, fun z => by omega⟩ hap (fun k a => by rw [fw_updne a, fw_updne a, fw_updne a]) (fun f a => by rw [fw_updjn (by omega), fw_updjn (by omega), fw_updjn (by omega)]) (fun _ => by rw [fw_updjn (by decide), fw_updjn (by decide), fw_updj]) (fun _ => ⟨by rw [fw_updjn (by decide), fw_updj], fw_updj⟩) (fun z => by omega) (fun _ _ => rfl) (fun z => by omega) hq hd (fun k _ => by rw [hk]) (fun y _ => by rw [hk])
              · skip
                refine fw_bipush dX5_make_82 ⟨by decide, by decide⟩ (by decide) ?_
                refine fw_iret dX5_make_84 ⟨rfl, rfl, rfl⟩ ?_
                refine ⟨(by congr 2; unfold an_make; (repeat' split) <;> omega), fun N2 K2 h => rl_md hRa (h.2 (fun z => by omega))⟩
          · skip
            refine fw_bipush dX5_make_51 ⟨by decide, by decide⟩ (by decide) ?_
            refine fw_iret dX5_make_53 ⟨rfl, rfl, rfl⟩ ?_
            refine ⟨(by congr 2; unfold an_make; (repeat' split) <;> omega), fun N2 K2 h => rl_md hRa (h.2 (fun z => by omega))⟩
        · skip
          refine fw_iconst dX5_make_33 ⟨by decide, by decide⟩ ?_
          refine fw_iret dX5_make_34 ⟨rfl, rfl, rfl⟩ ?_
          refine ⟨(by congr 2; unfold an_make; (repeat' split) <;> omega), fun N2 K2 h => rl_md hR (h.2 (fun z => by omega))⟩
    · skip
      refine fw_iload_n dX5_make_13 rfl rfl ?_
      refine fw_iconst dX5_make_14 ⟨by decide, by decide⟩ ?_
      refine fw_icmp_ne 33 dX5_make_15 (by decide) (fun h15 => ?_) (fun h15 => ?_)
      · skip
        refine fw_iconst dX5_make_33 ⟨by decide, by decide⟩ ?_
        refine fw_iret dX5_make_34 ⟨rfl, rfl, rfl⟩ ?_
        refine ⟨(by congr 2; unfold an_make; (repeat' split) <;> omega), fun N2 K2 h => rl_md hR (h.2 (fun z => by omega))⟩
      · skip
        refine fw_iload_n dX5_make_18 rfl rfl ?_
        refine fw_pS mX5_isThing [_] dX5_make_19 mv_X5_isThing lk_5_66 ⟨⟨by decide, by decide⟩, rfl, rfl, rfl, by decide, by decide⟩ rfl rfl (Nat.le_of_ble_eq_true rfl) (sp_X5_isThing _ _ _) ?_
        refine fw_bifeq 33 dX5_make_22 (by decide) (fun h22 => ?_) (fun h22 => ?_)
        · skip
          refine fw_iconst dX5_make_33 ⟨by decide, by decide⟩ ?_
          refine fw_iret dX5_make_34 ⟨rfl, rfl, rfl⟩ ?_
          refine ⟨(by congr 2; unfold an_make; (repeat' split) <;> omega), fun N2 K2 h => rl_md hR (h.2 (fun z => by omega))⟩
        · skip
          refine fw_iload dX5_make_25 rfl ?_
          refine fw_pS mX5_isOwnName [_] dX5_make_27 mv_X5_isOwnName lk_5_69 ⟨⟨by decide, by decide⟩, rfl, rfl, rfl, by decide, by decide⟩ rfl rfl (Nat.le_of_ble_eq_true rfl) (sp_X5_isOwnName _ _ _) ?_
          refine fw_bifne 35 dX5_make_30 (by decide) (fun h30 => ?_) (fun h30 => ?_)
          · skip
            refine fw_aload_n dX5_make_35 rfl rfl ?_
            refine fw_iload_n dX5_make_36 rfl rfl ?_
            refine fw_cV mX5_growNow [_] dX5_make_37 mv_X5_growNow lk_5_72 ⟨⟨by decide, by decide⟩, rfl, rfl, rfl, by decide, by decide⟩ ly0_0 ⟨by decide, by decide⟩ rfl rfl (Nat.le_of_ble_eq_true rfl) (rl_growNow hR (by omega)) (fun r Ma_ La_ hp hMa_ => ?_)
            obtain ⟨rfl, rfl, g1, g2⟩ := hp
            have hRa := rl_cl hR (fun k a b => ⟨g1 k a, rfl⟩)
            have h4m := hRa.2.1.2.2.2 m (by omega) (by omega)
            have hmkm := hR.2.1.1.1.2.2 m (by omega) (by omega)
            obtain ⟨f0, f1, f2, f3, -⟩ := g2.1 f (by omega) (by omega)
            refine fw_aload_n dX5_make_40 rfl rfl ?_
            refine fw_getr 1 168 rfl dX5_make_41 ff_5_21 ly0_0 ⟨by decide, by decide⟩ rfl rfl (by decide) ?_
            refine fw_iload_n dX5_make_44 rfl rfl ?_
            refine fw_pV mX4_isFolder [_] dX5_make_45 mv_X4_isFolder lk_5_75 ⟨⟨by decide, by decide⟩, rfl, rfl, rfl, by decide, by decide⟩ ly0_168 ⟨by decide, by decide⟩ rfl rfl (Nat.le_of_ble_eq_true rfl) (sp_X4_isFolder _ _ _ (by omega)) ?_
            rw [f1, f2]
            refine fw_bifne 54 dX5_make_48 (by decide) (fun h48 => ?_) (fun h48 => ?_)
            · skip
              refine fw_aload_n dX5_make_54 rfl rfl ?_
              refine fw_getr 0 1 rfl dX5_make_55 ff_5_12 ly0_0 ⟨by decide, by decide⟩ rfl rfl (by decide) ?_
              refine fw_iload_n dX5_make_58 rfl rfl ?_
              refine fw_cV mX1_leastUnmade [_] dX5_make_59 mv_X1_leastUnmade lk_5_78 ⟨⟨by decide, by decide⟩, rfl, rfl, rfl, by decide, by decide⟩ ly0_1 ⟨by decide, by decide⟩ rfl rfl (Nat.le_of_ble_eq_true rfl) (sp_X1_leastUnmade m Ma_ La_ (by omega) (by rw [g1 1 (by decide), ha4]; exact ha5) (ab_T80 hRa.2.1.1) (fun i a b => by have hlv := hRa.2.1.1.2.2.2.2.1 i a b; obtain ⟨⟨w1, w2, w3, w4, w5, w6⟩, -⟩ := hRa.2.1.2.1 _ hlv; have hr := (hRa.2.1.1.2.1 _ hlv).2.1; have h7 := hlv.1; have h8 := hlv.2.1; exact ⟨⟨h7, h8⟩, by rw [w1]; omega, by rw [w4]; omega⟩)) (fun r Mb_ Lb_ hp hMb_ => ?_)
              obtain ⟨hM9, hL9, q, rfl, s1, s2, s3⟩ := hp
              rw [hM9, hL9]
              have hlu : q = rl_lu N m := ab_lu_of ⟨s1, fun t a b => (rl_nwC hRa (by omega)).mp (s2 t a b), fun a z => s3 a ((rl_nwC hRa (by omega)).mpr z)⟩
              have hqn : q < 12 → ¬ rl_nw N m q := fun a z => s3 a ((rl_nwC hRa (by omega)).mpr z)
              refine fw_istore (ls2 := [_, _, _, _, _, _]) dX5_make_62 (by decide) rfl ?_
              refine fw_iload dX5_make_64 rfl ?_
              refine fw_bipush dX5_make_66 ⟨by decide, by decide⟩ (by decide) ?_
              refine fw_icmp_ge 82 dX5_make_68 (by decide) (fun h68 => ?_) (fun h68 => ?_)
              · skip
                refine fw_bipush dX5_make_82 ⟨by decide, by decide⟩ (by decide) ?_
                refine fw_iret dX5_make_84 ⟨rfl, rfl, rfl⟩ ?_
                refine ⟨(by congr 2; unfold an_make; (repeat' split) <;> omega), fun N2 K2 h => rl_md hRa (h.2 (fun z => by omega))⟩
              · skip
                refine fw_aload_n dX5_make_71 rfl rfl ?_
                refine fw_getr 0 1 rfl dX5_make_72 ff_5_12 ly0_0 ⟨by decide, by decide⟩ rfl rfl (by decide) ?_
                refine fw_iload_n dX5_make_75 rfl rfl ?_
                refine fw_pV mX1_isFull [_] dX5_make_76 mv_X1_isFull lk_5_82 ⟨⟨by decide, by decide⟩, rfl, rfl, rfl, by decide, by decide⟩ ly0_1 ⟨by decide, by decide⟩ rfl rfl (Nat.le_of_ble_eq_true rfl) (sp_X1_isFull _ _ _ (by omega)) ?_
                refine fw_bifeq 85 dX5_make_79 (by decide) (fun h79 => ?_) (fun h79 => ?_)
                · skip
                  refine fw_aload_n dX5_make_85 rfl rfl ?_
                  refine fw_getr 0 1 rfl dX5_make_86 ff_5_12 ly0_0 ⟨by decide, by decide⟩ rfl rfl (by decide) ?_
                  refine fw_iload_n dX5_make_89 rfl rfl ?_
                  refine fw_iconst dX5_make_90 ⟨by decide, by decide⟩ ?_
                  refine fw_iload dX5_make_91 rfl ?_
                  refine fw_cV mX1_append [_, _, _] dX5_make_93 mv_X1_append lk_5_85 ⟨⟨by decide, by decide⟩, rfl, rfl, rfl, by decide, by decide⟩ ly0_1 ⟨by decide, by decide⟩ rfl rfl (Nat.le_of_ble_eq_true rfl) (rl_appendC (act := 0) (su := q) hRa (by omega) (by omega)) (fun r Mc_ Lc_ hp hMc_ => ?_)
                  have hap := hp
                  obtain ⟨rfl, rfl, -⟩ := hp
                  have hnum := cl_AP_num hap
                  rw [h4m] at hnum
                  rw [h4m]
                  refine fw_astore (ls2 := [_, _, _, _, _, _, _]) dX5_make_96 (by decide) rfl ?_
                  refine fw_aload dX5_make_98 rfl ?_
                  refine fw_iload_n dX5_make_100 rfl rfl ?_
                  refine fw_puti 7 rfl dX5_make_101 fp_5_89 (ly_ch (by omega) (by omega) (by omega)) (by decide) ⟨by omega, by omega⟩ rfl ?_
                  refine fw_aload dX5_make_104 rfl ?_
                  refine fw_iload_n dX5_make_106 rfl rfl ?_
                  refine fw_puti 8 rfl dX5_make_107 fp_5_94 (ly_ch (by omega) (by omega) (by omega)) (by decide) ⟨by omega, by omega⟩ rfl ?_
                  refine fw_aload dX5_make_110 rfl ?_
                  refine fw_iload dX5_make_112 rfl ?_
                  refine fw_puti 9 rfl dX5_make_114 fp_5_97 (ly_ch (by omega) (by omega) (by omega)) (by decide) ⟨by omega, by omega⟩ rfl ?_
                  refine fw_iload dX5_make_117 rfl ?_
                  refine fw_iret dX5_make_119 ⟨rfl, rfl, rfl⟩ ?_
                  refine ⟨by rw [hlu]; congr 2; unfold an_make; (repeat' split) <;> omega, fun N2 K2 h => ?_⟩
                  obtain ⟨Nx, rx, hq, hd⟩ := h.1 (by omega)
                  have hk := hd.2.1
                  rw [hlu] at hap
                  exact rl_append_q hRa (by omega) (by omega) ⟨by decide, by omega, fun _ => by omega, fun _ => ⟨by omega, rl_nw_ne (m := m) hR (by omega) (by omega) (by omega) (by rw [← hlu]; exact hqn (by omega)), by omega, by omega⟩, fun z => by omega⟩ hap (fun k a => by rw [fw_updne a, fw_updne a, fw_updne a]) (fun f a => by rw [fw_updjn (by omega), fw_updjn (by omega), fw_updjn (by omega)]) (fun _ => by rw [fw_updjn (by decide), fw_updjn (by decide), fw_updj]) (fun _ => ⟨by rw [fw_updjn (by decide), fw_updj], fw_updj⟩) (fun z => by omega) (fun _ _ => rfl) (fun z => by omega) hq hd (fun k _ => by rw [hk]) (fun y _ => by rw [hk])
                · skip
                  refine fw_bipush dX5_make_82 ⟨by decide, by decide⟩ (by decide) ?_
                  refine fw_iret dX5_make_84 ⟨rfl, rfl, rfl⟩ ?_
                  refine ⟨(by congr 2; unfold an_make; (repeat' split) <;> omega), fun N2 K2 h => rl_md hRa (h.2 (fun z => by omega))⟩
            · skip
              refine fw_bipush dX5_make_51 ⟨by decide, by decide⟩ (by decide) ?_
              refine fw_iret dX5_make_53 ⟨rfl, rfl, rfl⟩ ?_
              refine ⟨(by congr 2; unfold an_make; (repeat' split) <;> omega), fun N2 K2 h => rl_md hRa (h.2 (fun z => by omega))⟩
          · skip
            refine fw_iconst dX5_make_33 ⟨by decide, by decide⟩ ?_
            refine fw_iret dX5_make_34 ⟨rfl, rfl, rfl⟩ ?_
            refine ⟨(by congr 2; unfold an_make; (repeat' split) <;> omega), fun N2 K2 h => rl_md hR (h.2 (fun z => by omega))⟩

set_option maxRecDepth 20000 in
set_option maxHeartbeats 4000000 in
theorem lp_X6_make (M N : fw_F) (L K : fw_G) (hR : Rel M L N K) (Na_ : fw_F) (m k f nm : Int) (hg : (0 ≤ m ∧ m < N 0 2) ∧ (k = 1 ∨ k = 2) ∧ (0 ≤ f ∧ f < 12) ∧ (0 ≤ nm ∧ nm < 10)) (hfol : ¬ (rl_S M N m (N 0 4)).1 1 f = 0 ∧ (rl_S M N m (N 0 4)).1 2 f = 2) (g1 : ∀ k, k < 7 ∨ 19 < k → Na_ k = N k) : ∀ (q : Nat) (t : Int), 13 - t < q → 1 ≤ t → t ≤ 12 → (∀ u, 1 ≤ u → u < t → rl_nw N m u) → fw_D mX6_make 61 [some (fw_r 0), some (fw_i m), some (fw_i k), some (fw_i f), some (fw_i nm), some (fw_i t)] [] Na_ K (fun r N2 K2 => r = some (fw_i (an_make (N 0 2) (N 1 m) (rl_S M N m (N 0 4)) (rl_lu N m) m k f nm)) ∧ (((((0 ≤ m ∧ m < N 0 2) ∧ (k = 1 ∨ k = 2) ∧ (0 ≤ f ∧ f < 12) ∧ (0 ≤ nm ∧ nm < 10)) ∧ (¬ (rl_S M N m (N 0 4)).1 1 f = 0 ∧ (rl_S M N m (N 0 4)).1 2 f = 2) ∧ rl_lu N m < 12 ∧ N 1 m < 20) → ∃ Nx r, rl_mq N K Nx K ∧ md_AP m 0 (rl_lu N m) f nm k Nx K r N2 K2) ∧ (¬ (((0 ≤ m ∧ m < N 0 2) ∧ (k = 1 ∨ k = 2) ∧ (0 ≤ f ∧ f < 12) ∧ (0 ≤ nm ∧ nm < 10)) ∧ (¬ (rl_S M N m (N 0 4)).1 1 f = 0 ∧ (rl_S M N m (N 0 4)).1 2 f = 2) ∧ rl_lu N m < 12 ∧ N 1 m < 20) → rl_mq N K N2 K2))) := by
  intro q
  induction q with
  | zero => intro t h0 h1 h2; omega
  | succ q ih =>
    intro t h0 h1 h2 h3
    have hn1 := hR.2.1.1.1.1
    have hn2 := hR.2.1.1.1.2.1
    have q1 := g1 1 (by decide)
    have q0 := g1 0 (by decide)
    have q2 := g1 2 (by decide)
    have q4 := g1 4 (by decide)
    have hmkm := hR.2.1.1.1.2.2 m (by omega) (by omega)
    refine fw_aload_n dX6_make_61 rfl rfl ?_
    refine fw_iload_n dX6_make_62 rfl rfl ?_
    refine fw_iload dX6_make_63 rfl ?_
    refine fw_cV mX6_isNew [_, _] dX6_make_65 mv_X6_isNew lk_6_185 ⟨⟨by decide, by decide⟩, rfl, rfl, rfl, by decide, by decide⟩ ly1_0 ⟨by decide, by decide⟩ rfl rfl (Nat.le_of_ble_eq_true rfl) (sp_X6_isNew m t Na_ K (by omega) (by rw [q0]; omega) (fun p a b => by rw [q4]; have h7 := rl_now hR m p (by omega) (by omega) a b; have h8 := (rl_mk hR p a b).1; omega)) (fun r Nb_ Kb_ hp hNb_ => ?_)
    obtain ⟨hM9, hL9, z, rfl, hz1, hz2⟩ := hp
    rw [hM9, hL9]
    rw [rl_nwM hR (by omega) (by rw [q0]) q2 q4] at hz2
    refine fw_if_eq 77 dX6_make_68 (by decide) (fun h68 => ?_) (fun h68 => ?_)
    · skip
      have hlu : t = rl_lu N m := ab_lu_of ⟨⟨h1, h2⟩, h3, fun _ z => by have := hz2.mpr z; omega⟩
      refine fw_iload dX6_make_77 rfl ?_
      refine fw_bipush dX6_make_79 ⟨by decide, by decide⟩ (by decide) ?_
      refine fw_icmp_gt 95 dX6_make_81 (by decide) (fun h81 => ?_) (fun h81 => ?_)
      · skip
        refine fw_bipush dX6_make_95 ⟨by decide, by decide⟩ (by decide) ?_
        refine fw_iret dX6_make_97 ⟨rfl, rfl, rfl⟩ ?_
        refine ⟨(by congr 2; unfold an_make; (repeat' split) <;> omega), fun z => absurd z (by omega), fun _ => rl_mq_of g1⟩
      · skip
        refine fw_aload_n dX6_make_84 rfl rfl ?_
        refine fw_getr 5 1 rfl dX6_make_85 ff_6_13 ly1_0 ⟨by decide, by decide⟩ rfl rfl (by decide) ?_
        refine fw_iload_n dX6_make_88 rfl rfl ?_
        refine fw_iaload dX6_make_89 ly1_1 ⟨by decide, by decide⟩ ⟨by omega, by omega⟩ ?_
        rw [q1]
        refine fw_bipush dX6_make_90 ⟨by decide, by decide⟩ (by decide) ?_
        refine fw_icmp_ne 98 dX6_make_92 (by decide) (fun h92 => ?_) (fun h92 => ?_)
        · skip
          refine fw_aload_n dX6_make_98 rfl rfl ?_
          refine fw_iload_n dX6_make_99 rfl rfl ?_
          refine fw_iconst dX6_make_100 ⟨by decide, by decide⟩ ?_
          refine fw_iload dX6_make_101 rfl ?_
          refine fw_iload_n dX6_make_103 rfl rfl ?_
          refine fw_iload dX6_make_104 rfl ?_
          refine fw_iload_n dX6_make_106 rfl rfl ?_
          refine fw_cV mX6_makes [_, _, _, _, _, _] dX6_make_107 mv_X6_makes lk_6_188 ⟨⟨by decide, by decide⟩, rfl, rfl, rfl, by decide, by decide⟩ ly1_0 ⟨by decide, by decide⟩ rfl rfl (Nat.le_of_ble_eq_true rfl) (rl_makes (wh := 0) (t := t) (into := f) (nm := nm) (kd := k) hR (by omega) (by omega) (by rw [q0]) q1 q2 q4) (fun r Nc_ Lc_ hp hNc_ => ?_)
          have had := hp
          obtain ⟨rfl, -⟩ := hp
          refine fw_pop dX6_make_110 rfl ?_
          refine fw_iload dX6_make_111 rfl ?_
          refine fw_iret dX6_make_113 ⟨rfl, rfl, rfl⟩ ?_
          rw [hlu] at had
          refine ⟨by rw [hlu]; congr 2; unfold an_make; (repeat' split) <;> omega, fun _ => ⟨Na_, _, rl_mq_of g1, had⟩, fun z => absurd (by omega) z⟩
        · skip
          refine fw_bipush dX6_make_95 ⟨by decide, by decide⟩ (by decide) ?_
          refine fw_iret dX6_make_97 ⟨rfl, rfl, rfl⟩ ?_
          refine ⟨(by congr 2; unfold an_make; (repeat' split) <;> omega), fun z => absurd z (by omega), fun _ => rl_mq_of g1⟩
    · skip
      refine fw_iinc (ls2 := [_, _, _, _, _, _]) dX6_make_71 rfl ⟨by omega, by omega⟩ (by decide) rfl ?_
      refine fw_goto 61 dX6_make_74 (by decide) ?_
      have hnw := hz2.mp (by omega)
      have h12 := rl_nw12 hR hnw
      refine ih (t + 1) (by omega) (by omega) (by omega) (fun u a b => ?_)
      rcases (show u < t ∨ u = t by omega) with c | c
      · exact h3 u a c
      · rw [c]; exact hnw

set_option maxRecDepth 20000 in
set_option maxHeartbeats 4000000 in
theorem pm_X6_make (M N : fw_F) (L K : fw_G) (hR : Rel M L N K) (m k f nm : Int) : fw_D mX6_make 5 [some (fw_r 0), some (fw_i m), some (fw_i k), some (fw_i f), some (fw_i nm)] [] N K (fun r N2 K2 => r = some (fw_i (an_make (N 0 2) (N 1 m) (rl_S M N m (N 0 4)) (rl_lu N m) m k f nm)) ∧ (((((0 ≤ m ∧ m < N 0 2) ∧ (k = 1 ∨ k = 2) ∧ (0 ≤ f ∧ f < 12) ∧ (0 ≤ nm ∧ nm < 10)) ∧ (¬ (rl_S M N m (N 0 4)).1 1 f = 0 ∧ (rl_S M N m (N 0 4)).1 2 f = 2) ∧ rl_lu N m < 12 ∧ N 1 m < 20) → ∃ Nx r, rl_mq N K Nx K ∧ md_AP m 0 (rl_lu N m) f nm k Nx K r N2 K2) ∧ (¬ (((0 ≤ m ∧ m < N 0 2) ∧ (k = 1 ∨ k = 2) ∧ (0 ≤ f ∧ f < 12) ∧ (0 ≤ nm ∧ nm < 10)) ∧ (¬ (rl_S M N m (N 0 4)).1 1 f = 0 ∧ (rl_S M N m (N 0 4)).1 2 f = 2) ∧ rl_lu N m < 12 ∧ N 1 m < 20) → rl_mq N K N2 K2))) := by
  obtain ⟨ha1, ha2, ha3, ha4, ha5, ha6⟩ := hR.1
  have hn1 := hR.2.1.1.1.1
  have hn2 := hR.2.1.1.1.2.1
  refine fw_aload_n dX6_make_5 rfl rfl ?_
  refine fw_iload_n dX6_make_6 rfl rfl ?_
  refine fw_pV mX6_isMachine [_] dX6_make_7 mv_X6_isMachine lk_6_179 ⟨⟨by decide, by decide⟩, rfl, rfl, rfl, by decide, by decide⟩ ly1_0 ⟨by decide, by decide⟩ rfl rfl (Nat.le_of_ble_eq_true rfl) (sp_X6_isMachine _ _ _ (by omega)) ?_
  refine fw_bifeq 40 dX6_make_10 (by decide) (fun h10 => ?_) (fun h10 => ?_)
  · skip
    refine fw_iconst dX6_make_40 ⟨by decide, by decide⟩ ?_
    refine fw_iret dX6_make_41 ⟨rfl, rfl, rfl⟩ ?_
    refine ⟨(by congr 2; unfold an_make; (repeat' split) <;> omega), fun z => absurd z (by omega), fun _ => rl_mq_rf N K⟩
  · skip
    refine fw_iload_n dX6_make_13 rfl rfl ?_
    refine fw_iconst dX6_make_14 ⟨by decide, by decide⟩ ?_
    refine fw_iconst dX6_make_15 ⟨by decide, by decide⟩ ?_
    refine fw_pS mX6_in [_, _, _] dX6_make_16 mv_X6_in lk_6_115 ⟨⟨by decide, by decide⟩, rfl, rfl, rfl, by decide, by decide⟩ rfl rfl (Nat.le_of_ble_eq_true rfl) (sp_X6_in _ _ _ _ _) ?_
    refine fw_bifeq 40 dX6_make_19 (by decide) (fun h19 => ?_) (fun h19 => ?_)
    · skip
      refine fw_iconst dX6_make_40 ⟨by decide, by decide⟩ ?_
      refine fw_iret dX6_make_41 ⟨rfl, rfl, rfl⟩ ?_
      refine ⟨(by congr 2; unfold an_make; (repeat' split) <;> omega), fun z => absurd z (by omega), fun _ => rl_mq_rf N K⟩
    · skip
      refine fw_iload_n dX6_make_22 rfl rfl ?_
      refine fw_pS mX6_isThing [_] dX6_make_23 mv_X6_isThing lk_6_182 ⟨⟨by decide, by decide⟩, rfl, rfl, rfl, by decide, by decide⟩ rfl rfl (Nat.le_of_ble_eq_true rfl) (sp_X6_isThing _ _ _) ?_
      refine fw_bifeq 40 dX6_make_26 (by decide) (fun h26 => ?_) (fun h26 => ?_)
      · skip
        refine fw_iconst dX6_make_40 ⟨by decide, by decide⟩ ?_
        refine fw_iret dX6_make_41 ⟨rfl, rfl, rfl⟩ ?_
        refine ⟨(by congr 2; unfold an_make; (repeat' split) <;> omega), fun z => absurd z (by omega), fun _ => rl_mq_rf N K⟩
      · skip
        refine fw_iload dX6_make_29 rfl ?_
        refine fw_iconst dX6_make_31 ⟨by decide, by decide⟩ ?_
        refine fw_bipush dX6_make_32 ⟨by decide, by decide⟩ (by decide) ?_
        refine fw_pS mX6_in [_, _, _] dX6_make_34 mv_X6_in lk_6_115 ⟨⟨by decide, by decide⟩, rfl, rfl, rfl, by decide, by decide⟩ rfl rfl (Nat.le_of_ble_eq_true rfl) (sp_X6_in _ _ _ _ _) ?_
        refine fw_bifne 42 dX6_make_37 (by decide) (fun h37 => ?_) (fun h37 => ?_)
        · skip
          refine fw_aload_n dX6_make_42 rfl rfl ?_
          refine fw_iload_n dX6_make_43 rfl rfl ?_
          refine fw_cV mX6_tellsNow [_] dX6_make_44 mv_X6_tellsNow lk_6_176 ⟨⟨by decide, by decide⟩, rfl, rfl, rfl, by decide, by decide⟩ ly1_0 ⟨by decide, by decide⟩ rfl rfl (Nat.le_of_ble_eq_true rfl) (rl_tellsNow hR (by omega)) (fun r Na_ Lb_ hp hNa_ => ?_)
          obtain ⟨rfl, rfl, g1, g2⟩ := hp
          have q1 := g1 1 (by decide)
          have q0 := g1 0 (by decide)
          have q2 := g1 2 (by decide)
          have q4 := g1 4 (by decide)
          have hmkm := hR.2.1.1.1.2.2 m (by omega) (by omega)
          have hfd := md_isF g2.1 (rl_ti hR m (N 0 4)) (u := f) (by omega) (by omega)
          unfold ab_isF at hfd
          refine fw_aload_n dX6_make_47 rfl rfl ?_
          refine fw_iload_n dX6_make_48 rfl rfl ?_
          refine fw_pV mX6_isFolder [_] dX6_make_49 mv_X6_isFolder lk_6_137 ⟨⟨by decide, by decide⟩, rfl, rfl, rfl, by decide, by decide⟩ ly1_0 ⟨by decide, by decide⟩ rfl rfl (Nat.le_of_ble_eq_true rfl) (sp_X6_isFolder _ _ _ (by omega)) ?_
          refine fw_bifne 58 dX6_make_52 (by decide) (fun h52 => ?_) (fun h52 => ?_)
          · skip
            refine fw_iconst dX6_make_58 ⟨by decide, by decide⟩ ?_
            refine fw_istore (ls2 := [_, _, _, _, _, _]) dX6_make_59 (by decide) rfl ?_
            exact lp_X6_make M N L Lb_ hR Na_ m k f nm (by omega) (by omega) g1 13 1 (by decide) (by decide) (by decide) (fun u a b => by omega)
          · skip
            refine fw_bipush dX6_make_55 ⟨by decide, by decide⟩ (by decide) ?_
            refine fw_iret dX6_make_57 ⟨rfl, rfl, rfl⟩ ?_
            refine ⟨(by congr 2; unfold an_make; (repeat' split) <;> omega), fun z => absurd z (by omega), fun _ => rl_mq_of g1⟩
        · skip
          refine fw_iconst dX6_make_40 ⟨by decide, by decide⟩ ?_
          refine fw_iret dX6_make_41 ⟨rfl, rfl, rfl⟩ ?_
          refine ⟨(by congr 2; unfold an_make; (repeat' split) <;> omega), fun z => absurd z (by omega), fun _ => rl_mq_rf N K⟩

set_option maxRecDepth 20000 in
set_option maxHeartbeats 4000000 in
theorem sp_X6_make (M N : fw_F) (L K : fw_G) (hR : Rel M L (fw_upd N 0 0 0) K) (m k f nm : Int) : fw_SD mX6_make [fw_r 0, fw_i m, fw_i k, fw_i f, fw_i nm] N K (fun r N2 K2 => r = some (fw_i (an_make ((fw_upd N 0 0 0) 0 2) ((fw_upd N 0 0 0) 1 m) (rl_S M (fw_upd N 0 0 0) m ((fw_upd N 0 0 0) 0 4)) (rl_lu (fw_upd N 0 0 0) m) m k f nm)) ∧ (((((0 ≤ m ∧ m < (fw_upd N 0 0 0) 0 2) ∧ (k = 1 ∨ k = 2) ∧ (0 ≤ f ∧ f < 12) ∧ (0 ≤ nm ∧ nm < 10)) ∧ (¬ (rl_S M (fw_upd N 0 0 0) m ((fw_upd N 0 0 0) 0 4)).1 1 f = 0 ∧ (rl_S M (fw_upd N 0 0 0) m ((fw_upd N 0 0 0) 0 4)).1 2 f = 2) ∧ rl_lu (fw_upd N 0 0 0) m < 12 ∧ (fw_upd N 0 0 0) 1 m < 20) → ∃ Nx r, rl_mq (fw_upd N 0 0 0) K Nx K ∧ md_AP m 0 (rl_lu (fw_upd N 0 0 0) m) f nm k Nx K r N2 K2) ∧ (¬ (((0 ≤ m ∧ m < (fw_upd N 0 0 0) 0 2) ∧ (k = 1 ∨ k = 2) ∧ (0 ≤ f ∧ f < 12) ∧ (0 ≤ nm ∧ nm < 10)) ∧ (¬ (rl_S M (fw_upd N 0 0 0) m ((fw_upd N 0 0 0) 0 4)).1 1 f = 0 ∧ (rl_S M (fw_upd N 0 0 0) m ((fw_upd N 0 0 0) 0 4)).1 2 f = 2) ∧ rl_lu (fw_upd N 0 0 0) m < 12 ∧ (fw_upd N 0 0 0) 1 m < 20) → rl_mq (fw_upd N 0 0 0) K N2 K2))) := by
  refine fw_SP_of pl_X6_make (ls := [_, _, _, _, _]) rfl (Nat.le_of_ble_eq_true rfl) fun hA hM => ?_
  refine fw_aload_n dX6_make_0 rfl rfl ?_
  refine fw_iconst dX6_make_1 ⟨by decide, by decide⟩ ?_
  refine fw_puti 0 rfl dX6_make_2 fp_6_106 ly1_0 (by decide) ⟨by decide, by decide⟩ rfl ?_
  exact pm_X6_make M (fw_upd N 0 0 0) L K hR m k f nm
