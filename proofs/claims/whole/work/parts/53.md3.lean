set_option maxRecDepth 20000 in
set_option maxHeartbeats 4000000 in
theorem lp_X6_writes (t x : Int) (w : List Int) (N G : fw_F) (mk : Int → Int) (L : fw_G) (hGe : md_G N = G) (hx : ab_lv mk x) (hgr : ∀ p, 0 ≤ p → p < 4 → 0 ≤ G x (6 + p) ∧ G x (6 + p) ≤ 20) (hw : ∀ y ∈ w, ab_lv mk y) (ht : 0 ≤ t ∧ t < 12) (hl : N 17 t = (w.length : Int)) (h4 : w.length ≤ 4) : ∀ (n : Nat) (s r : Int) (M : fw_F), w.length - r < n → 0 ≤ r → r ≤ w.length → s = (((w.take r.toNat).filter (ab_kp G x)).length : Int) → (∀ k, ¬ k = 18 → M k = N k) → (∀ z, z < 16 * t ∨ 16 * t + 16 ≤ z → M 18 z = N 18 z) → (∀ (i : Nat) (y : Int), ((w.take r.toNat).filter (ab_kp G x))[i]? = some y → M 18 (16 * t + i) = y) → (∀ (i : Nat) (y : Int), r ≤ i → w[i]? = some y → M 18 (16 * t + i) = y) → fw_D mX6_writes 80 [some (fw_r 0), some (fw_i t), some (fw_i (12 * x)), some (fw_i s), some (fw_i r)] [] M L (fun r M2 L2 => r = none ∧ L2 = L ∧ (∀ k, ¬ k = 17 → ¬ k = 18 → M2 k = N k) ∧ (∀ u, ¬ u = t → M2 17 u = N 17 u) ∧ M2 17 t = ((ab_hold G x w).length : Int) ∧ (∀ z, z < 16 * t ∨ 16 * t + 16 ≤ z → M2 18 z = N 18 z) ∧ ∀ (r : Nat) (y : Int), (ab_hold G x w)[r]? = some y → M2 18 (16 * t + r) = y) := by
  intro n
  induction n with
  | zero => intro s r M h0 h1 h2; omega
  | succ n ih =>
    intro s r M h0 h1 h2 hs hk hz hkp hrr
    have e17 := hk 17 (by decide)
    have e2 := hk 2 (by decide)
    have hx0 := hx.1
    have hx1 := hx.2.1
    have hkl : ((w.take r.toNat).filter (ab_kp G x)).length ≤ r.toNat := Nat.le_trans (List.length_filter_le _ _) (List.length_take_le _ _)
    refine fw_iload dX6_writes_80 rfl ?_
    refine fw_aload_n dX6_writes_82 rfl rfl ?_
    refine fw_getr 21 17 rfl dX6_writes_83 ff_6_64 ly1_0 ⟨by decide, by decide⟩ rfl rfl (by decide) ?_
    refine fw_iload_n dX6_writes_86 rfl rfl ?_
    refine fw_iaload dX6_writes_87 ly1_17 ⟨by decide, by decide⟩ ⟨by omega, by omega⟩ ?_
    rw [e17, hl]
    refine fw_icmp_ge 150 dX6_writes_88 (by decide) (fun h88 => ?_) (fun h88 => ?_)
    · skip
      refine fw_aload_n dX6_writes_150 rfl rfl ?_
      refine fw_getr 22 18 rfl dX6_writes_151 ff_6_67 ly1_0 ⟨by decide, by decide⟩ rfl rfl (by decide) ?_
      refine fw_bipush dX6_writes_154 ⟨by decide, by decide⟩ (by decide) ?_
      refine fw_iload_n dX6_writes_156 rfl rfl ?_
      refine fw_imul dX6_writes_157 ⟨by omega, by omega⟩ ?_
      refine fw_iload_n dX6_writes_158 rfl rfl ?_
      refine fw_iadd dX6_writes_159 ⟨by omega, by omega⟩ ?_
      refine fw_iload_n dX6_writes_160 rfl rfl ?_
      refine fw_bipush dX6_writes_161 ⟨by decide, by decide⟩ (by decide) ?_
      refine fw_idiv dX6_writes_163 (by omega) (by omega) ?_
      rw [show 12 * x / 12 = x by omega]
      refine fw_iastore dX6_writes_164 ly1_18 (by decide) ⟨by decide, by decide⟩ ⟨by omega, by omega⟩ ?_
      refine fw_aload_n dX6_writes_165 rfl rfl ?_
      refine fw_getr 21 17 rfl dX6_writes_166 ff_6_64 ly1_0 ⟨by decide, by decide⟩ rfl rfl (by decide) ?_
      refine fw_iload_n dX6_writes_169 rfl rfl ?_
      refine fw_iload_n dX6_writes_170 rfl rfl ?_
      refine fw_iconst dX6_writes_171 ⟨by decide, by decide⟩ ?_
      refine fw_iadd dX6_writes_172 ⟨by omega, by omega⟩ ?_
      refine fw_iastore dX6_writes_173 ly1_17 (by decide) ⟨by decide, by decide⟩ ⟨by omega, by omega⟩ ?_
      refine fw_vret dX6_writes_174 ⟨rfl, rfl, rfl⟩ ?_
      rw [show r.toNat = w.length by omega, List.take_length] at hs hkp
      have hkl2 : (w.filter (ab_kp G x)).length ≤ w.length := List.length_filter_le _ _
      refine ⟨rfl, rfl, fun k a b => ?_, fun u a => ?_, ?_, fun z a => ?_, fun i y hi => ?_⟩
      · rw [fw_updne a, fw_updne b]; exact hk k b
      · rw [fw_updeq, if_neg a, fw_updne (by decide), e17]
      · rw [fw_updeq, if_pos rfl, ab_kp_hold, List.length_append, hs]; simp
      · rw [fw_updne (by decide), fw_updeq, if_neg (by omega)]; exact hz z a
      · rw [fw_updne (by decide), fw_updeq]
        rw [ab_kp_hold] at hi
        by_cases hil : i < (w.filter (ab_kp G x)).length
        · rw [List.getElem?_append_left hil] at hi
          rw [if_neg (by omega)]
          exact hkp i y hi
        · rw [List.getElem?_append_right (by omega)] at hi
          have hi0 : i - (w.filter (ab_kp G x)).length = 0 := by
            have := (List.getElem?_eq_some_iff.mp hi).1
            simp at this
            omega
          rw [hi0] at hi
          simp at hi
          rw [if_pos (by omega)]; exact hi
    · skip
      have hrl : r.toNat < w.length := by omega
      obtain ⟨yy, hyy⟩ : ∃ yy, w[r.toNat]? = some yy := ⟨_, List.getElem?_eq_getElem hrl⟩
      have hyl := hw yy (List.mem_of_getElem? hyy)
      have ey := hrr r.toNat yy (by omega) hyy
      rw [show ((r.toNat : Nat) : Int) = r by omega] at ey
      have hy0 := hyl.1
      have hy1 := hyl.2.1
      have hg := hgr (yy / 20) (by omega) (by omega)
      have hts := ls_take_succ hyy
      refine fw_aload_n dX6_writes_91 rfl rfl ?_
      refine fw_getr 22 18 rfl dX6_writes_92 ff_6_67 ly1_0 ⟨by decide, by decide⟩ rfl rfl (by decide) ?_
      refine fw_bipush dX6_writes_95 ⟨by decide, by decide⟩ (by decide) ?_
      refine fw_iload_n dX6_writes_97 rfl rfl ?_
      refine fw_imul dX6_writes_98 ⟨by omega, by omega⟩ ?_
      refine fw_iload dX6_writes_99 rfl ?_
      refine fw_iadd dX6_writes_101 ⟨by omega, by omega⟩ ?_
      refine fw_iaload dX6_writes_102 ly1_18 ⟨by decide, by decide⟩ ⟨by omega, by omega⟩ ?_
      rw [ey]
      refine fw_istore (ls2 := [_, _, _, _, _, _]) dX6_writes_103 (by decide) rfl ?_
      refine fw_iload dX6_writes_105 rfl ?_
      refine fw_bipush dX6_writes_107 ⟨by decide, by decide⟩ (by decide) ?_
      refine fw_irem dX6_writes_109 (by omega) (by omega) ?_
      refine fw_aload_n dX6_writes_110 rfl rfl ?_
      refine fw_getr 6 2 rfl dX6_writes_111 ff_6_17 ly1_0 ⟨by decide, by decide⟩ rfl rfl (by decide) ?_
      refine fw_iload_n dX6_writes_114 rfl rfl ?_
      refine fw_bipush dX6_writes_115 ⟨by decide, by decide⟩ (by decide) ?_
      refine fw_iadd dX6_writes_117 ⟨by omega, by omega⟩ ?_
      refine fw_iload dX6_writes_118 rfl ?_
      refine fw_bipush dX6_writes_120 ⟨by decide, by decide⟩ (by decide) ?_
      refine fw_idiv dX6_writes_122 (by omega) (by omega) ?_
      refine fw_iadd dX6_writes_123 ⟨by omega, by omega⟩ ?_
      refine fw_iaload dX6_writes_124 ly1_2 ⟨by decide, by decide⟩ ⟨by omega, by omega⟩ ?_
      rw [show 12 * x + 6 + yy / 20 = 12 * x + (6 + yy / 20) by omega, e2, md_Gv N x (6 + yy / 20), hGe]
      refine fw_icmp_lt 144 dX6_writes_125 (by decide) (fun h125 => ?_) (fun h125 => ?_)
      · skip
        refine fw_iinc (ls2 := [_, _, _, _, _, _]) dX6_writes_144 rfl ⟨by omega, by omega⟩ (by decide) rfl ?_
        refine fw_goto 80 dX6_writes_147 (by decide) ?_
        refine fw_take 5 ?_
        first
        | refine ih s (r + 1) _ (by omega) (by omega) (by omega) ?_ hk hz ?_ (fun i y hi hiy => hrr i y (by omega) hiy)
          · rw [show (r + 1).toNat = r.toNat + 1 by omega, hts, List.filter_append, List.filter_cons_of_neg (by simp [ab_kp]; exact h125), List.filter_nil, List.append_nil]; exact hs
          · intro i y
            rw [show (r + 1).toNat = r.toNat + 1 by omega, hts, List.filter_append, List.filter_cons_of_neg (by simp [ab_kp]; exact h125), List.filter_nil, List.append_nil]
            exact hkp i y
        | refine ih (s + 1) (r + 1) _ (by omega) (by omega) (by omega) ?_ (fun k h => (fw_updne h).trans (hk k h)) ?_ ?_ ?_
          · rw [show (r + 1).toNat = r.toNat + 1 by omega, hts, List.filter_append, List.filter_cons_of_pos (by simp [ab_kp]; omega), List.filter_nil, List.length_append]; simp; omega
          · intro z hzz
            rw [fw_updeq, if_neg (by omega)]
            exact hz z hzz
          · intro i y hi
            rw [show (r + 1).toNat = r.toNat + 1 by omega, hts, List.filter_append, List.filter_cons_of_pos (by simp [ab_kp]; omega), List.filter_nil] at hi
            rw [fw_updeq]
            by_cases hil : i < ((w.take r.toNat).filter (ab_kp G x)).length
            · rw [List.getElem?_append_left hil] at hi
              rw [if_neg (by omega)]
              exact hkp i y hi
            · rw [List.getElem?_append_right (by omega)] at hi
              have hi0 : i - ((w.take r.toNat).filter (ab_kp G x)).length = 0 := by
                have := (List.getElem?_eq_some_iff.mp hi).1
                simp at this
                omega
              rw [hi0] at hi
              simp at hi
              rw [if_pos (by omega)]; exact hi
          · intro i y hi hiy
            rw [fw_updeq, if_neg (by omega)]
            exact hrr i y (by omega) hiy
      · skip
        refine fw_aload_n dX6_writes_128 rfl rfl ?_
        refine fw_getr 22 18 rfl dX6_writes_129 ff_6_67 ly1_0 ⟨by decide, by decide⟩ rfl rfl (by decide) ?_
        refine fw_bipush dX6_writes_132 ⟨by decide, by decide⟩ (by decide) ?_
        refine fw_iload_n dX6_writes_134 rfl rfl ?_
        refine fw_imul dX6_writes_135 ⟨by omega, by omega⟩ ?_
        refine fw_iload_n dX6_writes_136 rfl rfl ?_
        refine fw_iadd dX6_writes_137 ⟨by omega, by omega⟩ ?_
        refine fw_iload dX6_writes_138 rfl ?_
        refine fw_iastore dX6_writes_140 ly1_18 (by decide) ⟨by decide, by decide⟩ ⟨by omega, by omega⟩ ?_
        refine fw_iinc (ls2 := [_, _, _, _, _, _]) dX6_writes_141 rfl ⟨by omega, by omega⟩ (by decide) rfl ?_
        refine fw_iinc (ls2 := [_, _, _, _, _, _]) dX6_writes_144 rfl ⟨by omega, by omega⟩ (by decide) rfl ?_
        refine fw_goto 80 dX6_writes_147 (by decide) ?_
        refine fw_take 5 ?_
        first
        | refine ih s (r + 1) _ (by omega) (by omega) (by omega) ?_ hk hz ?_ (fun i y hi hiy => hrr i y (by omega) hiy)
          · rw [show (r + 1).toNat = r.toNat + 1 by omega, hts, List.filter_append, List.filter_cons_of_neg (by simp [ab_kp]; exact h125), List.filter_nil, List.append_nil]; exact hs
          · intro i y
            rw [show (r + 1).toNat = r.toNat + 1 by omega, hts, List.filter_append, List.filter_cons_of_neg (by simp [ab_kp]; exact h125), List.filter_nil, List.append_nil]
            exact hkp i y
        | refine ih (s + 1) (r + 1) _ (by omega) (by omega) (by omega) ?_ (fun k h => (fw_updne h).trans (hk k h)) ?_ ?_ ?_
          · rw [show (r + 1).toNat = r.toNat + 1 by omega, hts, List.filter_append, List.filter_cons_of_pos (by simp [ab_kp]; omega), List.filter_nil, List.length_append]; simp; omega
          · intro z hzz
            rw [fw_updeq, if_neg (by omega)]
            exact hz z hzz
          · intro i y hi
            rw [show (r + 1).toNat = r.toNat + 1 by omega, hts, List.filter_append, List.filter_cons_of_pos (by simp [ab_kp]; omega), List.filter_nil] at hi
            rw [fw_updeq]
            by_cases hil : i < ((w.take r.toNat).filter (ab_kp G x)).length
            · rw [List.getElem?_append_left hil] at hi
              rw [if_neg (by omega)]
              exact hkp i y hi
            · rw [List.getElem?_append_right (by omega)] at hi
              have hi0 : i - ((w.take r.toNat).filter (ab_kp G x)).length = 0 := by
                have := (List.getElem?_eq_some_iff.mp hi).1
                simp at this
                omega
              rw [hi0] at hi
              simp at hi
              rw [if_pos (by omega)]; exact hi
          · intro i y hi hiy
            rw [fw_updeq, if_neg (by omega)]
            exact hrr i y (by omega) hiy

theorem fw_SD_mono {y : fw_M} {pc : Nat} {ls : List (Option fw_V)} {st : List fw_V} {M : fw_F} {L : fw_G} {p1 p2 : fw_P} (h : fw_D y pc ls st M L p1) (hp : ∀ r M' L', p1 r M' L' → p2 r M' L') : fw_D y pc ls st M L p2 := by
  intro l D cA p e s m args below meth c b H locs la hZ hO hY T hT X
  obtain ⟨t, a1, o, b1, b2, ⟨⟨r, K', R', M', L', e1, ⟨e2, e3, e4⟩, e5⟩, e6⟩, e7⟩ := h l D cA p e s m args below meth c b H locs la hZ hO hY T hT X
  exact ⟨t, a1, o, b1, b2, ⟨⟨r, K', R', M', L', e1, ⟨e2, e3, hp r M' L' e4⟩, e5⟩, e6⟩, e7⟩
theorem fw_SC_mono {y : fw_M} {pc : Nat} {ls : List (Option fw_V)} {st : List fw_V} {M : fw_F} {L : fw_G} {p1 p2 : fw_P} (h : fw_C y pc ls st M L p1) (hp : ∀ r M' L', p1 r M' L' → p2 r M' L') : fw_C y pc ls st M L p2 := by
  intro l D cA p e s m args below meth c b H locs la hZ hO hY T hT X
  obtain ⟨t, a1, o, b1, b2, ⟨⟨r, K', R', M', L', e1, ⟨e2, e3, e4⟩, e5⟩, e6⟩, e7⟩ := h l D cA p e s m args below meth c b H locs la hZ hO hY T hT X
  exact ⟨t, a1, o, b1, b2, ⟨⟨r, K', R', M', L', e1, ⟨e2, e3, hp r M' L' e4⟩, e5⟩, e6⟩, e7⟩

set_option maxRecDepth 20000 in
set_option maxHeartbeats 4000000 in
theorem sp_X6_writes (j : Nat) (n T : Int) (N : fw_F) (O : Int → Int) (mk : Int → Int) (S : ab_S) (L : fw_G) (hwf : ab_wf n mk (md_G N) O T) (hj : (j : Int) < T) (hti : ab_ti (md_G N) O j S) (hT : md_T N S) (h3 : md_G N (O j) 0 = 3) : fw_SD mX6_writes [fw_r 0, fw_i (md_G N (O j) 1), fw_i (12 * O j)] N L (fun r M2 L2 => r = none ∧ L2 = L ∧ md_T M2 (ab_ap (md_G N) (N 0 3) (O j) j S) ∧ (∀ k, ¬ k = 11 → ¬ k = 13 → ¬ k = 17 → ¬ k = 18 → M2 k = N k)) := by
  refine fw_SP_of pl_X6_writes (ls := [_, _, _]) rfl (Nat.le_of_ble_eq_true rfl) fun hA hM => ?_
  have hx := hwf.2.2.2.2.1 j (by omega) hj
  have hx0 := hx.1
  have hx1 := hx.2.1
  have hrow := hwf.2.1 (O j) hx
  have ht0 := hrow.2.1.1
  have ht1 := hrow.2.1.2
  have hTt := hT (md_G N (O j) 1) ht0 (by omega)
  have hin := hti.1 (md_G N (O j) 1) ht0 (by omega)
  have hgr : ∀ p, 0 ≤ p → p < 4 → 0 ≤ md_G N (O j) (6 + p) ∧ md_G N (O j) (6 + p) ≤ 20 := fun p a b => by have h1 := (hwf.2.2.1 (O j) hx).2.1 p a b; have h2 := hwf.1.2.2 p a b; omega
  refine fw_aload_n dX6_writes_0 rfl rfl ?_
  refine fw_getr 14 10 rfl dX6_writes_1 ff_6_42 ly1_0 ⟨by decide, by decide⟩ rfl rfl (by decide) ?_
  refine fw_iload_n dX6_writes_4 rfl rfl ?_
  refine fw_baload dX6_writes_5 ly1_10 ⟨by decide, by decide⟩ ⟨by omega, by omega⟩ ?_
  refine fw_if_eq 19 dX6_writes_6 (by decide) (fun h6 => ?_) (fun h6 => ?_)
  · skip
    refine fw_vret dX6_writes_19 ⟨rfl, rfl, rfl⟩ ?_
    refine ⟨rfl, rfl, ?_, fun _ _ _ _ _ => rfl⟩
    rw [ab_ap_w1 h3 (by have h01 := hTt.1; have h02 := hTt.2.2.1; omega)]
    exact hT
  · skip
    refine fw_aload_n dX6_writes_9 rfl rfl ?_
    refine fw_getr 16 12 rfl dX6_writes_10 ff_6_49 ly1_0 ⟨by decide, by decide⟩ rfl rfl (by decide) ?_
    refine fw_iload_n dX6_writes_13 rfl rfl ?_
    refine fw_iaload dX6_writes_14 ly1_12 ⟨by decide, by decide⟩ ⟨by omega, by omega⟩ ?_
    refine fw_iconst dX6_writes_15 ⟨by decide, by decide⟩ ?_
    refine fw_icmp_eq 20 dX6_writes_16 (by decide) (fun h16 => ?_) (fun h16 => ?_)
    · skip
      refine fw_aload_n dX6_writes_20 rfl rfl ?_
      refine fw_getr 15 11 rfl dX6_writes_21 ff_6_46 ly1_0 ⟨by decide, by decide⟩ rfl rfl (by decide) ?_
      refine fw_iload_n dX6_writes_24 rfl rfl ?_
      refine fw_baload dX6_writes_25 ly1_11 ⟨by decide, by decide⟩ ⟨by omega, by omega⟩ ?_
      refine fw_if_ne 75 dX6_writes_26 (by decide) (fun h26 => ?_) (fun h26 => ?_)
      · skip
        refine fw_iconst dX6_writes_75 ⟨by decide, by decide⟩ ?_
        refine fw_istore_n (ls2 := [_, _, _, _]) dX6_writes_76 rfl (by decide) rfl ?_
        refine fw_iconst dX6_writes_77 ⟨by decide, by decide⟩ ?_
        refine fw_istore (ls2 := [_, _, _, _, _]) dX6_writes_78 (by decide) rfl ?_
        have hmade : ¬ (S.1 0 (md_G N (O j) 1) = 0 ∨ ¬ S.1 2 (md_G N (O j) 1) = 1) := by have h01 := hTt.1; have h02 := hTt.2.2.1; omega
        have hlen : ∀ u, 0 ≤ u → u < 12 → (S.2 u).length ≤ 4 := fun u a b => (ab_rows hwf (by omega) hti a b).2
        refine fw_SD_mono (lp_X6_writes (md_G N (O j) 1) (O j) (S.2 (md_G N (O j) 1)) _ (md_G N) mk L (by first | rfl | (apply md_G_of; simp (disch := decide) only [fw_updne])) hx hgr (ab_rows hwf (by omega) hti ht0 (by omega)).1 ⟨ht0, by omega⟩ (by first | exact hTt.2.2.2.2.2.1 | (simp (disch := decide) only [fw_updne]; exact hTt.2.2.2.2.2.1)) (ab_rows hwf (by omega) hti ht0 (by omega)).2 ((S.2 (md_G N (O j) 1)).length + 1) 0 0 _ (by omega) (by decide) (by omega) (by simp) (fun _ _ => rfl) (fun _ _ => rfl) (fun i y h => by simp at h) (fun i y _ h => by first | exact hTt.2.2.2.2.2.2 i y h | (simp (disch := decide) only [fw_updne]; exact hTt.2.2.2.2.2.2 i y h))) ?_
        rintro r M2 L2 ⟨q1, q2, g1, g2, g3, g4, g5⟩
        refine ⟨q1, q2, ?_, fun k a b c d => ?_⟩
        · first
          | (rw [ab_ap_w4 h3 hmade (by have := hTt.2.1; omega)]; exact md_T_hold (S := S) hT g1 g2 g3 g4 g5 hlen)
          | (rw [ab_ap_w3 h3 hmade (by have := hTt.2.1; omega) h35]
             refine md_T_hold (S := (ab_back S.1 (md_G N (O j) 1), S.2)) (md_T_back hT ?_) g1 g2 g3 g4 g5 hlen
             have hf := hti.2.2.1.1.1 (md_G N (O j) 1) ht0 (by omega)
             have hTf := hT (S.1 3 (md_G N (O j) 1)) hf.1 hf.2
             have hfm := hti.2.2.1.2 (md_G N (O j) 1) ht0 (by omega)
             rw [fw_updne (show ¬ (13 : Int) = 11 by decide), hTt.2.2.2.1, fw_updeq, fw_updne (show ¬ (12 : Int) = 11 by decide), hTf.2.1, hTf.2.2.1 (by omega)] at h61
             have e9 : ab_isF (fw_upd S.1 1 (md_G N (O j) 1) 1) (S.1 3 (md_G N (O j) 1)) ↔ (¬ (if S.1 3 (md_G N (O j) 1) = md_G N (O j) 1 then (1 : Int) else S.1 1 (S.1 3 (md_G N (O j) 1))) = 0 ∧ S.1 2 (S.1 3 (md_G N (O j) 1)) = 2) := by
               unfold ab_isF
               rw [fw_updeq, fw_updne (show ¬ (2 : Int) = 1 by decide)]
             first
             | (rw [if_pos (e9.mpr h61), fw_updne (show ¬ (13 : Int) = 11 by decide), hTt.2.2.2.1])
             | (rw [if_neg (fun q => h61 (e9.mp q))]))
        · rw [g1 k c d]
          try simp (disch := omega) only [fw_updne]
      · skip
        refine fw_aload_n dX6_writes_29 rfl rfl ?_
        refine fw_geti 3 rfl dX6_writes_30 ff_6_134 ly1_0 ⟨by decide, by decide⟩ rfl ?_
        refine fw_iconst dX6_writes_33 ⟨by decide, by decide⟩ ?_
        refine fw_iand dX6_writes_34 ?_
        refine fw_if_ne 39 dX6_writes_35 (by decide) (fun h35 => ?_) (fun h35 => ?_)
        · skip
          refine fw_aload_n dX6_writes_39 rfl rfl ?_
          refine fw_getr 15 11 rfl dX6_writes_40 ff_6_46 ly1_0 ⟨by decide, by decide⟩ rfl rfl (by decide) ?_
          refine fw_iload_n dX6_writes_43 rfl rfl ?_
          refine fw_iconst dX6_writes_44 ⟨by decide, by decide⟩ ?_
          refine fw_bastore dX6_writes_45 ly1_11 (by decide) ⟨by decide, by decide⟩ ⟨by omega, by omega⟩ (by omega) ?_
          refine fw_aload_n dX6_writes_46 rfl rfl ?_
          refine fw_getr 17 13 rfl dX6_writes_47 ff_6_52 ly1_0 ⟨by decide, by decide⟩ rfl rfl (by decide) ?_
          refine fw_iload_n dX6_writes_50 rfl rfl ?_
          refine fw_aload_n dX6_writes_51 rfl rfl ?_
          refine fw_aload_n dX6_writes_52 rfl rfl ?_
          refine fw_getr 17 13 rfl dX6_writes_53 ff_6_52 ly1_0 ⟨by decide, by decide⟩ rfl rfl (by decide) ?_
          refine fw_iload_n dX6_writes_56 rfl rfl ?_
          refine fw_iaload dX6_writes_57 ly1_13 ⟨by decide, by decide⟩ ⟨by omega, by omega⟩ ?_
          refine fw_pV mX6_isFolder [_] dX6_writes_58 mv_X6_isFolder lk_6_137 ⟨⟨by decide, by decide⟩, rfl, rfl, rfl, by decide, by decide⟩ ly1_0 ⟨by decide, by decide⟩ rfl rfl (Nat.le_of_ble_eq_true rfl) (sp_X6_isFolder _ _ _ (by rw [fw_updne (show ¬ (13 : Int) = 11 by decide), hTt.2.2.2.1]; exact hti.2.2.1.1.1 _ ht0 (by omega))) ?_
          refine fw_bifeq 73 dX6_writes_61 (by decide) (fun h61 => ?_) (fun h61 => ?_)
          · skip
            refine fw_iconst dX6_writes_73 ⟨by decide, by decide⟩ ?_
            have hf := hti.2.2.1.1.1 (md_G N (O j) 1) ht0 (by omega)
            refine fw_iastore dX6_writes_74 ly1_13 (by decide) ⟨by decide, by decide⟩ ⟨by omega, by omega⟩ ?_
            refine fw_iconst dX6_writes_75 ⟨by decide, by decide⟩ ?_
            refine fw_istore_n (ls2 := [_, _, _, _]) dX6_writes_76 rfl (by decide) rfl ?_
            refine fw_iconst dX6_writes_77 ⟨by decide, by decide⟩ ?_
            refine fw_istore (ls2 := [_, _, _, _, _]) dX6_writes_78 (by decide) rfl ?_
            have hmade : ¬ (S.1 0 (md_G N (O j) 1) = 0 ∨ ¬ S.1 2 (md_G N (O j) 1) = 1) := by have h01 := hTt.1; have h02 := hTt.2.2.1; omega
            have hlen : ∀ u, 0 ≤ u → u < 12 → (S.2 u).length ≤ 4 := fun u a b => (ab_rows hwf (by omega) hti a b).2
            refine fw_SD_mono (lp_X6_writes (md_G N (O j) 1) (O j) (S.2 (md_G N (O j) 1)) _ (md_G N) mk L (by first | rfl | (apply md_G_of; simp (disch := decide) only [fw_updne])) hx hgr (ab_rows hwf (by omega) hti ht0 (by omega)).1 ⟨ht0, by omega⟩ (by first | exact hTt.2.2.2.2.2.1 | (simp (disch := decide) only [fw_updne]; exact hTt.2.2.2.2.2.1)) (ab_rows hwf (by omega) hti ht0 (by omega)).2 ((S.2 (md_G N (O j) 1)).length + 1) 0 0 _ (by omega) (by decide) (by omega) (by simp) (fun _ _ => rfl) (fun _ _ => rfl) (fun i y h => by simp at h) (fun i y _ h => by first | exact hTt.2.2.2.2.2.2 i y h | (simp (disch := decide) only [fw_updne]; exact hTt.2.2.2.2.2.2 i y h))) ?_
            rintro r M2 L2 ⟨q1, q2, g1, g2, g3, g4, g5⟩
            refine ⟨q1, q2, ?_, fun k a b c d => ?_⟩
            · first
              | (rw [ab_ap_w4 h3 hmade (by have := hTt.2.1; omega)]; exact md_T_hold (S := S) hT g1 g2 g3 g4 g5 hlen)
              | (rw [ab_ap_w3 h3 hmade (by have := hTt.2.1; omega) h35]
                 refine md_T_hold (S := (ab_back S.1 (md_G N (O j) 1), S.2)) (md_T_back hT ?_) g1 g2 g3 g4 g5 hlen
                 have hf := hti.2.2.1.1.1 (md_G N (O j) 1) ht0 (by omega)
                 have hTf := hT (S.1 3 (md_G N (O j) 1)) hf.1 hf.2
                 have hfm := hti.2.2.1.2 (md_G N (O j) 1) ht0 (by omega)
                 rw [fw_updne (show ¬ (13 : Int) = 11 by decide), hTt.2.2.2.1, fw_updeq, fw_updne (show ¬ (12 : Int) = 11 by decide), hTf.2.1, hTf.2.2.1 (by omega)] at h61
                 have e9 : ab_isF (fw_upd S.1 1 (md_G N (O j) 1) 1) (S.1 3 (md_G N (O j) 1)) ↔ (¬ (if S.1 3 (md_G N (O j) 1) = md_G N (O j) 1 then (1 : Int) else S.1 1 (S.1 3 (md_G N (O j) 1))) = 0 ∧ S.1 2 (S.1 3 (md_G N (O j) 1)) = 2) := by
                   unfold ab_isF
                   rw [fw_updeq, fw_updne (show ¬ (2 : Int) = 1 by decide)]
                 first
                 | (rw [if_pos (e9.mpr h61), fw_updne (show ¬ (13 : Int) = 11 by decide), hTt.2.2.2.1])
                 | (rw [if_neg (fun q => h61 (e9.mp q))]))
            · rw [g1 k c d]
              try simp (disch := omega) only [fw_updne]
          · skip
            refine fw_aload_n dX6_writes_64 rfl rfl ?_
            refine fw_getr 17 13 rfl dX6_writes_65 ff_6_52 ly1_0 ⟨by decide, by decide⟩ rfl rfl (by decide) ?_
            refine fw_iload_n dX6_writes_68 rfl rfl ?_
            refine fw_iaload dX6_writes_69 ly1_13 ⟨by decide, by decide⟩ ⟨by omega, by omega⟩ ?_
            refine fw_goto 74 dX6_writes_70 (by decide) ?_
            have hf := hti.2.2.1.1.1 (md_G N (O j) 1) ht0 (by omega)
            refine fw_iastore dX6_writes_74 ly1_13 (by decide) ⟨by decide, by decide⟩ ⟨by omega, by omega⟩ ?_
            refine fw_iconst dX6_writes_75 ⟨by decide, by decide⟩ ?_
            refine fw_istore_n (ls2 := [_, _, _, _]) dX6_writes_76 rfl (by decide) rfl ?_
            refine fw_iconst dX6_writes_77 ⟨by decide, by decide⟩ ?_
            refine fw_istore (ls2 := [_, _, _, _, _]) dX6_writes_78 (by decide) rfl ?_
            have hmade : ¬ (S.1 0 (md_G N (O j) 1) = 0 ∨ ¬ S.1 2 (md_G N (O j) 1) = 1) := by have h01 := hTt.1; have h02 := hTt.2.2.1; omega
            have hlen : ∀ u, 0 ≤ u → u < 12 → (S.2 u).length ≤ 4 := fun u a b => (ab_rows hwf (by omega) hti a b).2
            refine fw_SD_mono (lp_X6_writes (md_G N (O j) 1) (O j) (S.2 (md_G N (O j) 1)) _ (md_G N) mk L (by first | rfl | (apply md_G_of; simp (disch := decide) only [fw_updne])) hx hgr (ab_rows hwf (by omega) hti ht0 (by omega)).1 ⟨ht0, by omega⟩ (by first | exact hTt.2.2.2.2.2.1 | (simp (disch := decide) only [fw_updne]; exact hTt.2.2.2.2.2.1)) (ab_rows hwf (by omega) hti ht0 (by omega)).2 ((S.2 (md_G N (O j) 1)).length + 1) 0 0 _ (by omega) (by decide) (by omega) (by simp) (fun _ _ => rfl) (fun _ _ => rfl) (fun i y h => by simp at h) (fun i y _ h => by first | exact hTt.2.2.2.2.2.2 i y h | (simp (disch := decide) only [fw_updne]; exact hTt.2.2.2.2.2.2 i y h))) ?_
            rintro r M2 L2 ⟨q1, q2, g1, g2, g3, g4, g5⟩
            refine ⟨q1, q2, ?_, fun k a b c d => ?_⟩
            · first
              | (rw [ab_ap_w4 h3 hmade (by have := hTt.2.1; omega)]; exact md_T_hold (S := S) hT g1 g2 g3 g4 g5 hlen)
              | (rw [ab_ap_w3 h3 hmade (by have := hTt.2.1; omega) h35]
                 refine md_T_hold (S := (ab_back S.1 (md_G N (O j) 1), S.2)) (md_T_back hT ?_) g1 g2 g3 g4 g5 hlen
                 have hf := hti.2.2.1.1.1 (md_G N (O j) 1) ht0 (by omega)
                 have hTf := hT (S.1 3 (md_G N (O j) 1)) hf.1 hf.2
                 have hfm := hti.2.2.1.2 (md_G N (O j) 1) ht0 (by omega)
                 rw [fw_updne (show ¬ (13 : Int) = 11 by decide), hTt.2.2.2.1, fw_updeq, fw_updne (show ¬ (12 : Int) = 11 by decide), hTf.2.1, hTf.2.2.1 (by omega)] at h61
                 have e9 : ab_isF (fw_upd S.1 1 (md_G N (O j) 1) 1) (S.1 3 (md_G N (O j) 1)) ↔ (¬ (if S.1 3 (md_G N (O j) 1) = md_G N (O j) 1 then (1 : Int) else S.1 1 (S.1 3 (md_G N (O j) 1))) = 0 ∧ S.1 2 (S.1 3 (md_G N (O j) 1)) = 2) := by
                   unfold ab_isF
                   rw [fw_updeq, fw_updne (show ¬ (2 : Int) = 1 by decide)]
                 first
                 | (rw [if_pos (e9.mpr h61), fw_updne (show ¬ (13 : Int) = 11 by decide), hTt.2.2.2.1])
                 | (rw [if_neg (fun q => h61 (e9.mp q))]))
            · rw [g1 k c d]
              try simp (disch := omega) only [fw_updne]
        · skip
          refine fw_vret dX6_writes_38 ⟨rfl, rfl, rfl⟩ ?_
          refine ⟨rfl, rfl, ?_, fun _ _ _ _ _ => rfl⟩
          rw [ab_ap_w2 h3 (by have h01 := hTt.1; have h02 := hTt.2.2.1; omega) (by have := hTt.2.1; omega) h35]
          exact hT
    · skip
      refine fw_vret dX6_writes_19 ⟨rfl, rfl, rfl⟩ ?_
      refine ⟨rfl, rfl, ?_, fun _ _ _ _ _ => rfl⟩
      rw [ab_ap_w1 h3 (by have h01 := hTt.1; have h02 := hTt.2.2.1; omega)]
      exact hT
