/-! the model's pieces -/
def ct_at (N : fw_F) (K : fw_G) (l : List pc_P) : Prop := N 0 28 = (l.length : Int) ∧ ∀ (i : Nat) (a : pc_P), l[i]? = some a → K 24 i = a.1 ∧ N 25 i = a.2
def pm_at (N : fw_F) (K : fw_G) (m : Int) (l : List pc_P) : Prop := N 21 m = (l.length : Int) ∧ ∀ (i : Nat) (a : pc_P), l[i]? = some a → K 22 (200 * m + i) = a.1 ∧ N 23 (200 * m + i) = a.2
def md_fc (N : fw_F) (K : fw_G) (M : fw_F) (L : fw_G) : Prop := (∀ k, ¬ k = 0 → ¬ k = 25 → M k = N k) ∧ (∀ j, ¬ j = 28 → M 0 j = N 0 j) ∧ (∀ k, ¬ k = 24 → L k = K k)
theorem md_fc.rfl' (N : fw_F) (K : fw_G) : md_fc N K N K := ⟨fun _ _ _ => rfl, fun _ _ => rfl, fun _ _ => rfl⟩
theorem md_fc.tr {N M M' : fw_F} {K L L' : fw_G} (h : md_fc N K M L) (h2 : md_fc M L M' L') : md_fc N K M' L' := ⟨fun k a b => (h2.1 k a b).trans (h.1 k a b), fun j a => (h2.2.1 j a).trans (h.2.1 j a), fun k a => (h2.2.2 k a).trans (h.2.2 k a)⟩
theorem ct_at_get {N : fw_F} {K : fw_G} {i : Int} {l : List pc_P} (h : ct_at N K l) (h0 : 0 ≤ i) (h1 : i < N 0 28) : ∃ a : pc_P, l[i.toNat]? = some a ∧ K 24 i = a.1 ∧ N 25 i = a.2 := by
  have h2 := h.1
  have hlt : i.toNat < l.length := by omega
  obtain ⟨a, ha⟩ : ∃ a, l[i.toNat]? = some a := ⟨_, List.getElem?_eq_getElem hlt⟩
  have h3 := h.2 i.toNat a ha
  rw [show ((i.toNat : Nat) : Int) = i by omega] at h3
  exact ⟨a, ha, h3⟩
theorem pm_at_get {N : fw_F} {K : fw_G} {m i : Int} {l : List pc_P} (h : pm_at N K m l) (h0 : 0 ≤ i) (h1 : i < N 21 m) : ∃ a : pc_P, l[i.toNat]? = some a ∧ K 22 (200 * m + i) = a.1 ∧ N 23 (200 * m + i) = a.2 := by
  have h2 := h.1
  have hlt : i.toNat < l.length := by omega
  obtain ⟨a, ha⟩ : ∃ a, l[i.toNat]? = some a := ⟨_, List.getElem?_eq_getElem hlt⟩
  have h3 := h.2 i.toNat a ha
  rw [show ((i.toNat : Nat) : Int) = i by omega] at h3
  exact ⟨a, ha, h3⟩
theorem ct_at_fr {N M : fw_F} {K L : fw_G} {l : List pc_P} (h : ct_at N K l) (h1 : M 0 28 = N 0 28) (h2 : M 25 = N 25) (h3 : L 24 = K 24) : ct_at M L l := by
  unfold ct_at at h ⊢
  rw [h1, h2, h3]
  exact h
theorem pm_at_fr {N M : fw_F} {K L : fw_G} {m : Int} {l : List pc_P} (h : pm_at N K m l) (h1 : M 21 = N 21) (h2 : M 23 = N 23) (h3 : L 22 = K 22) : pm_at M L m l := by
  unfold pm_at at h ⊢
  rw [h1, h2, h3]
  exact h
theorem ct_at_add {N M : fw_F} {K L : fw_G} {v : Int} {x : Int64} {l : List pc_P} (h : ct_at N K l) (h2 : M 0 28 = N 0 28 + 1) (hL : ∀ j, L 24 j = if j = N 0 28 then x else K 24 j) (hM : ∀ j, M 25 j = if j = N 0 28 then v else N 25 j) : ct_at M L (l ++ [(x, v)]) := by
  obtain ⟨e1, e3⟩ := h
  refine ⟨?_, fun i a ha => ?_⟩
  · rw [h2, e1, List.length_append]; rfl
  · rw [hL, hM, e1]
    have hi : i < (l ++ [(x, v)]).length := (List.getElem?_eq_some_iff.mp ha).1
    simp only [List.length_append, List.length_cons, List.length_nil] at hi
    by_cases hq : i < l.length
    · rw [if_neg (by omega), if_neg (by omega)]
      rw [List.getElem?_append_left hq] at ha
      exact e3 i a ha
    · have he : i = l.length := by omega
      rw [if_pos (by omega), if_pos (by omega)]
      rw [he, List.getElem?_append_right (by omega)] at ha
      simp at ha
      rw [← ha]
      exact ⟨rfl, rfl⟩
theorem pm_at_add {N M : fw_F} {K L : fw_G} {m v : Int} {x : Int64} {l : List pc_P} (h : pm_at N K m l) (h2 : M 21 m = N 21 m + 1) (hL : ∀ j, L 22 j = if j = 200 * m + N 21 m then x else K 22 j) (hM : ∀ j, M 23 j = if j = 200 * m + N 21 m then v else N 23 j) : pm_at M L m (l ++ [(x, v)]) := by
  obtain ⟨e1, e3⟩ := h
  refine ⟨?_, fun i a ha => ?_⟩
  · rw [h2, e1, List.length_append]; rfl
  · rw [hL, hM, e1]
    have hi : i < (l ++ [(x, v)]).length := (List.getElem?_eq_some_iff.mp ha).1
    simp only [List.length_append, List.length_cons, List.length_nil] at hi
    by_cases hq : i < l.length
    · rw [if_neg (by omega), if_neg (by omega)]
      rw [List.getElem?_append_left hq] at ha
      exact e3 i a ha
    · have he : i = l.length := by omega
      rw [if_pos (by omega), if_pos (by omega)]
      rw [he, List.getElem?_append_right (by omega)] at ha
      simp at ha
      rw [← ha]
      exact ⟨rfl, rfl⟩
/-- what is written at m's places leaves another's alone -/
theorem pm_at_ot {N M : fw_F} {K L : fw_G} {m u : Int} {l : List pc_P} (hl : l.length ≤ 200) (hu : ¬ u = m) (h : pm_at N K u l) (h1 : M 21 u = N 21 u) (h2 : ∀ j, j < 200 * m ∨ 200 * m + 200 ≤ j → L 22 j = K 22 j ∧ M 23 j = N 23 j) : pm_at M L u l := by
  obtain ⟨e1, e3⟩ := h
  refine ⟨h1.trans e1, fun i a ha => ?_⟩
  have hi := (List.getElem?_eq_some_iff.mp ha).1
  obtain ⟨g1, g2⟩ := h2 (200 * u + i) (by omega)
  rw [g1, g2]
  exact e3 i a ha

set_option maxRecDepth 20000 in
set_option maxHeartbeats 4000000 in
theorem li_X6_cuts (c : List pc_P) (M : fw_F) (L : fw_G) (hl : ct_at M L c) (hc : c.length < 704) (x y : Int64) (v w i b : Int) (Q : fw_P) (hk : ∀ f, (f = 0 ∨ f = 1) → (f = 1 ↔ (y, w) ∈ c) → fw_D mX6_cuts 111 [some (fw_r 0), some (fw_l x), none, some (fw_i v), some (fw_l y), none, some (fw_i w), some (fw_i i), some (fw_i b), some (fw_i f)] [] M L Q) : ∀ (q : Nat) (j f : Int), (c.length : Int) - j < q → 0 ≤ j → j ≤ c.length → (f = 0 ∨ f = 1) → (f = 1 ↔ ∃ u : Nat, (u : Int) < j ∧ c[u]? = some (y, w)) → fw_D mX6_cuts 61 [some (fw_r 0), some (fw_l x), none, some (fw_i v), some (fw_l y), none, some (fw_i w), some (fw_i i), some (fw_i b), some (fw_i f), some (fw_i j)] [] M L Q := by
  intro q
  induction q with
  | zero => intro j f h0 h1 h2; omega
  | succ q ih =>
    intro j f h0 h1 h2 h3 h4
    have e1 := hl.1
    refine fw_iload dX6_cuts_61 rfl ?_
    refine fw_aload_n dX6_cuts_63 rfl rfl ?_
    refine fw_geti 28 rfl dX6_cuts_64 ff_6_200 ly1_0 ⟨by decide, by decide⟩ rfl ?_
    refine fw_icmp_ge 111 dX6_cuts_67 (by decide) (fun h67 => ?_) (fun h67 => ?_)
    · skip
      refine fw_take 10 ?_
      refine hk f h3 (h4.trans ⟨fun ⟨u, u1, u2⟩ => List.mem_of_getElem? u2, fun h => ?_⟩)
      obtain ⟨u, hu⟩ := List.getElem?_of_mem h
      have := (List.getElem?_eq_some_iff.mp hu).1
      exact ⟨u, by omega, hu⟩
    · skip
      obtain ⟨a, ha, a1, a2⟩ := ct_at_get hl h1 (by omega)
      refine fw_iload dX6_cuts_70 rfl ?_
      refine fw_aload_n dX6_cuts_72 rfl rfl ?_
      refine fw_getr 29 24 rfl dX6_cuts_73 ff_6_85 ly1_0 ⟨by decide, by decide⟩ rfl rfl (by decide) ?_
      refine fw_iload dX6_cuts_76 rfl ?_
      refine fw_laload dX6_cuts_78 ly1_24 ⟨by decide, by decide⟩ ⟨by omega, by omega⟩ ?_
      refine fw_lload dX6_cuts_79 rfl ?_
      refine fw_lcmp dX6_cuts_81 ?_
      refine fw_if_ne 101 dX6_cuts_82 (by decide) (fun h82 => ?_) (fun h82 => ?_)
      · skip
        refine fw_iconst dX6_cuts_101 ⟨by decide, by decide⟩ ?_
        refine fw_ior dX6_cuts_102 ?_
        refine fw_istore (ls2 := [_, _, _, _, _, _, _, _, _, _, _]) dX6_cuts_103 (by decide) rfl ?_
        refine fw_iinc (ls2 := [_, _, _, _, _, _, _, _, _, _, _]) dX6_cuts_105 rfl ⟨by omega, by omega⟩ (by decide) rfl ?_
        refine fw_goto 61 dX6_cuts_108 (by decide) ?_
        rw [fw_or01 h3 (by first | exact Or.inl rfl | exact Or.inr rfl)]
        rw [if_pos (show (0 : Int) = 0 from rfl)]
        refine ih (j + 1) f (by omega) (by omega) (by omega) h3 (h4.trans ⟨fun ⟨u, u1, u2⟩ => ⟨u, by omega, u2⟩, fun ⟨u, u1, u2⟩ => ?_⟩)
        rcases (show (u : Int) < j ∨ u = j.toNat by omega) with u5 | u5
        · exact ⟨u, u5, u2⟩
        · rw [u5, ha] at u2; injection u2 with u2; rw [u2] at a1 a2
          exact absurd (fw_cmp_0.mpr a1) h82
      · skip
        refine fw_aload_n dX6_cuts_85 rfl rfl ?_
        refine fw_getr 30 25 rfl dX6_cuts_86 ff_6_88 ly1_0 ⟨by decide, by decide⟩ rfl rfl (by decide) ?_
        refine fw_iload dX6_cuts_89 rfl ?_
        refine fw_iaload dX6_cuts_91 ly1_25 ⟨by decide, by decide⟩ ⟨by omega, by omega⟩ ?_
        refine fw_iload dX6_cuts_92 rfl ?_
        refine fw_icmp_ne 101 dX6_cuts_94 (by decide) (fun h94 => ?_) (fun h94 => ?_)
        · skip
          refine fw_iconst dX6_cuts_101 ⟨by decide, by decide⟩ ?_
          refine fw_ior dX6_cuts_102 ?_
          refine fw_istore (ls2 := [_, _, _, _, _, _, _, _, _, _, _]) dX6_cuts_103 (by decide) rfl ?_
          refine fw_iinc (ls2 := [_, _, _, _, _, _, _, _, _, _, _]) dX6_cuts_105 rfl ⟨by omega, by omega⟩ (by decide) rfl ?_
          refine fw_goto 61 dX6_cuts_108 (by decide) ?_
          rw [fw_or01 h3 (by first | exact Or.inl rfl | exact Or.inr rfl)]
          rw [if_pos (show (0 : Int) = 0 from rfl)]
          refine ih (j + 1) f (by omega) (by omega) (by omega) h3 (h4.trans ⟨fun ⟨u, u1, u2⟩ => ⟨u, by omega, u2⟩, fun ⟨u, u1, u2⟩ => ?_⟩)
          rcases (show (u : Int) < j ∨ u = j.toNat by omega) with u5 | u5
          · exact ⟨u, u5, u2⟩
          · rw [u5, ha] at u2; injection u2 with u2; rw [u2] at a1 a2
            exact absurd a2 h94
        · skip
          refine fw_iconst dX6_cuts_97 ⟨by decide, by decide⟩ ?_
          refine fw_goto 102 dX6_cuts_98 (by decide) ?_
          refine fw_ior dX6_cuts_102 ?_
          refine fw_istore (ls2 := [_, _, _, _, _, _, _, _, _, _, _]) dX6_cuts_103 (by decide) rfl ?_
          refine fw_iinc (ls2 := [_, _, _, _, _, _, _, _, _, _, _]) dX6_cuts_105 rfl ⟨by omega, by omega⟩ (by decide) rfl ?_
          refine fw_goto 61 dX6_cuts_108 (by decide) ?_
          rw [fw_or01 h3 (by first | exact Or.inl rfl | exact Or.inr rfl)]
          rw [if_neg (show ¬ (1 : Int) = 0 by decide)]
          refine ih (j + 1) 1 (by omega) (by omega) (by omega) (Or.inr rfl) ⟨fun _ => ⟨j.toNat, by omega, ?_⟩, fun _ => rfl⟩
          rw [ha, show a = (y, w) from Prod.ext (a1.symm.trans (fw_cmp_0.mp h82)) (a2.symm.trans h94)]

set_option maxRecDepth 20000 in
set_option maxHeartbeats 4000000 in
theorem lp_X6_cuts (c : List pc_P) (N : fw_F) (K : fw_G) (hl : ct_at N K c) (hok : pc_ok c) (x : Int64) (v : Int) (hv : 0 ≤ v ∧ v ≤ 8) (hc : c.length + v.toNat ≤ 704) : ∀ (q : Nat) (i w : Int) (y : Int64) (M : fw_F) (L : fw_G), v - i < q → 0 ≤ i → i ≤ v → y = (pc_sq x v i.toNat).1 → w = (pc_sq x v i.toNat).2.1 → ct_at M L (pc_all c (pc_sq x v i.toNat).2.2) → md_fc N K M L → fw_D mX6_cuts 9 [some (fw_r 0), some (fw_l x), none, some (fw_i v), some (fw_l y), none, some (fw_i w), some (fw_i i)] [] M L (fun r M2 L2 => r = none ∧ md_fc N K M2 L2 ∧ ct_at M2 L2 (pc_all c (pc_cs x v))) := by
  intro q
  induction q with
  | zero => intro i w y M L h0 h1 h2; omega
  | succ q ih =>
    intro i w y M L h0 h1 h2 hy hw hl2 hfc
    obtain ⟨k1, k2, k3⟩ := pc_sq_ok x v i.toNat (by omega)
    have hln := pc_all_len (pc_sq x v i.toNat).2.2 c
    have e1 := hl2.1
    refine fw_iload dX6_cuts_9 rfl ?_
    refine fw_iload_n dX6_cuts_11 rfl rfl ?_
    refine fw_icmp_ge 160 dX6_cuts_12 (by decide) (fun h12 => ?_) (fun h12 => ?_)
    · skip
      refine fw_vret dX6_cuts_160 ⟨rfl, rfl, rfl⟩ ?_
      rw [show i.toNat = v.toNat by omega] at hl2
      exact ⟨rfl, hfc, hl2⟩
    · skip
      have hb := ab_by_rng x (n := v) (i := i) ⟨h1, by omega⟩ hv.2
      have hs := pc_sq_s x v h1
      refine fw_lload_n dX6_cuts_15 rfl rfl ?_
      refine fw_iload_n dX6_cuts_16 rfl rfl ?_
      refine fw_iload dX6_cuts_17 rfl ?_
      refine fw_pS mX6_byteOf [_, _, _] dX6_cuts_19 mv_X6_byteOf lk_6_194 ⟨⟨by decide, by decide⟩, rfl, rfl, rfl, by decide, by decide⟩ rfl rfl (Nat.le_of_ble_eq_true rfl) (sp_X6_byteOf _ _ _ _ _ (by omega) (by omega)) ?_
      refine fw_istore (ls2 := [_, _, _, _, _, _, _, _, _]) dX6_cuts_22 (by decide) rfl ?_
      refine fw_ldc2 dX6_cuts_24 cl_6_198 ?_
      refine fw_lload dX6_cuts_27 rfl ?_
      refine fw_lmul dX6_cuts_29 ?_
      refine fw_iload dX6_cuts_30 rfl ?_
      refine fw_i2l dX6_cuts_32 ?_
      refine fw_ladd dX6_cuts_33 ?_
      rw [pc_nx_mul y hb.1 hb.2]
      refine fw_lstore (ls2 := [_, _, _, _, _, _, _, _, _]) dX6_cuts_34 (by decide) rfl ?_
      refine fw_iinc (ls2 := [_, _, _, _, _, _, _, _, _]) dX6_cuts_36 rfl ⟨by omega, by omega⟩ (by decide) rfl ?_
      refine fw_iload dX6_cuts_39 rfl ?_
      refine fw_iconst dX6_cuts_41 ⟨by decide, by decide⟩ ?_
      refine fw_irem dX6_cuts_42 (by omega) (by omega) ?_
      refine fw_iconst dX6_cuts_43 ⟨by decide, by decide⟩ ?_
      refine fw_icmp_eq 55 dX6_cuts_44 (by decide) (fun h44 => ?_) (fun h44 => ?_)
      · skip
        refine fw_iconst dX6_cuts_55 ⟨by decide, by decide⟩ ?_
        refine fw_istore (ls2 := [_, _, _, _, _, _, _, _, _, _]) dX6_cuts_56 (by decide) rfl ?_
        refine fw_iconst dX6_cuts_58 ⟨by decide, by decide⟩ ?_
        refine fw_istore (ls2 := [_, _, _, _, _, _, _, _, _, _, _]) dX6_cuts_59 (by decide) rfl ?_
        have hcc : ab_by x v i % 4 = 3 ∨ i = v - 1 := Or.inl h44
        refine li_X6_cuts (pc_all c (pc_sq x v i.toNat).2.2) _ _ hl2 (by omega) x _ v _ i _ _ (fun f f1 f2 => ?_) 705 0 0 (by omega) (by decide) (by omega) (Or.inl rfl) ⟨fun z => by omega, fun ⟨u, u1, _⟩ => by omega⟩
        refine fw_iload dX6_cuts_111 rfl ?_
        refine fw_if_ne 148 dX6_cuts_113 (by decide) (fun h113 => ?_) (fun h113 => ?_)
        · skip
          refine fw_lconst (v := 0) dX6_cuts_148 (by decide) ?_
          refine fw_lstore (ls2 := [_, _, _, _, _, _, _, _, _, _]) dX6_cuts_149 (by decide) rfl ?_
          refine fw_iconst dX6_cuts_151 ⟨by decide, by decide⟩ ?_
          refine fw_istore (ls2 := [_, _, _, _, _, _, _, _, _, _]) dX6_cuts_152 (by decide) rfl ?_
          refine fw_iinc (ls2 := [_, _, _, _, _, _, _, _, _, _]) dX6_cuts_154 rfl ⟨by omega, by omega⟩ (by decide) rfl ?_
          refine fw_goto 9 dX6_cuts_157 (by decide) ?_
          refine fw_take 8 ?_
          refine ih (i + 1) _ _ _ _ (by omega) (by omega) (by omega) (by rw [hs, if_pos hcc]) (by rw [hs, if_pos hcc]) ?_ ?_
          · rw [hs, if_pos hcc]
            show ct_at _ _ (pc_all c (_ ++ [_]))
            rw [pc_all_app, pc_all_one, ← hy, ← hw]
            rw [pc_ins, if_pos (f2.mp (by omega))]; exact hl2
          · exact hfc
        · skip
          refine fw_aload_n dX6_cuts_116 rfl rfl ?_
          refine fw_getr 29 24 rfl dX6_cuts_117 ff_6_85 ly1_0 ⟨by decide, by decide⟩ rfl rfl (by decide) ?_
          refine fw_aload_n dX6_cuts_120 rfl rfl ?_
          refine fw_geti 28 rfl dX6_cuts_121 ff_6_200 ly1_0 ⟨by decide, by decide⟩ rfl ?_
          refine fw_lload dX6_cuts_124 rfl ?_
          refine fw_lastore dX6_cuts_126 ly1_24 (by decide) ⟨by decide, by decide⟩ ⟨by omega, by omega⟩ ?_
          refine fw_aload_n dX6_cuts_127 rfl rfl ?_
          refine fw_getr 30 25 rfl dX6_cuts_128 ff_6_88 ly1_0 ⟨by decide, by decide⟩ rfl rfl (by decide) ?_
          refine fw_aload_n dX6_cuts_131 rfl rfl ?_
          refine fw_geti 28 rfl dX6_cuts_132 ff_6_200 ly1_0 ⟨by decide, by decide⟩ rfl ?_
          refine fw_iload dX6_cuts_135 rfl ?_
          refine fw_iastore dX6_cuts_137 ly1_25 (by decide) ⟨by decide, by decide⟩ ⟨by omega, by omega⟩ ?_
          refine fw_aload_n dX6_cuts_138 rfl rfl ?_
          refine fw_dup dX6_cuts_139 rfl ?_
          refine fw_geti 28 rfl dX6_cuts_140 ff_6_200 ly1_0 ⟨by decide, by decide⟩ rfl ?_
          simp (disch := decide) only [fw_updne]
          refine fw_iconst dX6_cuts_143 ⟨by decide, by decide⟩ ?_
          refine fw_iadd dX6_cuts_144 ⟨by omega, by omega⟩ ?_
          refine fw_puti 28 rfl dX6_cuts_145 fp_6_200 ly1_0 (by decide) ⟨by decide, by decide⟩ rfl ?_
          refine fw_lconst (v := 0) dX6_cuts_148 (by decide) ?_
          refine fw_lstore (ls2 := [_, _, _, _, _, _, _, _, _, _]) dX6_cuts_149 (by decide) rfl ?_
          refine fw_iconst dX6_cuts_151 ⟨by decide, by decide⟩ ?_
          refine fw_istore (ls2 := [_, _, _, _, _, _, _, _, _, _]) dX6_cuts_152 (by decide) rfl ?_
          refine fw_iinc (ls2 := [_, _, _, _, _, _, _, _, _, _]) dX6_cuts_154 rfl ⟨by omega, by omega⟩ (by decide) rfl ?_
          refine fw_goto 9 dX6_cuts_157 (by decide) ?_
          refine fw_take 8 ?_
          refine ih (i + 1) _ _ _ _ (by omega) (by omega) (by omega) (by rw [hs, if_pos hcc]) (by rw [hs, if_pos hcc]) ?_ ?_
          · rw [hs, if_pos hcc]
            show ct_at _ _ (pc_all c (_ ++ [_]))
            rw [pc_all_app, pc_all_one, ← hy, ← hw]
            rw [pc_ins, if_neg (fun h => by have := f2.mpr h; omega)]
            refine ct_at_add hl2 ?_ (fun j => fw_upleq j) (fun j => ?_)
            · rw [fw_updj]
            · rw [fw_updne (by decide), fw_updeq]
          · refine hfc.tr ⟨fun k a b => ?_, fun j a => ?_, fun k a => fw_uplne a⟩
            · rw [fw_updne a, fw_updne b]
            · rw [fw_updjn a, fw_updne (by decide)]
      · skip
        refine fw_iload dX6_cuts_47 rfl ?_
        refine fw_iload_n dX6_cuts_49 rfl rfl ?_
        refine fw_iconst dX6_cuts_50 ⟨by decide, by decide⟩ ?_
        refine fw_isub dX6_cuts_51 ⟨by omega, by omega⟩ ?_
        refine fw_icmp_ne 154 dX6_cuts_52 (by decide) (fun h52 => ?_) (fun h52 => ?_)
        · skip
          refine fw_iinc (ls2 := [_, _, _, _, _, _, _, _, _]) dX6_cuts_154 rfl ⟨by omega, by omega⟩ (by decide) rfl ?_
          refine fw_goto 9 dX6_cuts_157 (by decide) ?_
          refine fw_take 8 ?_
          refine ih (i + 1) _ _ _ _ (by omega) (by omega) (by omega) (by rw [hs, if_neg (fun z => by rcases z with z | z; exact h44 z; exact h52 z), hy]) (by rw [hs, if_neg (fun z => by rcases z with z | z; exact h44 z; exact h52 z), hw]) (by rw [hs, if_neg (fun z => by rcases z with z | z; exact h44 z; exact h52 z)]; exact hl2) hfc
        · skip
          refine fw_iconst dX6_cuts_55 ⟨by decide, by decide⟩ ?_
          refine fw_istore (ls2 := [_, _, _, _, _, _, _, _, _, _]) dX6_cuts_56 (by decide) rfl ?_
          refine fw_iconst dX6_cuts_58 ⟨by decide, by decide⟩ ?_
          refine fw_istore (ls2 := [_, _, _, _, _, _, _, _, _, _, _]) dX6_cuts_59 (by decide) rfl ?_
          have hcc : ab_by x v i % 4 = 3 ∨ i = v - 1 := Or.inr h52
          refine li_X6_cuts (pc_all c (pc_sq x v i.toNat).2.2) _ _ hl2 (by omega) x _ v _ i _ _ (fun f f1 f2 => ?_) 705 0 0 (by omega) (by decide) (by omega) (Or.inl rfl) ⟨fun z => by omega, fun ⟨u, u1, _⟩ => by omega⟩
          refine fw_iload dX6_cuts_111 rfl ?_
          refine fw_if_ne 148 dX6_cuts_113 (by decide) (fun h113 => ?_) (fun h113 => ?_)
          · skip
            refine fw_lconst (v := 0) dX6_cuts_148 (by decide) ?_
            refine fw_lstore (ls2 := [_, _, _, _, _, _, _, _, _, _]) dX6_cuts_149 (by decide) rfl ?_
            refine fw_iconst dX6_cuts_151 ⟨by decide, by decide⟩ ?_
            refine fw_istore (ls2 := [_, _, _, _, _, _, _, _, _, _]) dX6_cuts_152 (by decide) rfl ?_
            refine fw_iinc (ls2 := [_, _, _, _, _, _, _, _, _, _]) dX6_cuts_154 rfl ⟨by omega, by omega⟩ (by decide) rfl ?_
            refine fw_goto 9 dX6_cuts_157 (by decide) ?_
            refine fw_take 8 ?_
            refine ih (i + 1) _ _ _ _ (by omega) (by omega) (by omega) (by rw [hs, if_pos hcc]) (by rw [hs, if_pos hcc]) ?_ ?_
            · rw [hs, if_pos hcc]
              show ct_at _ _ (pc_all c (_ ++ [_]))
              rw [pc_all_app, pc_all_one, ← hy, ← hw]
              rw [pc_ins, if_pos (f2.mp (by omega))]; exact hl2
            · exact hfc
          · skip
            refine fw_aload_n dX6_cuts_116 rfl rfl ?_
            refine fw_getr 29 24 rfl dX6_cuts_117 ff_6_85 ly1_0 ⟨by decide, by decide⟩ rfl rfl (by decide) ?_
            refine fw_aload_n dX6_cuts_120 rfl rfl ?_
            refine fw_geti 28 rfl dX6_cuts_121 ff_6_200 ly1_0 ⟨by decide, by decide⟩ rfl ?_
            refine fw_lload dX6_cuts_124 rfl ?_
            refine fw_lastore dX6_cuts_126 ly1_24 (by decide) ⟨by decide, by decide⟩ ⟨by omega, by omega⟩ ?_
            refine fw_aload_n dX6_cuts_127 rfl rfl ?_
            refine fw_getr 30 25 rfl dX6_cuts_128 ff_6_88 ly1_0 ⟨by decide, by decide⟩ rfl rfl (by decide) ?_
            refine fw_aload_n dX6_cuts_131 rfl rfl ?_
            refine fw_geti 28 rfl dX6_cuts_132 ff_6_200 ly1_0 ⟨by decide, by decide⟩ rfl ?_
            refine fw_iload dX6_cuts_135 rfl ?_
            refine fw_iastore dX6_cuts_137 ly1_25 (by decide) ⟨by decide, by decide⟩ ⟨by omega, by omega⟩ ?_
            refine fw_aload_n dX6_cuts_138 rfl rfl ?_
            refine fw_dup dX6_cuts_139 rfl ?_
            refine fw_geti 28 rfl dX6_cuts_140 ff_6_200 ly1_0 ⟨by decide, by decide⟩ rfl ?_
            simp (disch := decide) only [fw_updne]
            refine fw_iconst dX6_cuts_143 ⟨by decide, by decide⟩ ?_
            refine fw_iadd dX6_cuts_144 ⟨by omega, by omega⟩ ?_
            refine fw_puti 28 rfl dX6_cuts_145 fp_6_200 ly1_0 (by decide) ⟨by decide, by decide⟩ rfl ?_
            refine fw_lconst (v := 0) dX6_cuts_148 (by decide) ?_
            refine fw_lstore (ls2 := [_, _, _, _, _, _, _, _, _, _]) dX6_cuts_149 (by decide) rfl ?_
            refine fw_iconst dX6_cuts_151 ⟨by decide, by decide⟩ ?_
            refine fw_istore (ls2 := [_, _, _, _, _, _, _, _, _, _]) dX6_cuts_152 (by decide) rfl ?_
            refine fw_iinc (ls2 := [_, _, _, _, _, _, _, _, _, _]) dX6_cuts_154 rfl ⟨by omega, by omega⟩ (by decide) rfl ?_
            refine fw_goto 9 dX6_cuts_157 (by decide) ?_
            refine fw_take 8 ?_
            refine ih (i + 1) _ _ _ _ (by omega) (by omega) (by omega) (by rw [hs, if_pos hcc]) (by rw [hs, if_pos hcc]) ?_ ?_
            · rw [hs, if_pos hcc]
              show ct_at _ _ (pc_all c (_ ++ [_]))
              rw [pc_all_app, pc_all_one, ← hy, ← hw]
              rw [pc_ins, if_neg (fun h => by have := f2.mpr h; omega)]
              refine ct_at_add hl2 ?_ (fun j => fw_upleq j) (fun j => ?_)
              · rw [fw_updj]
              · rw [fw_updne (by decide), fw_updeq]
            · refine hfc.tr ⟨fun k a b => ?_, fun j a => ?_, fun k a => fw_uplne a⟩
              · rw [fw_updne a, fw_updne b]
              · rw [fw_updjn a, fw_updne (by decide)]

set_option maxRecDepth 20000 in
set_option maxHeartbeats 4000000 in
theorem sp_X6_cuts (c : List pc_P) (N : fw_F) (K : fw_G) (hl : ct_at N K c) (hok : pc_ok c) (x : Int64) (v : Int) (hv : 0 ≤ v ∧ v ≤ 8) (hc : c.length + v.toNat ≤ 704) : fw_SD mX6_cuts [fw_r 0, fw_l x, fw_i v] N K (fun r M2 L2 => r = none ∧ md_fc N K M2 L2 ∧ ct_at M2 L2 (pc_all c (pc_cs x v))) := by
  refine fw_SP_of pl_X6_cuts (ls := [_, _, _, _]) rfl (Nat.le_of_ble_eq_true rfl) fun hA hM => ?_
  refine fw_lconst (v := 0) dX6_cuts_0 (by decide) ?_
  refine fw_lstore (ls2 := [_, _, _, _, _]) dX6_cuts_1 (by decide) rfl ?_
  refine fw_iconst dX6_cuts_3 ⟨by decide, by decide⟩ ?_
  refine fw_istore (ls2 := [_, _, _, _, _, _, _]) dX6_cuts_4 (by decide) rfl ?_
  refine fw_iconst dX6_cuts_6 ⟨by decide, by decide⟩ ?_
  refine fw_istore (ls2 := [_, _, _, _, _, _, _, _]) dX6_cuts_7 (by decide) rfl ?_
  exact lp_X6_cuts c N K hl hok x v hv hc 9 0 0 0 N K (by omega) (by decide) (by omega) rfl rfl hl (md_fc.rfl' N K)
