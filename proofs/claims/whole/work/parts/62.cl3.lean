theorem cl_ins_rng {N : fw_F} {x T : Int} {O O2 : Int → Int} (h : cl_ins N x T O O2) {P : Int → Prop} (hO : ∀ j, 0 ≤ j → j < T → P (O j)) (hx : P x) : ∀ j, 0 ≤ j → j < T + 1 → P (O2 j) := by
  obtain ⟨pl, p0, p1, a, b, c, -⟩ := h
  intro j j0 j1
  rcases Int.lt_trichotomy j pl with q | q | q
  · rw [a j j0 q]; exact hO j j0 (by omega)
  · rw [q, b]; exact hx
  · rw [c j q (by omega)]; exact hO (j - 1) (by omega) (by omega)
theorem cl_ins_of {M N : fw_F} {x T : Int} {O O2 : Int → Int} (h : cl_ins N x T O O2) (hx : M (8 + 2 * x) = N (8 + 2 * x)) (hO : ∀ j, 0 ≤ j → j < T → M (8 + 2 * O j) = N (8 + 2 * O j)) : cl_ins M x T O O2 := by
  obtain ⟨pl, p0, p1, a, b, c, d, e⟩ := h
  refine ⟨pl, p0, p1, a, b, c, fun j j0 j1 => ?_, fun q => ?_⟩
  · unfold cl_ah; rw [hx, hO j (by omega) j1]; exact d j j0 j1
  · unfold cl_ah; rw [hx, hO (pl - 1) (by omega) (by omega)]; exact e q

set_option maxRecDepth 20000 in
set_option maxHeartbeats 4000000 in
theorem tl_X1_append (m act su T d : Int) (N : fw_F) (L : fw_G) (hm : 0 ≤ m ∧ m < 4) (hd : N 1 7 = d) (hd0 : 0 ≤ d ∧ d < 30) (hf : 0 ≤ N 4 m ∧ N 4 m < 20) (hkn : ∀ p, 0 ≤ p → p < 4 → 0 ≤ N 5 ((d * 4 + m) * 4 + p) ∧ N 5 ((d * 4 + m) * 4 + p) ≤ 20 ∧ (p = m → N 5 ((d * 4 + m) * 4 + p) = N 4 m)) (hhg : ∀ p, 0 ≤ p → p < 4 → 0 < N 5 ((d * 4 + m) * 4 + p) → 0 ≤ N (8 + 2 * (p * 20 + (N 5 ((d * 4 + m) * 4 + p) - 1))) 5 ∧ N (8 + 2 * (p * 20 + (N 5 ((d * 4 + m) * 4 + p) - 1))) 5 ≤ 80) (G : fw_F) (hT : N 1 6 = T) (hT0 : 0 ≤ T ∧ T < 80) (hO : ∀ j, 0 ≤ j → j < T → (0 ≤ N 3 j ∧ N 3 j < 80) ∧ N (8 + 2 * N 3 j) 1 = N 3 j / 20 ∧ N (8 + 2 * N 3 j) 2 = N 3 j % 20 ∧ (∀ p, 0 ≤ p → p < 4 → N (8 + 2 * N 3 j + 1) p = G (N 3 j) (6 + p)) ∧ ¬ N 3 j = (m * 20 + N 4 m)) (hGx : ∀ p, 0 ≤ p → p < 4 → G (m * 20 + N 4 m) (6 + p) = N 5 ((d * 4 + m) * 4 + p)) (hap : ab_apok (N 6)) (M : fw_F) : (∀ k, ¬ k = (8 + 2 * (m * 20 + N 4 m)) → ¬ k = (8 + 2 * (m * 20 + N 4 m)) + 1 → M k = N k) → (M (8 + 2 * (m * 20 + N 4 m)) 1 = m ∧ M (8 + 2 * (m * 20 + N 4 m)) 2 = N 4 m ∧ M (8 + 2 * (m * 20 + N 4 m)) 3 = act ∧ M (8 + 2 * (m * 20 + N 4 m)) 4 = su ∧ M (8 + 2 * (m * 20 + N 4 m)) 6 = d) → (∀ f, f < 1 ∨ 6 < f → M (8 + 2 * (m * 20 + N 4 m)) f = N (8 + 2 * (m * 20 + N 4 m)) f) → M (8 + 2 * (m * 20 + N 4 m)) 5 = ab_hh (fun p => N 5 ((d * 4 + m) * 4 + p)) (fun p => N (8 + 2 * (p * 20 + (N 5 ((d * 4 + m) * 4 + p) - 1))) 5) 4 → (∀ u, 0 ≤ u → u < 4 → M ((8 + 2 * (m * 20 + N 4 m)) + 1) u = N 5 ((d * 4 + m) * 4 + u)) → fw_C mX1_append 128 [some (fw_r 1), some (fw_i m), some (fw_i act), some (fw_i su), some (fw_r (8 + 2 * (m * 20 + N 4 m)))] [] M L (fun r M2 L2 => r = some (fw_r (8 + 2 * (m * 20 + N 4 m))) ∧ L2 = L ∧ (∀ k, ¬ k = 1 → ¬ k = 3 → ¬ k = 4 → ¬ k = 5 → ¬ k = 7 → ¬ k = (8 + 2 * (m * 20 + N 4 m)) → ¬ k = (8 + 2 * (m * 20 + N 4 m)) + 1 → M2 k = N k) ∧ (M2 1 6 = T + 1 ∧ ∀ j, ¬ j = 6 → M2 1 j = N 1 j) ∧ (∀ p, M2 4 p = if p = m then N 4 m + 1 else N 4 p) ∧ (∀ z, M2 5 z = if z = (d * 4 + m) * 4 + m then N 5 z + 1 else N 5 z) ∧ (M2 (8 + 2 * (m * 20 + N 4 m)) 1 = m ∧ M2 (8 + 2 * (m * 20 + N 4 m)) 2 = N 4 m ∧ M2 (8 + 2 * (m * 20 + N 4 m)) 3 = act ∧ M2 (8 + 2 * (m * 20 + N 4 m)) 4 = su ∧ M2 (8 + 2 * (m * 20 + N 4 m)) 5 = ab_hh (fun p => N 5 ((d * 4 + m) * 4 + p)) (fun p => N (8 + 2 * (p * 20 + (N 5 ((d * 4 + m) * 4 + p) - 1))) 5) 4 ∧ M2 (8 + 2 * (m * 20 + N 4 m)) 6 = d) ∧ (∀ f, f < 1 ∨ 6 < f → M2 (8 + 2 * (m * 20 + N 4 m)) f = N (8 + 2 * (m * 20 + N 4 m)) f) ∧ (∀ u, 0 ≤ u → u < 4 → M2 ((8 + 2 * (m * 20 + N 4 m)) + 1) u = N 5 ((d * 4 + m) * 4 + u)) ∧ cl_ins M2 (m * 20 + N 4 m) T (N 3) (M2 3) ∧ ∀ p, 0 ≤ p → p < 4 → M2 7 p = ab_LF G (M2 3) (N 6) (T + 1).toNat p) := by
  intro hk h3 h4 h5 h6
  have e1 := hk 1 (by omega) (by omega)
  have e3 := hk 3 (by omega) (by omega)
  have e4 := hk 4 (by omega) (by omega)
  have e5 := hk 5 (by omega) (by omega)
  have e6 := hk 6 (by omega) (by omega)
  have hold : ∀ j, 0 ≤ j → j < T → M (8 + 2 * N 3 j) = N (8 + 2 * N 3 j) ∧ M (8 + 2 * N 3 j + 1) = N (8 + 2 * N 3 j + 1) := fun j a b => by have h9 := hO j a b; have h8 := h9.1; have h7 := h9.2.2.2.2; exact ⟨hk _ (by omega) (by omega), hk _ (by omega) (by omega)⟩
  refine fw_aload_n dX1_append_128 rfl rfl ?_
  refine fw_aload dX1_append_129 rfl ?_
  refine fw_cV mX1_putInOrder [_] dX1_append_131 mv_X1_putInOrder lk_1_79 ⟨⟨by decide, by decide⟩, rfl, rfl, rfl, by decide, by decide⟩ ly0_1 ⟨by decide, by decide⟩ rfl rfl (Nat.le_of_ble_eq_true rfl) (sp_X1_putInOrder (m * 20 + N 4 m) T M L (by omega) (by rw [e1]; exact hT) hT0 (fun j a b => by rw [e3]; exact (hO j a b).1) (by rw [h3.1]; omega) (by rw [h3.2.1]; omega)) (fun r M1 L1 hp hM1 => ?_)
  obtain ⟨rfl, rfl, g1, g2, g3, g4⟩ := hp
  rw [e3] at g4
  have q4 := g1 4 (by decide) (by decide)
  have q5 := g1 5 (by decide) (by decide)
  have q17 : M1 1 7 = d := by rw [g3 7 (by decide), e1]; exact hd
  refine fw_aload_n dX1_append_134 rfl rfl ?_
  refine fw_getr 2 4 rfl dX1_append_135 ff_1_21 ly0_1 ⟨by decide, by decide⟩ rfl rfl (by decide) ?_
  refine fw_iload_n dX1_append_138 rfl rfl ?_
  refine fw_dup2 dX1_append_139 rfl rfl ?_
  refine fw_iaload dX1_append_140 ly0_4 ⟨by decide, by decide⟩ ⟨by omega, by omega⟩ ?_
  refine fw_iconst dX1_append_141 ⟨by decide, by decide⟩ ?_
  refine fw_iadd dX1_append_142 (by rw [q4, e4]; exact ⟨by omega, by omega⟩) ?_
  refine fw_iastore dX1_append_143 ly0_4 (by decide) ⟨by decide, by decide⟩ ⟨by omega, by omega⟩ ?_
  refine fw_aload_n dX1_append_144 rfl rfl ?_
  refine fw_getr 3 5 rfl dX1_append_145 ff_1_24 ly0_1 ⟨by decide, by decide⟩ rfl rfl (by decide) ?_
  refine fw_aload_n dX1_append_148 rfl rfl ?_
  refine fw_geti 7 rfl dX1_append_149 ff_1_38 ly0_1 ⟨by decide, by decide⟩ rfl ?_
  refine fw_iload_n dX1_append_152 rfl rfl ?_
  refine fw_iload_n dX1_append_153 rfl rfl ?_
  refine fw_pS mX1_placeOf [_, _, _] dX1_append_154 mv_X1_placeOf lk_1_41 ⟨⟨by decide, by decide⟩, rfl, rfl, rfl, by decide, by decide⟩ rfl rfl (Nat.le_of_ble_eq_true rfl) (sp_X1_placeOf _ _ _ _ _ (by rw [fw_updne (by decide), q17]; omega) (by omega) (by omega)) ?_
  refine fw_dup2 dX1_append_157 rfl rfl ?_
  refine fw_iaload dX1_append_158 ly0_5 ⟨by decide, by decide⟩ (by rw [fw_updne (by decide), q17]; exact ⟨by omega, by omega⟩) ?_
  refine fw_iconst dX1_append_159 ⟨by decide, by decide⟩ ?_
  refine fw_iadd dX1_append_160 (by rw [fw_updne (by decide), fw_updne (by decide), q17, q5, e5]; have := hkn m hm.1 hm.2; exact ⟨by omega, by omega⟩) ?_
  refine fw_iastore dX1_append_161 ly0_5 (by decide) ⟨by decide, by decide⟩ (by rw [fw_updne (by decide), q17]; exact ⟨by omega, by omega⟩) ?_
  have hz7 : fw_upd M1 4 m (M1 4 m + 1) 1 7 = d := by rw [fw_updne (by decide)]; exact q17
  rw [hz7]
  obtain ⟨MF, hMF⟩ : ∃ MF, MF = fw_upd (fw_upd M1 4 m (M1 4 m + 1)) 5 ((d * 4 + m) * 4 + m) (fw_upd M1 4 m (M1 4 m + 1) 5 ((d * 4 + m) * 4 + m) + 1) := ⟨_, rfl⟩
  rw [← hMF]
  have m4 : ∀ p, MF 4 p = if p = m then N 4 m + 1 else N 4 p := fun p => by rw [hMF, fw_updne (by decide), fw_updeq, q4, e4]
  have m5 : ∀ z, MF 5 z = if z = (d * 4 + m) * 4 + m then N 5 z + 1 else N 5 z := fun z => by
    rw [hMF, fw_updeq, fw_updne (by decide), q5, e5]
    by_cases hz : z = (d * 4 + m) * 4 + m
    · rw [if_pos hz, if_pos hz, hz]
    · rw [if_neg hz, if_neg hz]
  have mf : ∀ k, ¬ k = 1 → ¬ k = 3 → ¬ k = 4 → ¬ k = 5 → MF k = M k := fun k a b c e => by rw [hMF, fw_updne e, fw_updne c]; exact g1 k a b
  have m1 : MF 1 = M1 1 := by rw [hMF, fw_updne (by decide), fw_updne (by decide)]
  have m3 : MF 3 = M1 3 := by rw [hMF, fw_updne (by decide), fw_updne (by decide)]
  have hins : cl_ins MF (m * 20 + N 4 m) T (N 3) (M1 3) := cl_ins_of g4 (mf _ (by omega) (by omega) (by omega) (by omega)) (fun j a b => by have h8 := (hO j a b).1; exact mf _ (by omega) (by omega) (by omega) (by omega))
  have hOn : ∀ j, 0 ≤ j → j < T + 1 → (0 ≤ M1 3 j ∧ M1 3 j < 80) ∧ MF (8 + 2 * M1 3 j) 1 = M1 3 j / 20 ∧ MF (8 + 2 * M1 3 j) 2 = M1 3 j % 20 ∧ ∀ p, 0 ≤ p → p < 4 → MF (8 + 2 * M1 3 j + 1) p = G (M1 3 j) (6 + p) := by
    refine cl_ins_rng (P := fun y => (0 ≤ y ∧ y < 80) ∧ MF (8 + 2 * y) 1 = y / 20 ∧ MF (8 + 2 * y) 2 = y % 20 ∧ ∀ p, 0 ≤ p → p < 4 → MF (8 + 2 * y + 1) p = G y (6 + p)) hins (fun j a b => ?_) ?_
    · have h9 := hO j a b
      have h8 := h9.1
      rw [mf (8 + 2 * N 3 j) (by omega) (by omega) (by omega) (by omega), mf (8 + 2 * N 3 j + 1) (by omega) (by omega) (by omega) (by omega), (hold j a b).1, (hold j a b).2]
      exact ⟨h8, h9.2.1, h9.2.2.1, h9.2.2.2.1⟩
    · rw [mf (8 + 2 * (m * 20 + N 4 m)) (by omega) (by omega) (by omega) (by omega), mf ((8 + 2 * (m * 20 + N 4 m)) + 1) (by omega) (by omega) (by omega) (by omega), h3.1, h3.2.1]
      exact ⟨by omega, by omega, by omega, fun p a b => by rw [h6 p a b]; exact (hGx p a b).symm⟩
  refine fw_aload_n dX1_append_162 rfl rfl ?_
  refine fw_cV mX1_findLeftOut [] dX1_append_163 mv_X1_findLeftOut lk_1_83 ⟨⟨by decide, by decide⟩, rfl, rfl, rfl, by decide, by decide⟩ ly0_1 ⟨by decide, by decide⟩ rfl rfl (Nat.le_of_ble_eq_true rfl) (sp_X1_findLeftOut (T + 1) MF G _ (by rw [m1]; exact g2) (by omega) (by rw [m3]; exact hOn) (by rw [mf 6 (by decide) (by decide) (by decide) (by decide), e6]; exact hap)) (fun r M1 L1 hp hM1 => ?_)
  obtain ⟨rfl, rfl, f1, f2⟩ := hp
  refine fw_aload dX1_append_166 rfl ?_
  refine fw_aret dX1_append_168 ⟨rfl, rfl, rfl⟩ ?_
  rw [m3, mf 6 (by decide) (by decide) (by decide) (by decide), e6] at f2
  have w1 := f1 1 (by decide)
  have w3 := f1 3 (by decide)
  have w4 := f1 4 (by decide)
  have w5 := f1 5 (by decide)
  have wc := f1 (8 + 2 * (m * 20 + N 4 m)) (by omega)
  have wd := f1 ((8 + 2 * (m * 20 + N 4 m)) + 1) (by omega)
  have vc := mf (8 + 2 * (m * 20 + N 4 m)) (by omega) (by omega) (by omega) (by omega)
  have vd := mf ((8 + 2 * (m * 20 + N 4 m)) + 1) (by omega) (by omega) (by omega) (by omega)
  refine ⟨rfl, rfl, fun k a1 a3 a4 a5 a7 ac ad => ?_, ?_, ?_, ?_, ?_, ?_, ?_, ?_, ?_⟩
  · rw [f1 k a7, mf k a1 a3 a4 a5]; exact hk k ac ad
  · rw [w1, m1]; exact ⟨g2, fun j a => by rw [g3 j a, e1]⟩
  · rw [w4]; exact m4
  · rw [w5]; exact m5
  · rw [wc, vc]; exact ⟨h3.1, h3.2.1, h3.2.2.1, h3.2.2.2.1, h5, h3.2.2.2.2⟩
  · rw [wc, vc]; exact h4
  · rw [wd, vd]; exact h6
  · rw [w3, m3]; exact cl_ins_of hins (f1 _ (by omega)) (fun j a b => by have h8 := (hO j a b).1; exact f1 _ (by omega))
  · rw [w3, m3]; exact f2

set_option maxRecDepth 20000 in
set_option maxHeartbeats 4000000 in
theorem sp_X1_append (m act su T d : Int) (N : fw_F) (L : fw_G) (hm : 0 ≤ m ∧ m < 4) (hd : N 1 7 = d) (hd0 : 0 ≤ d ∧ d < 30) (hf : 0 ≤ N 4 m ∧ N 4 m < 20) (hkn : ∀ p, 0 ≤ p → p < 4 → 0 ≤ N 5 ((d * 4 + m) * 4 + p) ∧ N 5 ((d * 4 + m) * 4 + p) ≤ 20 ∧ (p = m → N 5 ((d * 4 + m) * 4 + p) = N 4 m)) (hhg : ∀ p, 0 ≤ p → p < 4 → 0 < N 5 ((d * 4 + m) * 4 + p) → 0 ≤ N (8 + 2 * (p * 20 + (N 5 ((d * 4 + m) * 4 + p) - 1))) 5 ∧ N (8 + 2 * (p * 20 + (N 5 ((d * 4 + m) * 4 + p) - 1))) 5 ≤ 80) (G : fw_F) (hT : N 1 6 = T) (hT0 : 0 ≤ T ∧ T < 80) (hO : ∀ j, 0 ≤ j → j < T → (0 ≤ N 3 j ∧ N 3 j < 80) ∧ N (8 + 2 * N 3 j) 1 = N 3 j / 20 ∧ N (8 + 2 * N 3 j) 2 = N 3 j % 20 ∧ (∀ p, 0 ≤ p → p < 4 → N (8 + 2 * N 3 j + 1) p = G (N 3 j) (6 + p)) ∧ ¬ N 3 j = (m * 20 + N 4 m)) (hGx : ∀ p, 0 ≤ p → p < 4 → G (m * 20 + N 4 m) (6 + p) = N 5 ((d * 4 + m) * 4 + p)) (hap : ab_apok (N 6)) : fw_SC mX1_append [fw_r 1, fw_i m, fw_i act, fw_i su] N L (fun r M2 L2 => r = some (fw_r (8 + 2 * (m * 20 + N 4 m))) ∧ L2 = L ∧ (∀ k, ¬ k = 1 → ¬ k = 3 → ¬ k = 4 → ¬ k = 5 → ¬ k = 7 → ¬ k = (8 + 2 * (m * 20 + N 4 m)) → ¬ k = (8 + 2 * (m * 20 + N 4 m)) + 1 → M2 k = N k) ∧ (M2 1 6 = T + 1 ∧ ∀ j, ¬ j = 6 → M2 1 j = N 1 j) ∧ (∀ p, M2 4 p = if p = m then N 4 m + 1 else N 4 p) ∧ (∀ z, M2 5 z = if z = (d * 4 + m) * 4 + m then N 5 z + 1 else N 5 z) ∧ (M2 (8 + 2 * (m * 20 + N 4 m)) 1 = m ∧ M2 (8 + 2 * (m * 20 + N 4 m)) 2 = N 4 m ∧ M2 (8 + 2 * (m * 20 + N 4 m)) 3 = act ∧ M2 (8 + 2 * (m * 20 + N 4 m)) 4 = su ∧ M2 (8 + 2 * (m * 20 + N 4 m)) 5 = ab_hh (fun p => N 5 ((d * 4 + m) * 4 + p)) (fun p => N (8 + 2 * (p * 20 + (N 5 ((d * 4 + m) * 4 + p) - 1))) 5) 4 ∧ M2 (8 + 2 * (m * 20 + N 4 m)) 6 = d) ∧ (∀ f, f < 1 ∨ 6 < f → M2 (8 + 2 * (m * 20 + N 4 m)) f = N (8 + 2 * (m * 20 + N 4 m)) f) ∧ (∀ u, 0 ≤ u → u < 4 → M2 ((8 + 2 * (m * 20 + N 4 m)) + 1) u = N 5 ((d * 4 + m) * 4 + u)) ∧ cl_ins M2 (m * 20 + N 4 m) T (N 3) (M2 3) ∧ ∀ p, 0 ≤ p → p < 4 → M2 7 p = ab_LF G (M2 3) (N 6) (T + 1).toNat p) := by
  refine fw_SP_of pl_X1_append (ls := [_, _, _, _]) rfl (Nat.le_of_ble_eq_true rfl) fun hA hM => ?_
  refine fw_aload_n dX1_append_0 rfl rfl ?_
  refine fw_iload_n dX1_append_1 rfl rfl ?_
  refine fw_aload_n dX1_append_2 rfl rfl ?_
  refine fw_getr 2 4 rfl dX1_append_3 ff_1_21 ly0_1 ⟨by decide, by decide⟩ rfl rfl (by decide) ?_
  refine fw_iload_n dX1_append_6 rfl rfl ?_
  refine fw_iaload dX1_append_7 ly0_4 ⟨by decide, by decide⟩ ⟨by omega, by omega⟩ ?_
  refine fw_pV mX1_changeOf [_, _] dX1_append_8 mv_X1_changeOf lk_1_54 ⟨⟨by decide, by decide⟩, rfl, rfl, rfl, by decide, by decide⟩ ly0_1 ⟨by decide, by decide⟩ rfl rfl (Nat.le_of_ble_eq_true rfl) (sp_X1_changeOf _ _ _ _ (by omega) (by omega)) ?_
  refine fw_astore (ls2 := [_, _, _, _, _]) dX1_append_11 (by decide) rfl ?_
  refine fw_aload dX1_append_13 rfl ?_
  refine fw_iload_n dX1_append_15 rfl rfl ?_
  refine fw_puti 1 rfl dX1_append_16 fp_1_48 (ly_ch (by omega) (by omega) (by omega)) (by decide) ⟨by omega, by omega⟩ rfl ?_
  refine fw_aload dX1_append_19 rfl ?_
  refine fw_aload_n dX1_append_21 rfl rfl ?_
  refine fw_getr 2 4 rfl dX1_append_22 ff_1_21 ly0_1 ⟨by decide, by decide⟩ rfl rfl (by decide) ?_
  refine fw_iload_n dX1_append_25 rfl rfl ?_
  refine fw_iaload dX1_append_26 ly0_4 ⟨by decide, by decide⟩ ⟨by omega, by omega⟩ ?_
  refine fw_puti 2 rfl dX1_append_27 fp_1_45 (ly_ch (by omega) (by omega) (by omega)) (by decide) ⟨by omega, by omega⟩ rfl ?_
  refine fw_aload dX1_append_30 rfl ?_
  refine fw_iload_n dX1_append_32 rfl rfl ?_
  refine fw_puti 3 rfl dX1_append_33 fp_1_58 (ly_ch (by omega) (by omega) (by omega)) (by decide) ⟨by omega, by omega⟩ rfl ?_
  refine fw_aload dX1_append_36 rfl ?_
  refine fw_iload_n dX1_append_38 rfl rfl ?_
  refine fw_puti 4 rfl dX1_append_39 fp_1_61 (ly_ch (by omega) (by omega) (by omega)) (by decide) ⟨by omega, by omega⟩ rfl ?_
  refine fw_aload dX1_append_42 rfl ?_
  refine fw_aload_n dX1_append_44 rfl rfl ?_
  refine fw_geti 7 rfl dX1_append_45 ff_1_38 ly0_1 ⟨by decide, by decide⟩ rfl ?_
  refine fw_puti 6 rfl dX1_append_48 fp_1_64 (ly_ch (by omega) (by omega) (by omega)) (by decide) ⟨by omega, by omega⟩ rfl ?_
  refine fw_aload dX1_append_51 rfl ?_
  refine fw_iconst dX1_append_53 ⟨by decide, by decide⟩ ?_
  refine fw_puti 5 rfl dX1_append_54 fp_1_67 (ly_ch (by omega) (by omega) (by omega)) (by decide) ⟨by omega, by omega⟩ rfl ?_
  refine fw_iconst dX1_append_57 ⟨by decide, by decide⟩ ?_
  refine fw_istore (ls2 := [_, _, _, _, _, _]) dX1_append_58 (by decide) rfl ?_
  have hq1 : ∀ v w, fw_upd N (8 + 2 * (m * 20 + N 4 m)) 1 v 4 m = N 4 m := fun v w => by rw [fw_updne (by omega)]
  refine lp_X1_append _ m act su T d N L hm hd hd0 hf hkn hhg (fun M a b c e f => tl_X1_append m act su T d N L hm hd hd0 hf hkn hhg G hT hT0 hO hGx hap M a b c e f) 5 0 _ (by decide) (by decide) (by decide) (fun k a b => by simp only [fw_updne a]) ?_ (fun f a => ?_) ?_ (fun u a b => by omega)
  · simp (disch := omega) only [fw_updne, fw_updeq]; simp [hd]
  · simp (disch := omega) only [fw_updne, fw_updeq]; rw [if_neg (by omega), if_neg (by omega), if_neg (by omega), if_neg (by omega), if_neg (by omega), if_neg (by omega)]
  · rw [fw_updeq, if_pos rfl]; rfl
