/-! one change applied, case by case -/
theorem ab_ap_n1 {G : fw_F} {ru x j : Int} {S : ab_S} (h : G x 0 = 0) (h1 : S.1 0 (G x 1) = 0) : ab_ap G ru x j S = (ab_new S.1 (G x 1) (G x 2) (G x 3) (G x 10) j, S.2) := by
  unfold ab_ap
  rw [if_pos h, if_pos h1]
theorem ab_ap_n2 {G : fw_F} {ru x j : Int} {S : ab_S} (h : G x 0 = 0) (h1 : ¬ S.1 0 (G x 1) = 0) : ab_ap G ru x j S = S := by
  unfold ab_ap
  rw [if_pos h, if_neg h1]
theorem ab_ap_m1 {G : fw_F} {ru x j : Int} {S : ab_S} (h : G x 0 = 1) (h1 : ab_mv S.1 (G x 1) (G x 2)) : ab_ap G ru x j S = (ab_put S.1 (G x 1) (G x 2) (G x 3) j, S.2) := by
  unfold ab_ap
  rw [if_neg (by omega), if_pos h, if_pos h1]
theorem ab_ap_m2 {G : fw_F} {ru x j : Int} {S : ab_S} (h : G x 0 = 1) (h1 : ¬ ab_mv S.1 (G x 1) (G x 2)) : ab_ap G ru x j S = S := by
  unfold ab_ap
  rw [if_neg (by omega), if_pos h, if_neg h1]
theorem ab_ap_g1 {G : fw_F} {ru x j : Int} {S : ab_S} (h : G x 0 = 2) (h1 : ¬ G x 1 = 0 ∧ ¬ S.1 1 (G x 1) = 0) : ab_ap G ru x j S = (ab_gone S.1 (G x 1), S.2) := by
  unfold ab_ap
  rw [if_neg (by omega), if_neg (by omega), if_pos h, if_pos h1]
theorem ab_ap_g2 {G : fw_F} {ru x j : Int} {S : ab_S} (h : G x 0 = 2) (h1 : ¬ (¬ G x 1 = 0 ∧ ¬ S.1 1 (G x 1) = 0)) : ab_ap G ru x j S = S := by
  unfold ab_ap
  rw [if_neg (by omega), if_neg (by omega), if_pos h, if_neg h1]
theorem ab_ap_w1 {G : fw_F} {ru x j : Int} {S : ab_S} (h : G x 0 = 3) (h1 : S.1 0 (G x 1) = 0 ∨ ¬ S.1 2 (G x 1) = 1) : ab_ap G ru x j S = S := by
  unfold ab_ap
  rw [if_neg (by omega), if_neg (by omega), if_neg (by omega), if_pos h1]
theorem ab_ap_w2 {G : fw_F} {ru x j : Int} {S : ab_S} (h : G x 0 = 3) (h1 : ¬ (S.1 0 (G x 1) = 0 ∨ ¬ S.1 2 (G x 1) = 1)) (h2 : S.1 1 (G x 1) = 0) (h3 : fw_and ru 1 = 0) : ab_ap G ru x j S = S := by
  unfold ab_ap
  rw [if_neg (by omega), if_neg (by omega), if_neg (by omega), if_neg h1, if_pos h2, if_pos h3]
theorem ab_ap_w3 {G : fw_F} {ru x j : Int} {S : ab_S} (h : G x 0 = 3) (h1 : ¬ (S.1 0 (G x 1) = 0 ∨ ¬ S.1 2 (G x 1) = 1)) (h2 : S.1 1 (G x 1) = 0) (h3 : ¬ fw_and ru 1 = 0) : ab_ap G ru x j S = (ab_back S.1 (G x 1), fun u => if u = G x 1 then ab_hold G x (S.2 u) else S.2 u) := by
  unfold ab_ap
  rw [if_neg (by omega), if_neg (by omega), if_neg (by omega), if_neg h1, if_pos h2, if_neg h3]
theorem ab_ap_w4 {G : fw_F} {ru x j : Int} {S : ab_S} (h : G x 0 = 3) (h1 : ¬ (S.1 0 (G x 1) = 0 ∨ ¬ S.1 2 (G x 1) = 1)) (h2 : ¬ S.1 1 (G x 1) = 0) : ab_ap G ru x j S = (S.1, fun u => if u = G x 1 then ab_hold G x (S.2 u) else S.2 u) := by
  unfold ab_ap
  rw [if_neg (by omega), if_neg (by omega), if_neg (by omega), if_neg h1, if_neg h2]
theorem cl_T_gone {M N : fw_F} {S : ab_S} {g : Int} (h : cl_T N S) (hk : ∀ k, ¬ k = 170 → M k = N k) (hac : ab_ac (S.1 3)) (hu : ∀ u, 0 ≤ u → u < 12 → M 170 u = if 1 ≤ u ∧ fw_up (N 172) g 12 u = g then 0 else N 170 u) (hg : 0 ≤ g ∧ g < 12) : cl_T M (ab_gone S.1 g, S.2) := by
  have hup : ∀ (n : Nat) (u : Int), 0 ≤ u → u < 12 → fw_up (N 172) g n u = fw_up (S.1 3) g n u := by
    intro n
    induction n with
    | zero => intro u _ _; rfl
    | succ n ih =>
      intro u u0 u1
      rw [fw_up, fw_up, (h u u0 u1).2.2.2.1]
      split
      · rfl
      · exact ih _ (hac.1 u u0 u1).1 (hac.1 u u0 u1).2
  intro u a b
  obtain ⟨e0, e1, e2, e3, e4, e5, e6, e7⟩ := h u a b
  obtain ⟨v0, v1, v2, v3, v4, v5⟩ := ab_gone_v S.1 g u
  rw [hk 169 (by decide), hk 171 (by decide), hk 172 (by decide), hk 173 (by decide), hk 175 (by decide), hk 176 (by decide), hk 177 (by decide)]
  refine ⟨e0.trans v0.symm, ?_, e2.trans v2.symm, e3.trans v3.symm, e4.trans v4.symm, e5.trans v5.symm, e6, e7⟩
  rw [hu u a b, hup 12 u a b, e1]
  refine Eq.trans ?_ v1.symm
  by_cases q : 1 ≤ u ∧ fw_up (S.1 3) g 12 u = g
  · rw [if_pos q, if_pos ⟨q.1, b, q.2⟩]
  · rw [if_neg q, if_neg (fun q2 => q ⟨q2.1, q2.2.2⟩)]
theorem cl_T_back {N : fw_F} {S : ab_S} {t v : Int} (h : cl_T N S) (hv : v = if ab_isF (fw_upd S.1 1 t 1) (S.1 3 t) then S.1 3 t else 0) : cl_T (fw_upd (fw_upd N 170 t 1) 172 t v) (ab_back S.1 t, S.2) := by
  intro u a b
  obtain ⟨e0, e1, e2, e3, e4, e5, e6, e7⟩ := h u a b
  obtain ⟨v0, v1, v2, v3, v4, v5⟩ := ab_back_v S.1 t u
  refine ⟨?_, ?_, ?_, ?_, ?_, ?_, ?_, ?_⟩
  · rw [fw_updne (by decide), fw_updne (by decide)]; exact e0.trans v0.symm
  · rw [fw_updne (by decide), fw_updeq, e1]; exact v1.symm
  · rw [fw_updne (by decide), fw_updne (by decide)]; exact e2.trans v2.symm
  · rw [fw_updeq, fw_updne (by decide), e3, hv]; exact v3.symm
  · rw [fw_updne (by decide), fw_updne (by decide)]; exact e4.trans v4.symm
  · rw [fw_updne (by decide), fw_updne (by decide)]; exact e5.trans v5.symm
  · rw [fw_updne (by decide), fw_updne (by decide)]; exact e6
  · rw [fw_updne (by decide), fw_updne (by decide)]; exact e7
theorem cl_T_hold {M N G : fw_F} {S : ab_S} {t x : Int} (h : cl_T N S) (h1 : ∀ k, ¬ k = 176 → ¬ k = 177 → M k = N k) (h2 : ∀ u, ¬ u = t → M 176 u = N 176 u) (h3 : M 176 t = ((ab_hold G x (S.2 t)).length : Int)) (h4 : ∀ z, z < t * 4 ∨ t * 4 + 4 ≤ z → M 177 z = N 177 z) (h5 : ∀ (r : Nat) (y : Int), (ab_hold G x (S.2 t))[r]? = some y → M 177 (t * 4 + r) = y) (hl : ∀ u, 0 ≤ u → u < 12 → (S.2 u).length ≤ 4) : cl_T M (S.1, fun u => if u = t then ab_hold G x (S.2 u) else S.2 u) := by
  intro u a b
  obtain ⟨e0, e1, e2, e3, e4, e5, e6, e7⟩ := h u a b
  rw [h1 169 (by decide) (by decide), h1 170 (by decide) (by decide), h1 171 (by decide) (by decide), h1 172 (by decide) (by decide), h1 173 (by decide) (by decide), h1 175 (by decide) (by decide)]
  refine ⟨e0, e1, e2, e3, e4, e5, ?_, ?_⟩
  · by_cases hu : u = t
    · subst hu
      show _ = (((if u = u then ab_hold G x (S.2 u) else S.2 u) : List Int).length : Int)
      rw [if_pos rfl]
      exact h3
    · show _ = (((if u = t then ab_hold G x (S.2 u) else S.2 u) : List Int).length : Int)
      rw [if_neg hu, h2 u hu]
      exact e6
  · intro r y hy
    by_cases hu : u = t
    · subst hu
      have hy : (if u = u then ab_hold G x (S.2 u) else S.2 u)[r]? = some y := hy
      rw [if_pos rfl] at hy
      exact h5 r y hy
    · have hy : (if u = t then ab_hold G x (S.2 u) else S.2 u)[r]? = some y := hy
      rw [if_neg hu] at hy
      have hr := (List.getElem?_eq_some_iff.mp hy).1
      have := hl u a b
      rw [h4 _ (by omega)]
      exact e7 r y hy
/-- what the invariant says of a thing's rows -/
theorem ab_rows {n : Int} {mk : Int → Int} {G : fw_F} {O : Int → Int} {T : Int} (h : ab_wf n mk G O T) {j : Nat} (hj : (j : Int) ≤ T) {S : ab_S} (hi : ab_ti G O j S) {t : Int} (h0 : 0 ≤ t) (h1 : t < 12) : (∀ y ∈ S.2 t, ab_lv mk y) ∧ (S.2 t).length ≤ 4 := by
  have hw := hi.2.2.2.2 t h0 h1
  have hl : ∀ y ∈ S.2 t, ab_lv mk y := by
    intro y hy
    obtain ⟨⟨k, hk, rfl⟩, -⟩ := hw.2.1 y hy
    exact h.2.2.2.2.1 k (by omega) (by omega)
  exact ⟨hl, ab_len4 hw.2.2 (fun y hy => ⟨(hl y hy).1, (hl y hy).2.1⟩)⟩
theorem ab_rows3 {n : Int} {mk : Int → Int} {G : fw_F} {O : Int → Int} {T : Int} (h : ab_wf n mk G O T) {j : Nat} (hj : (j : Int) < T) {S : ab_S} (hi : ab_ti G O j S) {t : Int} (h0 : 0 ≤ t) (h1 : t < 12) : ((S.2 t).filter (ab_kp G (O j))).length ≤ 3 := by
  have hw := hi.2.2.2.2 t h0 h1
  obtain ⟨hl, -⟩ := ab_rows h (by omega) hi h0 h1
  have hx := h.2.2.2.2.1 j (by omega) hj
  have hp := ab_hold_pw h hj (w := S.2 t) (fun y hy => (hw.2.1 y hy).1) hw.2.2
  exact ab_len3 (hw.2.2.filter _) (fun y hy => by
    have := hl y (List.mem_filter.mp hy).1
    exact ⟨this.1, this.2.1⟩) (o := O j / 20) (by have := hx.1; omega) (by have := hx.2.1; omega) hp.1
