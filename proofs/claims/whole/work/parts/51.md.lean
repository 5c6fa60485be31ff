/-! the model's cells and the abstract tree -/
def md_G (M : fw_F) : fw_F := fun x f => M 2 (12 * x + f)
theorem md_Gv (M : fw_F) (x f : Int) : M 2 (12 * x + f) = md_G M x f := rfl
theorem md_G0 (M : fw_F) (x : Int) : M 2 (12 * x) = md_G M x 0 := by show _ = M 2 (12 * x + 0); rw [Int.add_zero]
theorem md_G_of {M M2 : fw_F} (h : M2 2 = M 2) : md_G M2 = md_G M := by unfold md_G; rw [h]
def md_T (M : fw_F) (S : ab_S) : Prop := ∀ t, 0 ≤ t → t < 12 → M 10 t = S.1 0 t ∧ M 11 t = S.1 1 t ∧ (¬ S.1 0 t = 0 → M 12 t = S.1 2 t) ∧ M 13 t = S.1 3 t ∧ M 14 t = S.1 4 t ∧ M 17 t = ((S.2 t).length : Int) ∧ ∀ (r : Nat) (y : Int), (S.2 t)[r]? = some y → M 18 (16 * t + r) = y
/-- places: the model's order against the abstract one -/
def md_P (M : fw_F) (S : ab_S) (od : Int) : Prop := (∀ a, 1 ≤ a → a < 12 → S.1 0 a = 1 → 0 ≤ M 15 a ∧ M 15 a < od) ∧ ∀ a b, 1 ≤ a → a < 12 → 1 ≤ b → b < 12 → S.1 0 a = 1 → S.1 0 b = 1 → (M 15 a < M 15 b ↔ S.1 5 a < S.1 5 b)
theorem ab_ac_congr {F F' : Int → Int} (h : ab_ac F) (he : ∀ t, 0 ≤ t → t < 12 → F' t = F t) : ab_ac F' := by
  obtain ⟨h1, h2, d, h3⟩ := h
  refine ⟨fun t a b => by rw [he t a b]; exact h1 t a b, by rw [he 0 (by decide) (by decide)]; exact h2, d, fun t a b => ?_⟩
  rw [he t (by omega) b]
  exact h3 t a b
theorem ab_up_congr {F F' : Int → Int} (h : ab_ac F) (he : ∀ t, 0 ≤ t → t < 12 → F' t = F t) (g : Int) : ∀ (n : Nat) (u : Int), 0 ≤ u → u < 12 → fw_up F' g n u = fw_up F g n u := by
  intro n
  induction n with
  | zero => intro u _ _; rfl
  | succ n ih =>
    intro u u0 u1
    rw [fw_up, fw_up, he u u0 u1]
    split
    · rfl
    · exact ih _ (h.1 u u0 u1).1 (h.1 u u0 u1).2
def md_put (M : fw_F) (t into nm j : Int) : fw_F := fw_upd (fw_upd (fw_upd M 13 t into) 14 t nm) 15 t j
theorem md_put_v (M : fw_F) (t into nm j : Int) : (∀ k, ¬ k = 13 → ¬ k = 14 → ¬ k = 15 → md_put M t into nm j k = M k) ∧ (∀ u, md_put M t into nm j 13 u = if u = t then into else M 13 u) ∧ (∀ u, md_put M t into nm j 14 u = if u = t then nm else M 14 u) ∧ (∀ u, md_put M t into nm j 15 u = if u = t then j else M 15 u) := by
  refine ⟨fun k h1 h2 h3 => ?_, fun u => ?_, fun u => ?_, fun u => ?_⟩
  · unfold md_put
    rw [fw_updne h3, fw_updne h2, fw_updne h1]
  · unfold md_put
    rw [fw_updne (by decide), fw_updne (by decide), fw_updeq]
  · unfold md_put
    rw [fw_updne (by decide), fw_updeq, fw_updne (by decide)]
  · unfold md_put
    rw [fw_updeq, fw_updne (by decide), fw_updne (by decide)]
theorem md_T_put {M : fw_F} {S : ab_S} (h : md_T M S) (t into nm j jj : Int) : md_T (md_put M t into nm jj) (ab_put S.1 t into nm j, S.2) := by
  intro u a b
  obtain ⟨e0, e1, e2, e3, e4, e6, e7⟩ := h u a b
  obtain ⟨v0, v1, v2, v3, v4, v5⟩ := ab_put_v S.1 t into nm j u
  obtain ⟨w0, w1, w2, w3⟩ := md_put_v M t into nm jj
  refine ⟨?_, ?_, ?_, ?_, ?_, ?_, ?_⟩
  · rw [w0 10 (by decide) (by decide) (by decide)]; exact e0.trans v0.symm
  · rw [w0 11 (by decide) (by decide) (by decide)]; exact e1.trans v1.symm
  · intro q
    rw [w0 12 (by decide) (by decide) (by decide)]
    exact (e2 (fun z => q (v0.trans z))).trans v2.symm
  · rw [w1, e3]; exact v3.symm
  · rw [w2, e4]; exact v4.symm
  · rw [w0 17 (by decide) (by decide) (by decide)]; exact e6
  · rw [w0 18 (by decide) (by decide) (by decide)]; exact e7
/-- a thing newly placed comes last -/
theorem md_P_put {M M' : fw_F} {S : ab_S} {T' : fw_F} {t od j : Int} (h : md_P M S od) (hod : 0 ≤ od) (hM : ∀ u, M' 15 u = if u = t then od else M 15 u) (hT5 : ∀ u, T' 5 u = if u = t then j else S.1 5 u) (hT0 : ∀ u, ¬ u = t → T' 0 u = S.1 0 u) (hj : ∀ u, 1 ≤ u → u < 12 → S.1 0 u = 1 → S.1 5 u < j) : md_P M' (T', S.2) (od + 1) := by
  refine ⟨fun a a0 a1 a2 => ?_, fun a b a0 a1 b0 b1 ha hb => ?_⟩
  · rw [hM]
    by_cases ha : a = t
    · rw [if_pos ha]; omega
    · rw [if_neg ha]
      have a2 : T' 0 a = 1 := a2
      rw [hT0 a ha] at a2
      have := h.1 a a0 a1 a2
      omega
  · show _ ↔ T' 5 a < T' 5 b
    have ha : T' 0 a = 1 := ha
    have hb : T' 0 b = 1 := hb
    rw [hM, hM, hT5, hT5]
    by_cases hat : a = t
    · by_cases hbt : b = t
      · rw [if_pos hat, if_pos hbt, if_pos hat, if_pos hbt]
        constructor <;> intro q <;> omega
      · rw [hT0 b hbt] at hb
        rw [if_pos hat, if_neg hbt, if_pos hat, if_neg hbt]
        have := h.1 b b0 b1 hb
        have := hj b b0 b1 hb
        constructor <;> intro q <;> omega
    · rw [hT0 a hat] at ha
      by_cases hbt : b = t
      · rw [if_neg hat, if_pos hbt, if_neg hat, if_pos hbt]
        have := h.1 a a0 a1 ha
        have := hj a a0 a1 ha
        constructor <;> intro q <;> omega
      · rw [hT0 b hbt] at hb
        rw [if_neg hat, if_neg hbt, if_neg hat, if_neg hbt]
        exact h.2 a b a0 a1 b0 b1 ha hb
theorem md_P_same {M M' : fw_F} {S S' : ab_S} {od od' : Int} (h : md_P M S od) (ho : od ≤ od') (h15 : M' 15 = M 15) (h0 : ∀ u, 1 ≤ u → u < 12 → S'.1 0 u = S.1 0 u) (h5 : ∀ u, 1 ≤ u → u < 12 → S'.1 5 u = S.1 5 u) : md_P M' S' od' := by
  refine ⟨fun a a0 a1 a2 => ?_, fun a b a0 a1 b0 b1 ha hb => ?_⟩
  · rw [h0 a a0 a1] at a2
    have := h.1 a a0 a1 a2
    rw [h15]
    omega
  · rw [h0 a a0 a1] at ha
    rw [h0 b b0 b1] at hb
    rw [h15, h5 a a0 a1, h5 b b0 b1]
    exact h.2 a b a0 a1 b0 b1 ha hb
theorem md_T_gone {M N : fw_F} {S : ab_S} {g : Int} (h : md_T N S) (hk : ∀ k, ¬ k = 11 → ¬ k = 19 → M k = N k) (hac : ab_ac (S.1 3)) (hu : ∀ u, 0 ≤ u → u < 12 → M 11 u = if 1 ≤ u ∧ fw_up (N 13) g 12 u = g then 0 else N 11 u) : md_T M (ab_gone S.1 g, S.2) := by
  intro u a b
  obtain ⟨e0, e1, e2, e3, e4, e6, e7⟩ := h u a b
  obtain ⟨v0, v1, v2, v3, v4, v5⟩ := ab_gone_v S.1 g u
  rw [hk 10 (by decide) (by decide), hk 12 (by decide) (by decide), hk 13 (by decide) (by decide), hk 14 (by decide) (by decide), hk 17 (by decide) (by decide), hk 18 (by decide) (by decide)]
  refine ⟨e0.trans v0.symm, ?_, fun q => (e2 (fun z => q (v0.trans z))).trans v2.symm, e3.trans v3.symm, e4.trans v4.symm, e6, e7⟩
  rw [hu u a b, ab_up_congr hac (fun t a b => (h t a b).2.2.2.1) g 12 u a b, e1]
  refine Eq.trans ?_ v1.symm
  by_cases q : 1 ≤ u ∧ fw_up (S.1 3) g 12 u = g
  · rw [if_pos q, if_pos ⟨q.1, b, q.2⟩]
  · rw [if_neg q, if_neg (fun q2 => q ⟨q2.1, q2.2.2⟩)]
theorem md_T_hold {M N G : fw_F} {S : ab_S} {t x : Int} (h : md_T N S) (h1 : ∀ k, ¬ k = 17 → ¬ k = 18 → M k = N k) (h2 : ∀ u, ¬ u = t → M 17 u = N 17 u) (h3 : M 17 t = ((ab_hold G x (S.2 t)).length : Int)) (h4 : ∀ z, z < 16 * t ∨ 16 * t + 16 ≤ z → M 18 z = N 18 z) (h5 : ∀ (r : Nat) (y : Int), (ab_hold G x (S.2 t))[r]? = some y → M 18 (16 * t + r) = y) (hl : ∀ u, 0 ≤ u → u < 12 → (S.2 u).length ≤ 4) : md_T M (S.1, fun u => if u = t then ab_hold G x (S.2 u) else S.2 u) := by
  intro u a b
  obtain ⟨e0, e1, e2, e3, e4, e6, e7⟩ := h u a b
  rw [h1 10 (by decide) (by decide), h1 11 (by decide) (by decide), h1 12 (by decide) (by decide), h1 13 (by decide) (by decide), h1 14 (by decide) (by decide)]
  refine ⟨e0, e1, e2, e3, e4, ?_, ?_⟩
  · by_cases hu : u = t
    · subst hu
      show _ = (((if u = u then ab_hold G x (S.2 u) else S.2 u) : List Int).length : Int)
      rw [if_pos rfl]
      exact h3
    · show _ = (((if u = t then ab_hold G x (S.2 u) else S.2 u) : List Int).length : Int)
      rw [if_neg hu, h2 u hu]
      exact e6
  · intro r y hy
    by_cases hu : u = t
    · subst hu
      have hy : (if u = u then ab_hold G x (S.2 u) else S.2 u)[r]? = some y := hy
      rw [if_pos rfl] at hy
      exact h5 r y hy
    · have hy : (if u = t then ab_hold G x (S.2 u) else S.2 u)[r]? = some y := hy
      rw [if_neg hu] at hy
      have hr := (List.getElem?_eq_some_iff.mp hy).1
      have := hl u a b
      rw [h4 _ (by omega)]
      exact e7 r y hy
theorem md_T_back {N : fw_F} {S : ab_S} {t v : Int} (h : md_T N S) (hv : v = if ab_isF (fw_upd S.1 1 t 1) (S.1 3 t) then S.1 3 t else 0) : md_T (fw_upd (fw_upd N 11 t 1) 13 t v) (ab_back S.1 t, S.2) := by
  intro u a b
  obtain ⟨e0, e1, e2, e3, e4, e6, e7⟩ := h u a b
  obtain ⟨v0, v1, v2, v3, v4, v5⟩ := ab_back_v S.1 t u
  refine ⟨?_, ?_, ?_, ?_, ?_, ?_, ?_⟩
  · rw [fw_updne (by decide), fw_updne (by decide)]; exact e0.trans v0.symm
  · rw [fw_updne (by decide), fw_updeq, e1]; exact v1.symm
  · intro q
    rw [fw_updne (by decide), fw_updne (by decide)]; exact (e2 (fun z => q (v0.trans z))).trans v2.symm
  · rw [fw_updeq, fw_updne (by decide), e3, hv]; exact v3.symm
  · rw [fw_updne (by decide), fw_updne (by decide)]; exact e4.trans v4.symm
  · rw [fw_updne (by decide), fw_updne (by decide)]; exact e6
  · rw [fw_updne (by decide), fw_updne (by decide)]; exact e7
