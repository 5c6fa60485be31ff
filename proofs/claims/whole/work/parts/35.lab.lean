/-! names: H there, F folder, W wish, P place; e = 0: the latest comes first -/
abbrev ab_th (H : Int → Int) (t : Int) : Prop := 1 ≤ t ∧ t < 12 ∧ ¬ H t = 0
abbrev ab_ah (P : Int → Int) (e a b : Int) : Prop := (e = 0 ∧ P b < P a) ∨ (¬ e = 0 ∧ P a < P b)
def ab_at (H F P : Int → Int) (e : Int) (lab : Int → Int) (t v : Int) : Prop := ∃ u, ab_th H u ∧ ab_ah P e u t ∧ F u = F t ∧ lab u = v
def ab_lab1 (H F W P : Int → Int) (e : Int) (lab : Int → Int) (t : Int) : Prop := (ab_at H F P e lab t (W t) → 10 ≤ lab t ∧ ¬ ab_at H F P e lab t (lab t) ∧ ∀ v, 10 ≤ v → v < lab t → ab_at H F P e lab t v) ∧ (¬ ab_at H F P e lab t (W t) → lab t = W t)
def ab_lab (H F W P : Int → Int) (e : Int) (lab : Int → Int) : Prop := ∀ t, ab_th H t → ab_lab1 H F W P e lab t
theorem ab_at_congr {H F P : Int → Int} {e : Int} {l1 l2 : Int → Int} {t : Int} (h : ∀ u, ab_th H u → ab_ah P e u t → l1 u = l2 u) (v : Int) : ab_at H F P e l1 t v ↔ ab_at H F P e l2 t v := by
  constructor
  · rintro ⟨u, a, b, c, d⟩
    exact ⟨u, a, b, c, (h u a b) ▸ d⟩
  · rintro ⟨u, a, b, c, d⟩
    exact ⟨u, a, b, c, (h u a b).trans d⟩
theorem ab_lab_uniq {H F W P : Int → Int} {e : Int} {l1 l2 : Int → Int} {B : Int} (hP : ∀ t, ab_th H t → 0 ≤ P t ∧ P t < B) (h1 : ab_lab H F W P e l1) (h2 : ab_lab H F W P e l2) : ∀ t, ab_th H t → l1 t = l2 t := by
  have key : ∀ (n : Nat) (t : Int), ab_th H t → (if e = 0 then B - P t else P t) < n → l1 t = l2 t := by
    intro n
    induction n with
    | zero =>
      intro t ht hn
      have := hP t ht
      split at hn <;> omega
    | succ n ih =>
      intro t ht hn
      have hc : ∀ v, ab_at H F P e l1 t v ↔ ab_at H F P e l2 t v := ab_at_congr fun u hu ha => ih u hu (by
        rcases ha with ⟨a, b⟩ | ⟨a, b⟩
        · rw [if_pos a] at hn ⊢
          omega
        · rw [if_neg a] at hn ⊢
          omega)
      obtain ⟨a1, b1⟩ := h1 t ht
      obtain ⟨a2, b2⟩ := h2 t ht
      by_cases q : ab_at H F P e l1 t (W t)
      · obtain ⟨c1, d1, e1⟩ := a1 q
        obtain ⟨c2, d2, e2⟩ := a2 ((hc _).mp q)
        rcases Int.lt_trichotomy (l1 t) (l2 t) with g | g | g
        · exact absurd ((hc _).mpr (e2 _ c1 g)) d1
        · exact g
        · exact absurd ((hc _).mp (e1 _ c2 g)) d2
      · rw [b1 q, b2 (fun z => q ((hc _).mpr z))]
  intro t ht
  have := hP t ht
  exact key (B.toNat + 1) t ht (by split <;> omega)
/-- the same tables of other makes -/
theorem ab_lab_congr {H F W P H' F' W' P' : Int → Int} {e : Int} {lab : Int → Int} (hH : ∀ t, 1 ≤ t → t < 12 → H' t = H t) (hF : ∀ t, ab_th H t → F' t = F t) (hW : ∀ t, ab_th H t → W' t = W t) (hP : ∀ a b, ab_th H a → ab_th H b → (P' a < P' b ↔ P a < P b)) (h : ab_lab H F W P e lab) : ab_lab H' F' W' P' e lab := by
  have hth : ∀ t, ab_th H' t ↔ ab_th H t := fun t => ⟨fun q => ⟨q.1, q.2.1, by rw [← hH t q.1 q.2.1]; exact q.2.2⟩, fun q => ⟨q.1, q.2.1, by rw [hH t q.1 q.2.1]; exact q.2.2⟩⟩
  have hat : ∀ t, ab_th H t → ∀ v, ab_at H' F' P' e lab t v ↔ ab_at H F P e lab t v := by
    intro t ht v
    constructor
    · rintro ⟨u, a, b, c, d⟩
      have a := (hth u).mp a
      rw [hF u a, hF t ht] at c
      refine ⟨u, a, ?_, c, d⟩
      rcases b with ⟨b, b2⟩ | ⟨b, b2⟩
      · exact Or.inl ⟨b, (hP _ _ ht a).mp b2⟩
      · exact Or.inr ⟨b, (hP _ _ a ht).mp b2⟩
    · rintro ⟨u, a, b, c, d⟩
      refine ⟨u, (hth u).mpr a, ?_, by rw [hF u a, hF t ht]; exact c, d⟩
      rcases b with ⟨b, b2⟩ | ⟨b, b2⟩
      · exact Or.inl ⟨b, (hP _ _ ht a).mpr b2⟩
      · exact Or.inr ⟨b, (hP _ _ a ht).mpr b2⟩
  intro t ht
  have ht := (hth t).mp ht
  have h1 := h t ht
  unfold ab_lab1 at h1 ⊢
  rw [hW t ht]
  simp only [hat t ht]
  exact h1
/-- names in one folder are apart -/
theorem ab_lab_apart {H F W P : Int → Int} {e : Int} {lab : Int → Int} (hW : ∀ t, ab_th H t → 0 ≤ W t ∧ W t ≤ 9) (hj : ∀ a b, ab_th H a → ab_th H b → P a = P b → a = b) (h : ab_lab H F W P e lab) : ∀ a b, ab_th H a → ab_th H b → F a = F b → lab a = lab b → a = b := by
  have key : ∀ a b, ab_th H a → ab_th H b → F a = F b → lab a = lab b → ab_ah P e a b → False := by
    intro a b ha hb hf hl hab
    obtain ⟨h1, h2⟩ := h b hb
    by_cases q : ab_at H F P e lab b (W b)
    · exact (h1 q).2.1 ⟨a, ha, hab, hf, hl⟩
    · exact q ⟨a, ha, hab, hf, hl.trans (h2 q)⟩
  intro a b ha hb hf hl
  apply Classical.byContradiction
  intro hne
  have hP : ¬ P a = P b := fun q => hne (hj a b ha hb q)
  by_cases he : e = 0
  · rcases Int.lt_trichotomy (P a) (P b) with g | g | g
    · exact key b a hb ha hf.symm hl.symm (Or.inl ⟨he, g⟩)
    · exact hP g
    · exact key a b ha hb hf hl (Or.inl ⟨he, g⟩)
  · rcases Int.lt_trichotomy (P a) (P b) with g | g | g
    · exact key a b ha hb hf hl (Or.inr ⟨he, g⟩)
    · exact hP g
    · exact key b a hb ha hf.symm hl.symm (Or.inr ⟨he, g⟩)
theorem ab_lab_rng {H F W P : Int → Int} {e : Int} {lab : Int → Int} (hW : ∀ t, ab_th H t → 0 ≤ W t ∧ W t ≤ 9) (h : ab_lab H F W P e lab) : ∀ t, ab_th H t → 0 ≤ lab t := by
  intro t ht
  obtain ⟨h1, h2⟩ := h t ht
  by_cases q : ab_at H F P e lab t (W t)
  · have := (h1 q).1; omega
  · rw [h2 q]; exact (hW t ht).1
/-- eleven things have no twelve names -/
theorem ab_names {lab : Int → Int} {V : Int} (h : ∀ v, 10 ≤ v → v < V → ∃ u, 1 ≤ u ∧ u < 12 ∧ lab u = v) : V ≤ 21 := by
  apply Classical.byContradiction
  intro hV
  have hc : ∀ n : Nat, n ≤ 12 → ∃ l : List Int, l.length = n ∧ l.Nodup ∧ ∀ x ∈ l, (1 ≤ x ∧ x ≤ (11 : Nat)) ∧ lab x < 10 + n := by
    intro n
    induction n with
    | zero => intro _; exact ⟨[], rfl, List.Pairwise.nil, fun x hx => by cases hx⟩
    | succ n ih =>
      intro hn
      obtain ⟨l, h1, h2, h3⟩ := ih (by omega)
      obtain ⟨u, a, b, c⟩ := h (10 + n) (by omega) (by omega)
      refine ⟨u :: l, by simp [h1], List.nodup_cons.mpr ⟨fun hu => ?_, h2⟩, fun x hx => ?_⟩
      · have := (h3 u hu).2
        omega
      · rcases List.mem_cons.mp hx with rfl | hx
        · exact ⟨by omega, by omega⟩
        · exact ⟨(h3 x hx).1, by have := (h3 x hx).2; omega⟩
  obtain ⟨l, h1, h2, h3⟩ := hc 12 (by omega)
  have := ab_ph 11 l h2 (fun x hx => (h3 x hx).1)
  omega
