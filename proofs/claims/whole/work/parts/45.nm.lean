/-! naming one after the other -/
def nm_inv (N M : fw_F) (e dn : Int) (D : List Int) : Prop := (∀ k, ¬ k = 174 → M k = N k) ∧ M 174 0 = N 174 0 ∧ D.Nodup ∧ (D.length : Int) = dn - 1 ∧ (∀ x ∈ D, ab_th (N 170) x) ∧ (∀ x, ab_th (N 170) x → (x ∈ D ↔ ¬ M 174 x = -1)) ∧ (∀ x ∈ D, ∀ u, ab_th (N 170) u → ab_ah (N 175) e u x → u ∈ D) ∧ (∀ x ∈ D, ab_lab1 (N 170) (N 172) (N 173) (N 175) e (M 174) x)
theorem nm_step {N M : fw_F} {e dn b v : Int} {D : List Int} (hW : ∀ t, ab_th (N 170) t → 0 ≤ N 173 t ∧ N 173 t ≤ 9) (hj : ∀ a b, ab_th (N 170) a → ab_th (N 170) b → N 175 a = N 175 b → a = b) (h : nm_inv N M e dn D) (hb : ab_th (N 170) b) (hb2 : M 174 b = -1) (hbest : ∀ k, ab_th (N 170) k → M 174 k = -1 → (e = 0 ∧ N 175 k ≤ N 175 b) ∨ (¬ e = 0 ∧ N 175 b ≤ N 175 k))
    (hv1 : ¬ (∃ u, 1 ≤ u ∧ u < 12 ∧ ¬ N 170 u = 0 ∧ N 172 u = N 172 b ∧ M 174 u = N 173 b) → v = N 173 b) (hv2 : (∃ u, 1 ≤ u ∧ u < 12 ∧ ¬ N 170 u = 0 ∧ N 172 u = N 172 b ∧ M 174 u = N 173 b) → 10 ≤ v ∧ ¬ (∃ u, 1 ≤ u ∧ u < 12 ∧ ¬ N 170 u = 0 ∧ N 172 u = N 172 b ∧ M 174 u = v) ∧ ∀ w, 10 ≤ w → w < v → ∃ u, 1 ≤ u ∧ u < 12 ∧ ¬ N 170 u = 0 ∧ N 172 u = N 172 b ∧ M 174 u = w) : nm_inv N (fw_upd M 174 b v) e (dn + 1) (b :: D) := by
  obtain ⟨h1, h2, h3, h4, h5, h6, h7, h8⟩ := h
  have hbD : b ∉ D := fun q => (h6 b hb).mp q hb2
  have hv0 : 0 ≤ v := by
    by_cases q : ∃ u, 1 ≤ u ∧ u < 12 ∧ ¬ N 170 u = 0 ∧ N 172 u = N 172 b ∧ M 174 u = N 173 b
    · have := (hv2 q).1; omega
    · rw [hv1 q]; exact (hW b hb).1
  have hlab : ∀ u, ¬ u = b → fw_upd M 174 b v 174 u = M 174 u := fun u hu => by rw [fw_updeq, if_neg hu]
  have hab : ∀ u, ab_th (N 170) u → ab_ah (N 175) e u b → ¬ u = b := by
    intro u _ q e
    subst e
    rcases q with q | q <;> omega
  have hin : ∀ u, ab_th (N 170) u → ab_ah (N 175) e u b → u ∈ D := by
    intro u hu q
    apply Classical.byContradiction
    intro hn
    have hm : M 174 u = -1 := Classical.byContradiction fun z => hn ((h6 u hu).mpr z)
    have := hbest u hu hm
    rcases q with q | q <;> omega
  have hat : ∀ w, 0 ≤ w → (ab_at (N 170) (N 172) (N 175) e (fw_upd M 174 b v 174) b w ↔ ∃ u, 1 ≤ u ∧ u < 12 ∧ ¬ N 170 u = 0 ∧ N 172 u = N 172 b ∧ M 174 u = w) := by
    intro w hw
    constructor
    · rintro ⟨u, hu, ha, hf, hl⟩
      rw [hlab u (hab u hu ha)] at hl
      exact ⟨u, hu.1, hu.2.1, hu.2.2, hf, hl⟩
    · rintro ⟨u, u1, u2, u3, hf, hl⟩
      have hu : ab_th (N 170) u := ⟨u1, u2, u3⟩
      have huD : u ∈ D := (h6 u hu).mpr (by omega)
      have hub : ¬ u = b := fun q => hbD (q ▸ huD)
      refine ⟨u, hu, ?_, hf, by rw [hlab u hub]; exact hl⟩
      have hP : ¬ N 175 u = N 175 b := fun q => hub (hj u b hu hb q)
      by_cases he : e = 0
      · refine Or.inl ⟨he, ?_⟩
        rcases Int.lt_trichotomy (N 175 u) (N 175 b) with g | g | g
        · exact absurd (h7 u huD b hb (Or.inl ⟨he, g⟩)) hbD
        · exact absurd g hP
        · exact g
      · refine Or.inr ⟨he, ?_⟩
        rcases Int.lt_trichotomy (N 175 u) (N 175 b) with g | g | g
        · exact g
        · exact absurd g hP
        · exact absurd (h7 u huD b hb (Or.inr ⟨he, g⟩)) hbD
  refine ⟨fun k hk => (fw_updne hk).trans (h1 k hk), ?_, List.nodup_cons.mpr ⟨hbD, h3⟩, by simp only [List.length_cons]; omega, fun x hx => ?_, fun x hx => ?_, fun x hx u hu ha => ?_, fun x hx => ?_⟩
  · rw [hlab 0 (by have := hb.1; omega)]; exact h2
  · rcases List.mem_cons.mp hx with rfl | hx
    · exact hb
    · exact h5 x hx
  · by_cases hxb : x = b
    · subst hxb
      rw [fw_updeq, if_pos rfl]
      exact ⟨fun _ => by omega, fun _ => List.mem_cons_self⟩
    · rw [hlab x hxb, List.mem_cons]
      exact ⟨fun q => (h6 x hx).mp (q.resolve_left hxb), fun q => Or.inr ((h6 x hx).mpr q)⟩
  · rcases List.mem_cons.mp hx with rfl | hx
    · exact List.mem_cons_of_mem _ (hin u hu ha)
    · exact List.mem_cons_of_mem _ (h7 x hx u hu ha)
  · rcases List.mem_cons.mp hx with rfl | hx
    · unfold ab_lab1
      rw [show fw_upd M 174 x v 174 x = v by rw [fw_updeq, if_pos rfl]]
      have hw0 := (hW x hb).1
      constructor
      · intro q
        obtain ⟨a1, a2, a3⟩ := hv2 ((hat _ hw0).mp q)
        exact ⟨a1, fun z => a2 ((hat v hv0).mp z), fun w w0 w1 => (hat w (by omega)).mpr (a3 w w0 w1)⟩
      · intro q
        exact hv1 fun z => q ((hat _ hw0).mpr z)
    · have hxb : ¬ x = b := fun q => hbD (q ▸ hx)
      have hc : ∀ w, ab_at (N 170) (N 172) (N 175) e (fw_upd M 174 b v 174) x w ↔ ab_at (N 170) (N 172) (N 175) e (M 174) x w := ab_at_congr fun u hu ha => hlab u fun q => hbD (q ▸ h7 x hx u hu ha)
      have := h8 x hx
      unfold ab_lab1 at this ⊢
      rw [hlab x hxb]
      simp only [hc]
      exact this
theorem nm_end {N M : fw_F} {e dn : Int} {D : List Int} (h : nm_inv N M e dn D) (hd : dn = 12 ∨ ∀ k, ab_th (N 170) k → ¬ M 174 k = -1) : ab_lab (N 170) (N 172) (N 173) (N 175) e (M 174) := by
  obtain ⟨h1, h2, h3, h4, h5, h6, h7, h8⟩ := h
  intro t ht
  refine h8 t ?_
  rcases hd with hd | hd
  · apply Classical.byContradiction
    intro hn
    have := ab_ph 11 (t :: D) (List.nodup_cons.mpr ⟨hn, h3⟩) (fun x hx => by
      rcases List.mem_cons.mp hx with rfl | hx
      · exact ⟨ht.1, by have := ht.2.1; omega⟩
      · have := h5 x hx; exact ⟨this.1, by have := this.2.1; omega⟩)
    simp at this
    omega
  · exact (h6 t ht).mpr (hd t ht)
