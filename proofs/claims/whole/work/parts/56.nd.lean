/-! the model's way of naming -/
abbrev nd_fr (N : fw_F) (e t : Int) : Prop := ∀ k, 1 ≤ k → k < 12 → k = t ∨ N 11 k = 0 ∨ ¬ N 13 k = N 13 t ∨ ¬ N 14 k = N 14 t ∨ ab_ah (N 15) e t k
def nd_inv (N M : fw_F) (e : Int) (D : List Int) : Prop := (∀ k, ¬ k = 16 → M k = N k) ∧ M 16 0 = N 14 0 ∧ D.Nodup ∧ (∀ x ∈ D, ab_th (N 11) x ∧ ¬ nd_fr N e x) ∧ (∀ x, ab_th (N 11) x → (nd_fr N e x → M 16 x = N 14 x) ∧ (¬ nd_fr N e x → (x ∈ D ↔ ¬ M 16 x = -9))) ∧ (∀ x ∈ D, ∀ u, ab_th (N 11) u → ¬ nd_fr N e u → ab_ah (N 15) e u x → u ∈ D) ∧
  (∀ x ∈ D, 10 ≤ M 16 x ∧ (¬ ∃ u ∈ D, ab_ah (N 15) e u x ∧ N 13 u = N 13 x ∧ M 16 u = M 16 x) ∧ ∀ v, 10 ≤ v → v < M 16 x → ∃ u ∈ D, ab_ah (N 15) e u x ∧ N 13 u = N 13 x ∧ M 16 u = v)
theorem nd_step {N M : fw_F} {e b v : Int} {D : List Int} (hW : ∀ t, ab_th (N 11) t → 0 ≤ N 14 t ∧ N 14 t ≤ 9) (hj : ∀ a b, ab_th (N 11) a → ab_th (N 11) b → N 15 a = N 15 b → a = b) (h : nd_inv N M e D) (hb : ab_th (N 11) b) (hb2 : M 16 b = -9) (hbest : ∀ k, ab_th (N 11) k → M 16 k = -9 → ¬ ab_ah (N 15) e k b) (hv0 : 10 ≤ v)
    (hv1 : ¬ ∃ u, 1 ≤ u ∧ u < 12 ∧ ¬ N 11 u = 0 ∧ N 13 u = N 13 b ∧ M 16 u = v) (hv2 : ∀ w, 10 ≤ w → w < v → ∃ u, 1 ≤ u ∧ u < 12 ∧ ¬ N 11 u = 0 ∧ N 13 u = N 13 b ∧ M 16 u = w) : nd_inv N (fw_upd M 16 b v) e (b :: D) := by
  obtain ⟨h1, h2, h3, h4, h5, h6, h7⟩ := h
  have hbf : ¬ nd_fr N e b := fun q => by
    have := (h5 b hb).1 q
    have := hW b hb
    omega
  have hbD : b ∉ D := fun q => ((h5 b hb).2 hbf).mp q hb2
  have hlab : ∀ u, ¬ u = b → fw_upd M 16 b v 16 u = M 16 u := fun u hu => by rw [fw_updeq, if_neg hu]
  have hin : ∀ u, ab_th (N 11) u → ¬ nd_fr N e u → ab_ah (N 15) e u b → u ∈ D := by
    intro u hu hf q
    apply Classical.byContradiction
    intro hn
    have hm : M 16 u = -9 := Classical.byContradiction fun z => hn (((h5 u hu).2 hf).mpr z)
    exact hbest u hu hm q
  have hne : ∀ u, u ∈ D → ¬ u = b := fun u hu q => hbD (q ▸ hu)
  have tk : ∀ w, 10 ≤ w → ((∃ u, 1 ≤ u ∧ u < 12 ∧ ¬ N 11 u = 0 ∧ N 13 u = N 13 b ∧ M 16 u = w) ↔ ∃ u ∈ D, ab_ah (N 15) e u b ∧ N 13 u = N 13 b ∧ M 16 u = w) := by
    intro w hw
    constructor
    · rintro ⟨u, u1, u2, u3, hf, hl⟩
      have hu : ab_th (N 11) u := ⟨u1, u2, u3⟩
      have hnf : ¬ nd_fr N e u := fun q => by
        have := (h5 u hu).1 q
        have := hW u hu
        omega
      have huD : u ∈ D := ((h5 u hu).2 hnf).mpr (by omega)
      refine ⟨u, huD, ?_, hf, hl⟩
      have hP : ¬ N 15 u = N 15 b := fun q => hne u huD (hj u b hu hb q)
      by_cases he : e = 0
      · rcases Int.lt_trichotomy (N 15 u) (N 15 b) with g | g | g
        · exact absurd (h6 u huD b hb hbf (Or.inl ⟨he, g⟩)) hbD
        · exact absurd g hP
        · exact Or.inl ⟨he, g⟩
      · rcases Int.lt_trichotomy (N 15 u) (N 15 b) with g | g | g
        · exact Or.inr ⟨he, g⟩
        · exact absurd g hP
        · exact absurd (h6 u huD b hb hbf (Or.inr ⟨he, g⟩)) hbD
    · rintro ⟨u, huD, _, hf, hl⟩
      have := (h4 u huD).1
      exact ⟨u, this.1, this.2.1, this.2.2, hf, hl⟩
  refine ⟨fun k hk => (fw_updne hk).trans (h1 k hk), ?_, List.nodup_cons.mpr ⟨hbD, h3⟩, fun x hx => ?_, fun x hx => ?_, fun x hx u hu hf ha => ?_, fun x hx => ?_⟩
  · rw [hlab 0 (by have := hb.1; omega)]; exact h2
  · rcases List.mem_cons.mp hx with rfl | hx
    · exact ⟨hb, hbf⟩
    · exact h4 x hx
  · by_cases hxb : x = b
    · subst hxb
      refine ⟨fun q => absurd q hbf, fun _ => ?_⟩
      rw [fw_updeq, if_pos rfl]
      exact ⟨fun _ => by omega, fun _ => List.mem_cons_self⟩
    · rw [hlab x hxb, List.mem_cons]
      refine ⟨(h5 x hx).1, fun q => ?_⟩
      have := (h5 x hx).2 q
      exact ⟨fun z => this.mp (z.resolve_left hxb), fun z => Or.inr (this.mpr z)⟩
  · rcases List.mem_cons.mp hx with rfl | hx
    · exact List.mem_cons_of_mem _ (hin u hu hf ha)
    · exact List.mem_cons_of_mem _ (h6 x hx u hu hf ha)
  · rcases List.mem_cons.mp hx with rfl | hx
    · rw [show fw_upd M 16 x v 16 x = v by rw [fw_updeq, if_pos rfl]]
      refine ⟨hv0, ?_, fun w w0 w1 => ?_⟩
      · rintro ⟨u, hu, ha, hf, hl⟩
        have hux : ¬ u = x := by
          intro q
          subst q
          rcases ha with ha | ha <;> omega
        rw [hlab u hux] at hl
        have huD := (List.mem_cons.mp hu).resolve_left hux
        exact hv1 ((tk v hv0).mpr ⟨u, huD, ha, hf, hl⟩)
      · obtain ⟨u, hu, ha, hf, hl⟩ := (tk w w0).mp (hv2 w w0 w1)
        exact ⟨u, List.mem_cons_of_mem _ hu, ha, hf, by rw [hlab u (hne u hu)]; exact hl⟩
    · obtain ⟨a1, a2, a3⟩ := h7 x hx
      rw [hlab x (hne x hx)]
      refine ⟨a1, ?_, fun w w0 w1 => ?_⟩
      · rintro ⟨u, hu, ha, hf, hl⟩
        rcases List.mem_cons.mp hu with hub | huD
        · rw [hub] at ha
          exact hbD (h6 x hx b hb hbf ha)
        · rw [hlab u (hne u huD)] at hl
          exact a2 ⟨u, huD, ha, hf, hl⟩
      · obtain ⟨u, hu, ha, hf, hl⟩ := a3 w w0 w1
        exact ⟨u, List.mem_cons_of_mem _ hu, ha, hf, by rw [hlab u (hne u hu)]; exact hl⟩
theorem ab_minex {P : Int → Int} {e : Int} (C : Int → Prop) (hj : ∀ a b, C a → C b → P a = P b → a = b) : ∀ (n : Nat), (∃ t : Int, 1 ≤ t ∧ t < n ∧ C t) → ∃ k0 : Int, 1 ≤ k0 ∧ k0 < n ∧ C k0 ∧ ∀ k : Int, 1 ≤ k → k < n → C k → ¬ k = k0 → ab_ah P e k0 k := by
  intro n
  induction n with
  | zero => rintro ⟨t, a, b, _⟩; omega
  | succ n ih =>
    rintro ⟨t, a, b, c⟩
    by_cases hex : ∃ t, 1 ≤ t ∧ t < (n : Int) ∧ C t
    · obtain ⟨k0, a0, b0, c0, d0⟩ := ih hex
      by_cases hn : C n ∧ 1 ≤ (n : Int) ∧ ab_ah P e n k0
      · refine ⟨n, hn.2.1, by omega, hn.1, fun k ka kb kc kd => ?_⟩
        by_cases hk : k = k0
        · rw [hk]; exact hn.2.2
        · have := d0 k ka (by omega) kc hk
          have := hn.2.2
          omega
      · refine ⟨k0, a0, by omega, c0, fun k ka kb kc kd => ?_⟩
        by_cases hk : k = n
        · have hP : ¬ P k = P k0 := fun q => kd (hj k k0 kc c0 q)
          have hna : ¬ ab_ah P e k k0 := fun q => hn ⟨hk ▸ kc, hk ▸ ka, hk ▸ q⟩
          by_cases he : e = 0
          · refine Or.inl ⟨he, ?_⟩
            omega
          · refine Or.inr ⟨he, ?_⟩
            omega
        · exact d0 k ka (by omega) kc kd
    · have ht : t = n := by
        apply Classical.byContradiction
        intro q
        exact hex ⟨t, a, by omega, c⟩
      refine ⟨t, a, b, c, fun k ka kb kc kd => ?_⟩
      exact absurd ⟨k, ka, by omega, kc⟩ hex
theorem nd_end {N M : fw_F} {e : Int} {D : List Int} (hW : ∀ t, ab_th (N 11) t → 0 ≤ N 14 t ∧ N 14 t ≤ 9) (hj : ∀ a b, ab_th (N 11) a → ab_th (N 11) b → N 15 a = N 15 b → a = b) (h : nd_inv N M e D) (hall : ∀ k, ab_th (N 11) k → ¬ M 16 k = -9) : ab_lab (N 11) (N 13) (N 14) (N 15) e (M 16) := by
  obtain ⟨h1, h2, h3, h4, h5, h6, h7⟩ := h
  have asym : ∀ a b, ab_ah (N 15) e a b → ab_ah (N 15) e b a → False := by
    intro a b p q
    rcases p with p | p <;> rcases q with q | q <;> omega
  have tot : ∀ a b, ab_th (N 11) a → ab_th (N 11) b → ¬ a = b → ¬ ab_ah (N 15) e a b → ab_ah (N 15) e b a := by
    intro a b ha hb hab hn
    have hP : ¬ N 15 a = N 15 b := fun q => hab (hj a b ha hb q)
    by_cases he : e = 0
    · exact Or.inl ⟨he, by omega⟩
    · exact Or.inr ⟨he, by omega⟩
  have hat : ∀ t, ab_th (N 11) t → (ab_at (N 11) (N 13) (N 15) e (M 16) t (N 14 t) ↔ ¬ nd_fr N e t) := by
    intro t ht
    constructor
    · rintro ⟨u, hu, ha, hf, hl⟩ q
      have huf : nd_fr N e u := Classical.byContradiction fun z => by
        have := (h7 u (((h5 u hu).2 z).mpr (hall u hu))).1
        have := hW t ht
        omega
      have hlu := (h5 u hu).1 huf
      rcases q u hu.1 hu.2.1 with z | z | z | z | z
      · subst z; exact asym u u ha ha
      · exact hu.2.2 z
      · exact z hf
      · exact z (by rw [← hlu, hl])
      · exact asym u t ha z
    · intro q
      have : ∃ k : Int, 1 ≤ k ∧ k < (12 : Nat) ∧ (ab_th (N 11) k ∧ N 13 k = N 13 t ∧ N 14 k = N 14 t) ∧ ¬ k = t ∧ ¬ ab_ah (N 15) e t k := by
        apply Classical.byContradiction
        intro hn
        refine q fun k k1 k2 => ?_
        by_cases c1 : k = t
        · exact Or.inl c1
        · by_cases c2 : N 11 k = 0
          · exact Or.inr (Or.inl c2)
          · by_cases c3 : N 13 k = N 13 t
            · by_cases c4 : N 14 k = N 14 t
              · by_cases c5 : ab_ah (N 15) e t k
                · exact Or.inr (Or.inr (Or.inr (Or.inr c5)))
                · exact absurd ⟨k, k1, by omega, ⟨⟨k1, k2, c2⟩, c3, c4⟩, c1, c5⟩ hn
              · exact Or.inr (Or.inr (Or.inr (Or.inl c4)))
            · exact Or.inr (Or.inr (Or.inl c3))
      obtain ⟨k, k1, k2, k3, k4, k5⟩ := this
      obtain ⟨k0, a0, b0, c0, d0⟩ := ab_minex (P := N 15) (e := e) (fun k => ab_th (N 11) k ∧ N 13 k = N 13 t ∧ N 14 k = N 14 t) (fun a b ha hb => hj a b ha.1 hb.1) 12 ⟨k, k1, k2, k3⟩
      have kt := tot t k ht k3.1 (fun z => k4 z.symm) k5
      have hk0t : ¬ k0 = t := by
        intro z
        rw [z] at d0
        exact k5 (d0 k k1 k2 k3 k4)
      have hk0 : ab_ah (N 15) e k0 t := d0 t ht.1 (by have := ht.2.1; omega) ⟨ht, rfl, rfl⟩ (fun z => hk0t z.symm)
      have hfr : nd_fr N e k0 := by
        intro u u1 u2
        by_cases c1 : u = k0
        · exact Or.inl c1
        · by_cases c2 : N 11 u = 0
          · exact Or.inr (Or.inl c2)
          · by_cases c3 : N 13 u = N 13 k0
            · by_cases c4 : N 14 u = N 14 k0
              · exact Or.inr (Or.inr (Or.inr (Or.inr (d0 u u1 (by omega) ⟨⟨u1, u2, c2⟩, c3.trans c0.2.1, c4.trans c0.2.2⟩ c1))))
              · exact Or.inr (Or.inr (Or.inr (Or.inl c4)))
            · exact Or.inr (Or.inr (Or.inl c3))
      exact ⟨k0, c0.1, hk0, c0.2.1, by rw [(h5 k0 c0.1).1 hfr]; exact c0.2.2⟩
  intro t ht
  constructor
  · intro q
    have hnf := (hat t ht).mp q
    have htD := ((h5 t ht).2 hnf).mpr (hall t ht)
    obtain ⟨a1, a2, a3⟩ := h7 t htD
    refine ⟨a1, ?_, fun v v0 v1 => ?_⟩
    · rintro ⟨u, hu, ha, hf, hl⟩
      have hunf : ¬ nd_fr N e u := fun z => by
        have := (h5 u hu).1 z
        have := hW u hu
        omega
      exact a2 ⟨u, ((h5 u hu).2 hunf).mpr (hall u hu), ha, hf, hl⟩
    · obtain ⟨u, hu, ha, hf, hl⟩ := a3 v v0 v1
      exact ⟨u, (h4 u hu).1, ha, hf, hl⟩
  · intro q
    have hf : nd_fr N e t := Classical.byContradiction fun z => q ((hat t ht).mpr z)
    exact (h5 t ht).1 hf
