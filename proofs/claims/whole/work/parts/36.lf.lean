/-! the next one in the order, by the machines' heads -/
def ab_fs (nx up : Int → Int) (G : fw_F) (t b : Int) : Prop := (b = -9 ∧ ∀ p, 0 ≤ p → p < t → up p ≤ nx p) ∨ (0 ≤ b ∧ b < t ∧ nx b < up b ∧ ∀ p, 0 ≤ p → p < t → nx p < up p → G (20 * b + nx b) 4 < G (20 * p + nx p) 4 ∨ (G (20 * b + nx b) 4 = G (20 * p + nx p) 4 ∧ b ≤ p))
theorem ab_first {n : Int} {mk : Int → Int} {G : fw_F} {O : Int → Int} {T : Int} (h : ab_wf n mk G O T) {j : Nat} (hj : (j : Int) ≤ T) {v nx : Int → Int} {b : Int} (hv : ∀ p, 0 ≤ p → p < 4 → 0 ≤ v p ∧ v p ≤ mk p) (hnx : ∀ p, 0 ≤ p → p < 4 → nx p = min (v p) (ab_cnt O j p)) (hf : ab_fs nx v G n b) :
    (b = -9 ∧ ∀ k : Nat, j ≤ k → (k : Int) < T → ¬ O k % 20 < v (O k / 20)) ∨ (∃ k : Nat, j ≤ k ∧ (k : Int) < T ∧ O k % 20 < v (O k / 20) ∧ (∀ i : Nat, j ≤ i → i < k → ¬ O i % 20 < v (O i / 20)) ∧ b = O k / 20 ∧ nx b = O k % 20) := by
  obtain ⟨hn1, hn4, hm⟩ := h.1
  have own : ∀ k : Nat, (k : Int) < T → 0 ≤ O k / 20 ∧ O k / 20 < n ∧ O k / 20 < 4 ∧ 0 ≤ O k % 20 := by
    intro k hk
    have hl := h.2.2.2.2.1 k (by omega) hk
    have h0 := hl.1
    have h1 := hl.2.1
    have h2 := hl.2.2
    have h3 := hm (O k / 20) (by omega) (by omega)
    refine ⟨by omega, ?_, by omega, by omega⟩
    rcases Int.lt_or_le (O k / 20) n with q | q
    · exact q
    · have := h3.2.2 q
      omega
  rcases hf with ⟨hb, hall⟩ | ⟨hb0, hb1, hb2, hall⟩
  · refine Or.inl ⟨hb, fun k hk hkT hkn => ?_⟩
    obtain ⟨o0, o1, o2, o3⟩ := own k hkT
    have c1 := ab_cnt_at h hkT
    have c2 := ab_cnt_mono O (O k / 20) hk
    have c3 := hall _ o0 o1
    have c4 := hnx _ o0 o2
    omega
  · right
    have hb4 : b < 4 := by omega
    have e1 := hnx b hb0 hb4
    have hvb := hv b hb0 hb4
    have e2 : nx b = ab_cnt O j b := by omega
    obtain ⟨k, hk, hkT, ek⟩ := ab_cnt_later h hj hb0 hb4 (Int.le_refl _) (show ab_cnt O j b < mk b by omega)
    have hc0 := ab_cnt_0 O b j
    have hmb := hm b hb0 hb4
    have eb : O k / 20 = b := by rw [ek]; omega
    have ei : O k % 20 = ab_cnt O j b := by rw [ek]; omega
    refine ⟨k, hk, hkT, by rw [eb, ei]; omega, fun i hi hik hin => ?_, eb.symm, by rw [ei, e2]⟩
    obtain ⟨o0, o1, o2, o3⟩ := own i (by omega)
    have c1 := ab_cnt_at h (show (i : Int) < T by omega)
    have c2 := ab_cnt_mono O (O i / 20) hi
    have c4 := hnx _ o0 o2
    have c5 : nx (O i / 20) = ab_cnt O j (O i / 20) := by omega
    have hlt := h.2.2.2.2.2.1 i k (by omega) (by omega) hkT
    have hs := hall _ o0 o1 (by omega)
    rw [e2, ← ek, c5] at hs
    have hli := h.2.2.2.2.1 i (by omega) (by omega)
    have hgi := (h.2.2.1 (O i) hli)
    have hle : G (20 * (O i / 20) + ab_cnt O j (O i / 20)) 4 ≤ G (O i) 4 := by
      rcases Int.lt_or_le (ab_cnt O j (O i / 20)) (O i % 20) with q | q
      · have := hgi.2.2.2 (O i / 20) (ab_cnt O j (O i / 20)) o0 o2 (ab_cnt_0 O _ j) (by rw [hgi.2.2.1]; exact q)
        omega
      · rw [show 20 * (O i / 20) + ab_cnt O j (O i / 20) = O i by omega]
        exact Int.le_refl _
    rcases hlt with q | ⟨q1, q2⟩
    · omega
    · rw [eb] at q2
      omega
/-! what is left out: of each machine all from a number on -/
abbrev ab_sd (G : fw_F) (Lf : Int → Int) (x : Int) : Prop := Lf 0 < G x 6 ∨ Lf 1 < G x 7 ∨ Lf 2 < G x 8 ∨ Lf 3 < G x 9
def ab_LF (G : fw_F) (O ap : Int → Int) : Nat → Int → Int
  | 0, m => if ap m = -9 then 20 else ap m
  | j + 1, m => if ab_sd G (ab_LF G O ap j) (O j) ∧ m = O j / 20 then min (ab_LF G O ap j m) (O j % 20) else ab_LF G O ap j m
theorem ab_LF_s (G : fw_F) (O ap : Int → Int) (j : Nat) (m : Int) : ab_LF G O ap (j + 1) m = if ab_sd G (ab_LF G O ap j) (O j) ∧ m = O j / 20 then min (ab_LF G O ap j m) (O j % 20) else ab_LF G O ap j m := rfl
def ab_apok (ap : Int → Int) : Prop := ∀ p, 0 ≤ p → p < 4 → ap p = -9 ∨ (0 ≤ ap p ∧ ap p ≤ 20)
theorem ab_LF_ok {n : Int} {mk : Int → Int} {G : fw_F} {O : Int → Int} {T : Int} {ap : Int → Int} (h : ab_wf n mk G O T) (ha : ab_apok ap) : ∀ j : Nat, (j : Int) ≤ T → ∀ p, 0 ≤ p → p < 4 → 0 ≤ ab_LF G O ap j p ∧ ab_LF G O ap j p ≤ ab_LF G O ap 0 p ∧ ab_LF G O ap 0 p ≤ 20 ∧ (ab_cnt O j p ≤ ab_LF G O ap j p → ab_LF G O ap j p = ab_LF G O ap 0 p) := by
  intro j
  induction j with
  | zero =>
    intro _ p p0 p1
    have := ha p p0 p1
    refine ⟨?_, Int.le_refl _, ?_, fun _ => rfl⟩
    · unfold ab_LF; split <;> omega
    · unfold ab_LF; split <;> omega
  | succ j ih =>
    intro hj p p0 p1
    obtain ⟨a1, a2, a3, a4⟩ := ih (by omega) p p0 p1
    have hl := h.2.2.2.2.1 j (by omega) (by omega)
    have c1 := ab_cnt_at h (show (j : Int) < T by omega)
    have h0 := hl.1
    rw [ab_LF_s]
    simp only [ab_cnt]
    split
    · rename_i q
      rw [if_pos q.2.symm]
      rw [← q.2] at c1
      refine ⟨by omega, by omega, a3, fun z => ?_⟩
      omega
    · refine ⟨a1, a2, a3, fun z => a4 ?_⟩
      split at z <;> omega
def ab_FO (G : fw_F) (O ap : Int → Int) (j : Nat) (p : Int) : Int := if ab_LF G O ap j p < ab_cnt O j p then ab_LF G O ap j p else 20
theorem ab_FO_step {n : Int} {mk : Int → Int} {G : fw_F} {O : Int → Int} {T : Int} {ap : Int → Int} (h : ab_wf n mk G O T) (ha : ab_apok ap) {j : Nat} (hj : (j : Int) < T) : (∀ p, 0 ≤ p → p < 4 → ¬ p = O j / 20 → ab_FO G O ap (j + 1) p = ab_FO G O ap j p) ∧
    ((((¬ ap (O j / 20) = -9 ∧ ap (O j / 20) ≤ O j % 20) ∨ (∃ p, 0 ≤ p ∧ p < n ∧ ab_FO G O ap j p < G (O j) (6 + p))) ∧ O j % 20 < ab_FO G O ap j (O j / 20)) → ab_FO G O ap (j + 1) (O j / 20) = O j % 20) ∧ (¬ (((¬ ap (O j / 20) = -9 ∧ ap (O j / 20) ≤ O j % 20) ∨ (∃ p, 0 ≤ p ∧ p < n ∧ ab_FO G O ap j p < G (O j) (6 + p))) ∧ O j % 20 < ab_FO G O ap j (O j / 20)) → ab_FO G O ap (j + 1) (O j / 20) = ab_FO G O ap j (O j / 20)) := by
  obtain ⟨hn1, hn4, hm⟩ := h.1
  have hl := h.2.2.2.2.1 j (by omega) hj
  have hg := h.2.2.1 (O j) hl
  have c1 := ab_cnt_at h hj
  have h0 := hl.1
  have h1 := hl.2.1
  have h2 := hl.2.2
  have hmm := hm (O j / 20) (by omega) (by omega)
  have hL := ab_LF_ok h ha j (by omega)
  have e0 : ∀ p, ab_LF G O ap 0 p = if ap p = -9 then 20 else ap p := fun p => rfl
  have hgc : ∀ p, 0 ≤ p → p < 4 → 0 ≤ G (O j) (6 + p) ∧ G (O j) (6 + p) ≤ ab_cnt O j p ∧ ab_cnt O j p ≤ mk p := fun p a b => ⟨(hg.2.1 p a b).1, ab_cnt_gr h hj a b, ab_cnt_le h (by omega) a b⟩
  have hfo : ∀ p, 0 ≤ p → p < 4 → (ab_FO G O ap j p < G (O j) (6 + p) ↔ ab_LF G O ap j p < G (O j) (6 + p)) := by
    intro p a b
    have := hgc p a b
    have := hm p a b
    unfold ab_FO
    split <;> constructor <;> intro q <;> omega
  constructor
  · intro p a b hp
    have eL : ab_LF G O ap (j + 1) p = ab_LF G O ap j p := by rw [ab_LF_s, if_neg (fun q => hp q.2)]
    have eC : ab_cnt O (j + 1) p = ab_cnt O j p := by
      show ab_cnt O j p + (if O j / 20 = p then 1 else 0) = _
      rw [if_neg (fun q => hp q.symm), Int.add_zero]
    unfold ab_FO
    rw [eL, eC]
  · have hsd : ab_sd G (ab_LF G O ap j) (O j) ↔ ∃ p, 0 ≤ p ∧ p < n ∧ ab_FO G O ap j p < G (O j) (6 + p) := by
      constructor
      · intro q
        have key : ∀ p, 0 ≤ p → p < 4 → ab_LF G O ap j p < G (O j) (6 + p) → ∃ p, 0 ≤ p ∧ p < n ∧ ab_FO G O ap j p < G (O j) (6 + p) := by
          intro p a b c
          refine ⟨p, a, ?_, (hfo p a b).mpr c⟩
          rcases Int.lt_or_le p n with z | z
          · exact z
          · have := (hm p a b).2.2 z
            have := hgc p a b
            have := (hL p a b).1
            omega
        rcases q with q | q | q | q
        · exact key 0 (by omega) (by omega) q
        · exact key 1 (by omega) (by omega) q
        · exact key 2 (by omega) (by omega) q
        · exact key 3 (by omega) (by omega) q
      · rintro ⟨p, a, b, c⟩
        have c := (hfo p a (by omega)).mp c
        rcases (show p = 0 ∨ p = 1 ∨ p = 2 ∨ p = 3 by omega) with rfl | rfl | rfl | rfl
        · exact Or.inl c
        · exact Or.inr (Or.inl c)
        · exact Or.inr (Or.inr (Or.inl c))
        · exact Or.inr (Or.inr (Or.inr c))
    obtain ⟨a1, a2, a3, a4⟩ := hL (O j / 20) (by omega) (by omega)
    have ei := e0 (O j / 20)
    have hself : ab_LF G O ap j (O j / 20) < O j % 20 → ab_sd G (ab_LF G O ap j) (O j) := by
      intro q
      refine hsd.mpr ⟨O j / 20, by omega, ?_, ?_⟩
      · rcases Int.lt_or_le (O j / 20) n with z | z
        · exact z
        · have := hmm.2.2 z; omega
      · rw [hfo _ (by omega) (by omega), hg.2.2.1]; exact q
    have hcs : ab_cnt O (j + 1) (O j / 20) = ab_cnt O j (O j / 20) + 1 := by show ab_cnt O j (O j / 20) + (if O j / 20 = O j / 20 then 1 else 0) = _; rw [if_pos rfl]
    rw [← hsd]
    by_cases q : ab_sd G (ab_LF G O ap j) (O j)
    · have eL : ab_LF G O ap (j + 1) (O j / 20) = min (ab_LF G O ap j (O j / 20)) (O j % 20) := by rw [ab_LF_s, if_pos ⟨q, rfl⟩]
      have el : ab_FO G O ap (j + 1) (O j / 20) = min (ab_LF G O ap j (O j / 20)) (O j % 20) := by
        unfold ab_FO
        rw [eL, hcs, if_pos (by omega)]
      rw [el]
      by_cases z : ab_LF G O ap j (O j / 20) < ab_cnt O j (O j / 20)
      · have ef : ab_FO G O ap j (O j / 20) = ab_LF G O ap j (O j / 20) := by unfold ab_FO; rw [if_pos z]
        rw [ef]
        exact ⟨fun w => by have := w.2; omega, fun _ => by omega⟩
      · have ef : ab_FO G O ap j (O j / 20) = 20 := by unfold ab_FO; rw [if_neg z]
        rw [ef]
        exact ⟨fun _ => by omega, fun w => absurd ⟨Or.inr q, by omega⟩ w⟩
    · have hge : O j % 20 ≤ ab_LF G O ap j (O j / 20) := Int.not_lt.mp fun z => q (hself z)
      have eL : ab_LF G O ap (j + 1) (O j / 20) = ab_LF G O ap j (O j / 20) := by rw [ab_LF_s, if_neg (fun z => q z.1)]
      have e4 := a4 (by omega)
      have ef : ab_FO G O ap j (O j / 20) = 20 := by unfold ab_FO; rw [if_neg (by omega)]
      have eF : ab_FO G O ap (j + 1) (O j / 20) = if ab_LF G O ap j (O j / 20) < ab_cnt O j (O j / 20) + 1 then ab_LF G O ap j (O j / 20) else 20 := by unfold ab_FO; rw [eL, hcs]
      rw [ef, eF]
      refine ⟨fun w => ?_, fun w => ?_⟩
      · have z := w.1.resolve_right q
        rw [if_neg z.1] at ei
        rw [if_pos (by omega)]
        omega
      · rw [if_neg]
        intro z
        by_cases y : ap (O j / 20) = -9
        · rw [if_pos y] at ei
          omega
        · rw [if_neg y] at ei
          exact w ⟨Or.inl ⟨y, by omega⟩, by omega⟩
/-- left out or not: the two ways to say it -/
theorem ab_FO_LF {n : Int} {mk : Int → Int} {G : fw_F} {O : Int → Int} {T : Int} {ap : Int → Int} (h : ab_wf n mk G O T) (ha : ab_apok ap) {p i : Int} (h0 : 0 ≤ p) (h1 : p < 4) (hi : i < mk p) : i < ab_FO G O ap T.toNat p ↔ i < ab_LF G O ap T.toNat p := by
  have hT := (ab_T80 h).1
  have hm := h.1.2.2 p h0 h1
  have hc : ab_cnt O T.toNat p = mk p := by
    have c1 := ab_cnt_le h (j := T.toNat) (by omega) h0 h1
    rcases Int.lt_or_le (ab_cnt O T.toNat p) (mk p) with q | q
    · obtain ⟨k, a, b, c⟩ := ab_cnt_later h (j := T.toNat) (by omega) h0 h1 (Int.le_refl _) q
      omega
    · omega
  have := ab_LF_ok h ha T.toNat (by omega) p h0 h1
  unfold ab_FO
  rw [hc]
  split <;> constructor <;> intro q <;> omega
theorem ab_cnt_T {n : Int} {mk : Int → Int} {G : fw_F} {O : Int → Int} {T : Int} (h : ab_wf n mk G O T) {p : Int} (h0 : 0 ≤ p) (h1 : p < 4) : ab_cnt O T.toNat p = mk p := by
  have hT := (ab_T80 h).1
  have c1 := ab_cnt_le h (j := T.toNat) (by omega) h0 h1
  rcases Int.lt_or_le (ab_cnt O T.toNat p) (mk p) with q | q
  · obtain ⟨k, a, b, c⟩ := ab_cnt_later h (j := T.toNat) (by omega) h0 h1 (Int.le_refl _) q
    omega
  · omega
theorem ab_TT_skip {G : fw_F} {O v lf : Int → Int} {ru : Int} {j : Nat} : ∀ k : Nat, j ≤ k → (∀ i : Nat, j ≤ i → i < k → ¬ O i % 20 < v (O i / 20)) → ab_TT G O v lf ru k = ab_TT G O v lf ru j := by
  intro k
  induction k with
  | zero => intro h _; rw [show j = 0 by omega]
  | succ k ih =>
    intro h hs
    rcases Nat.lt_or_ge j (k + 1) with q | q
    · rw [ab_TT, if_neg (fun z => hs k (by omega) (by omega) z.1)]
      exact ih (by omega) (fun i a b => hs i a (by omega))
    · rw [show j = k + 1 by omega]
theorem ab_cnt_skip {n : Int} {mk : Int → Int} {G : fw_F} {O : Int → Int} {T : Int} (h : ab_wf n mk G O T) {v : Int → Int} {j : Nat} : ∀ k : Nat, j ≤ k → (k : Int) ≤ T → (∀ i : Nat, j ≤ i → i < k → ¬ O i % 20 < v (O i / 20)) → ∀ p, min (v p) (ab_cnt O k p) = min (v p) (ab_cnt O j p) := by
  intro k
  induction k with
  | zero => intro h _ _ p; rw [show j = 0 by omega]
  | succ k ih =>
    intro hk hkT hs p
    rcases Nat.lt_or_ge j (k + 1) with q | q
    · rw [← ih (by omega) (by omega) (fun i a b => hs i a (by omega)) p]
      have c1 := ab_cnt_at h (show (k : Int) < T by omega)
      have := hs k (by omega) (by omega)
      simp only [ab_cnt]
      split
      · rename_i e
        rw [e] at c1 this
        omega
      · omega
    · rw [show j = k + 1 by omega]
