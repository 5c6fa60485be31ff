/-! the tree's invariant -/
theorem ab_put_v (T : fw_F) (t into nm j u : Int) : ab_put T t into nm j 0 u = T 0 u ∧ ab_put T t into nm j 1 u = T 1 u ∧ ab_put T t into nm j 2 u = T 2 u ∧ ab_put T t into nm j 3 u = (if u = t then into else T 3 u) ∧ ab_put T t into nm j 4 u = (if u = t then nm else T 4 u) ∧ ab_put T t into nm j 5 u = (if u = t then j else T 5 u) := by
  refine ⟨?_, ?_, ?_, ?_, ?_, ?_⟩ <;> simp [ab_put, fw_upd]
theorem ab_new_v (T : fw_F) (t into nm kd j u : Int) : ab_new T t into nm kd j 0 u = (if u = t then 1 else T 0 u) ∧ ab_new T t into nm kd j 1 u = (if u = t then 1 else T 1 u) ∧ ab_new T t into nm kd j 2 u = (if u = t then kd else T 2 u) ∧ ab_new T t into nm kd j 3 u = (if u = t then (if ab_isF T into then into else 0) else T 3 u) ∧ ab_new T t into nm kd j 4 u = (if u = t then nm else T 4 u) ∧ ab_new T t into nm kd j 5 u = (if u = t then j else T 5 u) := by
  refine ⟨?_, ?_, ?_, ?_, ?_, ?_⟩ <;> simp [ab_new, ab_put, fw_upd]
theorem ab_gone_v (T : fw_F) (t u : Int) : ab_gone T t 0 u = T 0 u ∧ ab_gone T t 1 u = (if 1 ≤ u ∧ u < 12 ∧ ab_win T u t then 0 else T 1 u) ∧ ab_gone T t 2 u = T 2 u ∧ ab_gone T t 3 u = T 3 u ∧ ab_gone T t 4 u = T 4 u ∧ ab_gone T t 5 u = T 5 u := by
  refine ⟨?_, ?_, ?_, ?_, ?_, ?_⟩ <;> simp [ab_gone]
theorem ab_back_v (T : fw_F) (t u : Int) : ab_back T t 0 u = T 0 u ∧ ab_back T t 1 u = (if u = t then 1 else T 1 u) ∧ ab_back T t 2 u = T 2 u ∧ ab_back T t 3 u = (if u = t then (if ab_isF (fw_upd T 1 t 1) (T 3 t) then T 3 t else 0) else T 3 u) ∧ ab_back T t 4 u = T 4 u ∧ ab_back T t 5 u = T 5 u := by
  refine ⟨?_, ?_, ?_, ?_, ?_, ?_⟩ <;> simp [ab_back, fw_upd]
theorem ab_ac_put {F F' : Int → Int} (h : ab_ac F) {t into : Int} (h0 : 1 ≤ t) (h1 : t < 12) (h2 : 0 ≤ into) (h3 : into < 12) (h4 : ¬ fw_up F t 12 into = t) (he : ∀ u, F' u = if u = t then into else F u) : ab_ac F' := by
  obtain ⟨hr, hz, d, hd⟩ := h
  refine ⟨fun u a b => ?_, ?_, ⟨fun u => if fw_up F t 12 u = t then d u + (d into + 1) else d u, fun u a b => ?_⟩⟩
  · rw [he]
    split
    · exact ⟨h2, h3⟩
    · exact hr u a b
  · rw [he, if_neg (by omega)]
    exact hz
  · rw [he]
    dsimp only
    by_cases hu : u = t
    · rw [if_pos hu, if_neg h4, if_pos (by rw [hu]; exact ab_up_here t (Or.inl rfl)), hu]
      omega
    · rw [if_neg hu]
      have := hd u a b
      rw [ab_up_step ⟨hr, hz, d, hd⟩ t (by omega) b (by omega)]
      split <;> omega
theorem ab_leaf {F : Int → Int} {t : Int} (h0 : 1 ≤ t) (hr : ∀ u, 0 ≤ u → u < 12 → 0 ≤ F u ∧ F u < 12) (hl : ∀ u, 0 ≤ u → u < 12 → ¬ F u = t) : ∀ (n : Nat) (a : Int), 0 ≤ a → a < 12 → ¬ a = t → ¬ fw_up F t n a = t := by
  intro n
  induction n with
  | zero => intro a _ _ h; exact h
  | succ n ih =>
    intro a a0 a1 h
    rw [fw_up]
    split
    · exact h
    · exact ih (F a) (hr a a0 a1).1 (hr a a0 a1).2 (hl a a0 a1)
theorem ab_up_0 {F : Int → Int} {t : Int} (n : Nat) (h : 1 ≤ t) : ¬ fw_up F t n 0 = t := by
  rw [ab_up_here t (Or.inr rfl)]
  omega
theorem ab_ti_0 (G : fw_F) (O : Int → Int) : ab_ti G O 0 ab_T0 := by
  refine ⟨fun t a b => ?_, ⟨rfl, rfl, rfl, rfl⟩, ⟨⟨fun t a b => ?_, rfl, ⟨fun u => if u = 0 then 0 else 1, fun t a b => ?_⟩⟩, fun u a b => ?_⟩, fun t a b h => ?_, fun t a b => ⟨fun _ => rfl, fun y (hy : y ∈ ([] : List Int)) => (by cases hy), List.Pairwise.nil⟩⟩
  · unfold ab_tr ab_T0
    by_cases ht : t = 0 <;> simp [ht]
  · have e : ab_T0.1 3 t = 0 := by by_cases ht : t = 0 <;> simp [ab_T0, ht]
    rw [e]
    exact ⟨by decide, by decide⟩
  · have e : ab_T0.1 3 t = 0 := by by_cases ht : t = 0 <;> simp [ab_T0, ht]
    rw [e]
    dsimp only
    rw [if_pos rfl, if_neg (by omega)]
    decide
  · have e : ab_T0.1 3 u = 0 := by by_cases ht : u = 0 <;> simp [ab_T0, ht]
    rw [e]
    rfl
  · have e : ab_T0.1 0 t = 0 := by
      have ht : ¬ t = 0 := by omega
      simp [ab_T0, ht]
    omega
theorem ab_ti_skip {G : fw_F} {O : Int → Int} {j : Nat} {S : ab_S} (h : ab_ti G O j S) : ab_ti G O (j + 1) S := by
  refine ⟨h.1, h.2.1, h.2.2.1, fun t a b c => ?_, fun t a b => ⟨(h.2.2.2.2 t a b).1, fun y hy => ?_, (h.2.2.2.2 t a b).2.2⟩⟩
  · have := h.2.2.2.1 t a b c
    exact ⟨this.1, by omega, this.2.2⟩
  · obtain ⟨⟨k, k1, k2⟩, r⟩ := (h.2.2.2.2 t a b).2.1 y hy
    exact ⟨⟨k, by omega, k2⟩, r⟩
/-- the same tables of rows, other things put: what is to be shown -/
theorem ab_ti_of {G : fw_F} {O : Int → Int} {j : Nat} {S : ab_S} {T : fw_F} (h : ab_ti G O j S) (h1 : ∀ t, 0 ≤ t → t < 12 → ab_tr T t) (h2 : T 0 0 = 1 ∧ T 1 0 = 1 ∧ T 2 0 = 2 ∧ T 4 0 = 0) (h3 : ab_ac (T 3) ∧ ∀ u, 0 ≤ u → u < 12 → T 0 (T 3 u) = 1)
    (h4 : ∀ t, 1 ≤ t → t < 12 → T 0 t = 1 → (T 5 t = S.1 5 t ∧ S.1 0 t = 1) ∨ (T 5 t = j ∧ G (O j) 1 = t)) (h5 : ∀ t, 0 ≤ t → t < 12 → T 0 t = 0 ∨ T 2 t = 2 → S.2 t = []) : ab_ti G O (j + 1) (T, S.2) := by
  refine ⟨h1, h2, h3, fun t a b c => ?_, fun t a b => ⟨h5 t a b, fun y hy => ?_, (h.2.2.2.2 t a b).2.2⟩⟩
  · rcases h4 t a b c with ⟨e1, e2⟩ | ⟨e1, e2⟩
    · have := h.2.2.2.1 t a b e2
      show 0 ≤ T 5 t ∧ T 5 t < ((j + 1 : Nat) : Int) ∧ G (O (T 5 t)) 1 = t
      rw [e1]
      exact ⟨this.1, by omega, this.2.2⟩
    · show 0 ≤ T 5 t ∧ T 5 t < ((j + 1 : Nat) : Int) ∧ G (O (T 5 t)) 1 = t
      rw [e1]
      exact ⟨by omega, by omega, e2⟩
  · obtain ⟨⟨k, k1, k2⟩, r⟩ := (h.2.2.2.2 t a b).2.1 y hy
    exact ⟨⟨k, by omega, k2⟩, r⟩
theorem ab_hold_pw {n : Int} {mk : Int → Int} {G : fw_F} {O : Int → Int} {T : Int} (h : ab_wf n mk G O T) {j : Nat} (hj : (j : Int) < T) {w : List Int} (h1 : ∀ y ∈ w, ∃ k : Nat, k < j ∧ O k = y) (h2 : w.Pairwise (fun a b => ¬ a / 20 = b / 20)) : (∀ y ∈ w.filter (fun y => decide (¬ y % 20 < G (O j) (6 + y / 20))), ¬ y / 20 = O j / 20) ∧ (ab_hold G (O j) w).Pairwise (fun a b => ¬ a / 20 = b / 20) := by
  have key : ∀ y ∈ w.filter (fun y => decide (¬ y % 20 < G (O j) (6 + y / 20))), ¬ y / 20 = O j / 20 := by
    intro y hy e
    obtain ⟨hy1, hy2⟩ := List.mem_filter.mp hy
    obtain ⟨k, hk, rfl⟩ := h1 y hy1
    have hl := h.2.2.2.2.1 j (by omega) hj
    have hg := (h.2.2.1 (O j) hl).2.2.1
    have c1 := ab_cnt_at h (j := k) (by omega)
    have c2 := ab_cnt_at h (j := j) hj
    have c3 := ab_cnt_mono O (O j / 20) (show k + 1 ≤ j by omega)
    have c4 : ab_cnt O (k + 1) (O j / 20) = ab_cnt O k (O j / 20) + 1 := by
      simp only [ab_cnt]
      rw [if_pos e]
    have hy2 := of_decide_eq_true hy2
    rw [e] at c1 hy2
    omega
  refine ⟨key, ?_⟩
  unfold ab_hold
  rw [List.pairwise_append]
  refine ⟨h2.filter _, List.pairwise_singleton _ _, fun a ha b hb => ?_⟩
  rw [List.mem_singleton.mp hb]
  exact key a ha
theorem ab_ti_hold {n : Int} {mk : Int → Int} {G : fw_F} {O : Int → Int} {T : Int} (h : ab_wf n mk G O T) {j : Nat} (hj : (j : Int) < T) {S : ab_S} {t : Int} (hi : ab_ti G O (j + 1) S) (hi0 : ∀ y ∈ S.2 t, ∃ k : Nat, k < j ∧ O k = y) (h0 : 0 ≤ t ∧ t < 12) (h1 : S.1 0 t = 1) (h2 : S.1 2 t = 1) (h3 : G (O j) 0 = 3) (h4 : G (O j) 1 = t) : ab_ti G O (j + 1) (S.1, fun u => if u = t then ab_hold G (O j) (S.2 u) else S.2 u) := by
  refine ⟨hi.1, hi.2.1, hi.2.2.1, hi.2.2.2.1, fun u a b => ?_⟩
  by_cases hu : u = t
  · subst hu
    have hw := hi.2.2.2.2 u a b
    show (_ → (if u = u then ab_hold G (O j) (S.2 u) else S.2 u) = []) ∧ (∀ y ∈ (if u = u then ab_hold G (O j) (S.2 u) else S.2 u), _) ∧ (if u = u then ab_hold G (O j) (S.2 u) else S.2 u).Pairwise _
    rw [if_pos rfl]
    refine ⟨fun q => ?_, fun y hy => ?_, (ab_hold_pw h hj hi0 hw.2.2).2⟩
    · have q : S.1 0 u = 0 ∨ S.1 2 u = 2 := q
      omega
    · rcases List.mem_append.mp hy with hy | hy
      · exact hw.2.1 y (List.mem_filter.mp hy).1
      · rw [List.mem_singleton.mp hy]
        exact ⟨⟨j, by omega, rfl⟩, h3, h4⟩
  · show (_ → (if u = t then ab_hold G (O j) (S.2 u) else S.2 u) = []) ∧ (∀ y ∈ (if u = t then ab_hold G (O j) (S.2 u) else S.2 u), _) ∧ (if u = t then ab_hold G (O j) (S.2 u) else S.2 u).Pairwise _
    rw [if_neg hu]
    exact hi.2.2.2.2 u a b
theorem ab_ti_ap {n : Int} {mk : Int → Int} {G : fw_F} {O : Int → Int} {T : Int} (h : ab_wf n mk G O T) {j : Nat} (hj : (j : Int) < T) {S : ab_S} (hi : ab_ti G O j S) (ru : Int) : ab_ti G O (j + 1) (ab_ap G ru (O j) j S) := by
  have hl := h.2.2.2.2.1 j (by omega) hj
  obtain ⟨⟨r0, r0'⟩, ⟨r1, r1'⟩, r2, r3, r4, -⟩ := h.2.1 (O j) hl
  have hi2 := hi
  obtain ⟨htr, hroot, ⟨hac, hfm⟩, hpl, hrw⟩ := hi
  have ht := htr (G (O j) 1) r1 (by omega)
  unfold ab_ap
  split
  · rename_i a0
    obtain ⟨s1, s2, s3, s4⟩ := r3 a0
    obtain ⟨q1, q2, q3, q4⟩ := r2 (by omega)
    split
    · rename_i m0
      refine ab_ti_of hi2 (fun u a b => ?_) ?_ ⟨ab_ac_put (t := G (O j) 1) (into := if ab_isF S.1 (G (O j) 2) then G (O j) 2 else 0) hac s1 (by omega) ?_ ?_ ?_ (fun u => ?_), fun u a b => ?_⟩ (fun u a b c => ?_) (fun u a b c => ?_)
      · have hu := htr u a b
        obtain ⟨v0, v1, v2, v3, v4, v5⟩ := ab_new_v S.1 (G (O j) 1) (G (O j) 2) (G (O j) 3) (G (O j) 10) j u
        unfold ab_tr at hu ⊢
        rw [v0, v1, v2, v4]
        split <;> omega
      · obtain ⟨v0, v1, v2, v3, v4, v5⟩ := ab_new_v S.1 (G (O j) 1) (G (O j) 2) (G (O j) 3) (G (O j) 10) j 0
        rw [v0, v1, v2, v4, if_neg (by omega), if_neg (by omega), if_neg (by omega), if_neg (by omega)]
        exact hroot
      · split <;> omega
      · split <;> omega
      · split
        · refine ab_leaf s1 hac.1 (fun u a b e => ?_) 12 (G (O j) 2) q1 (by omega) (by omega)
          have := hfm u a b
          rw [e] at this
          omega
        · exact ab_up_0 12 s1
      · exact (ab_new_v S.1 (G (O j) 1) (G (O j) 2) (G (O j) 3) (G (O j) 10) j u).2.2.2.1
      · obtain ⟨v0, v1, v2, v3, v4, v5⟩ := ab_new_v S.1 (G (O j) 1) (G (O j) 2) (G (O j) 3) (G (O j) 10) j u
        rw [v3, (ab_new_v S.1 (G (O j) 1) (G (O j) 2) (G (O j) 3) (G (O j) 10) j _).1]
        by_cases hu : u = G (O j) 1
        · rw [if_pos hu]
          by_cases isf : ab_isF S.1 (G (O j) 2)
          · rw [if_pos isf]
            have h9 := htr (G (O j) 2) q1 (by omega)
            unfold ab_tr at h9
            have := isf.1
            split <;> omega
          · rw [if_neg isf, if_neg (by omega)]
            exact hroot.1
        · rw [if_neg hu]
          split
          · rfl
          · exact hfm u a b
      · obtain ⟨v0, v1, v2, v3, v4, v5⟩ := ab_new_v S.1 (G (O j) 1) (G (O j) 2) (G (O j) 3) (G (O j) 10) j u
        rw [v5]
        rw [v0] at c
        by_cases hu : u = G (O j) 1
        · rw [if_pos hu]
          exact Or.inr ⟨rfl, hu.symm⟩
        · rw [if_neg hu] at c ⊢
          exact Or.inl ⟨rfl, c⟩
      · obtain ⟨v0, v1, v2, v3, v4, v5⟩ := ab_new_v S.1 (G (O j) 1) (G (O j) 2) (G (O j) 3) (G (O j) 10) j u
        rw [v0, v2] at c
        by_cases hu : u = G (O j) 1
        · rw [hu]
          exact (hrw _ r1 (by omega)).1 (Or.inl m0)
        · rw [if_neg hu, if_neg hu] at c
          exact (hrw u a b).1 c
    · exact ab_ti_skip hi2
  · split
    · rename_i _ a1
      obtain ⟨q1, q2, q3, q4⟩ := r2 (by omega)
      split
      · rename_i mv
        obtain ⟨w0, w1, w2, w3⟩ := mv
        refine ab_ti_of hi2 (fun u a b => ?_) ?_ ⟨ab_ac_put (t := G (O j) 1) (into := G (O j) 2) hac (by omega) (by omega) q1 (by omega) w3 (fun u => (ab_put_v _ _ _ _ _ u).2.2.2.1), fun u a b => ?_⟩ (fun u a b c => ?_) (fun u a b c => ?_)
        · have hu := htr u a b
          obtain ⟨v0, v1, v2, v3, v4, v5⟩ := ab_put_v S.1 (G (O j) 1) (G (O j) 2) (G (O j) 3) j u
          unfold ab_tr at hu ⊢
          rw [v0, v1, v2, v4]
          split <;> omega
        · obtain ⟨v0, v1, v2, v3, v4, v5⟩ := ab_put_v S.1 (G (O j) 1) (G (O j) 2) (G (O j) 3) j 0
          rw [v0, v1, v2, v4, if_neg (by omega)]
          exact hroot
        · obtain ⟨v0, v1, v2, v3, v4, v5⟩ := ab_put_v S.1 (G (O j) 1) (G (O j) 2) (G (O j) 3) j u
          rw [v3, (ab_put_v S.1 (G (O j) 1) (G (O j) 2) (G (O j) 3) j _).1]
          split
          · have h9 := htr (G (O j) 2) q1 (by omega)
            unfold ab_tr at h9
            have := w2.1
            omega
          · exact hfm u a b
        · obtain ⟨v0, v1, v2, v3, v4, v5⟩ := ab_put_v S.1 (G (O j) 1) (G (O j) 2) (G (O j) 3) j u
          rw [v5]
          rw [v0] at c
          by_cases hu : u = G (O j) 1
          · rw [if_pos hu]
            exact Or.inr ⟨rfl, hu.symm⟩
          · rw [if_neg hu]
            exact Or.inl ⟨rfl, c⟩
        · obtain ⟨v0, v1, v2, v3, v4, v5⟩ := ab_put_v S.1 (G (O j) 1) (G (O j) 2) (G (O j) 3) j u
          rw [v0, v2] at c
          exact (hrw u a b).1 c
      · exact ab_ti_skip hi2
    · split
      · split
        · refine ab_ti_of hi2 (fun u a b => ?_) ?_ ⟨?_, fun u a b => ?_⟩ (fun u a b c => ?_) (fun u a b c => ?_)
          · have hu := htr u a b
            obtain ⟨v0, v1, v2, v3, v4, v5⟩ := ab_gone_v S.1 (G (O j) 1) u
            unfold ab_tr at hu ⊢
            rw [v0, v1, v2, v4]
            split <;> omega
          · obtain ⟨v0, v1, v2, v3, v4, v5⟩ := ab_gone_v S.1 (G (O j) 1) 0
            rw [v0, v1, v2, v4, if_neg (by omega)]
            exact hroot
          · have e : ab_gone S.1 (G (O j) 1) 3 = S.1 3 := funext fun u => (ab_gone_v S.1 (G (O j) 1) u).2.2.2.1
            rw [e]
            exact hac
          · rw [(ab_gone_v S.1 (G (O j) 1) u).2.2.2.1, (ab_gone_v S.1 (G (O j) 1) _).1]
            exact hfm u a b
          · obtain ⟨v0, v1, v2, v3, v4, v5⟩ := ab_gone_v S.1 (G (O j) 1) u
            rw [v0] at c
            exact Or.inl ⟨v5, c⟩
          · obtain ⟨v0, v1, v2, v3, v4, v5⟩ := ab_gone_v S.1 (G (O j) 1) u
            rw [v0, v2] at c
            exact (hrw u a b).1 c
        · exact ab_ti_skip hi2
      · rename_i a0 a1 a2
        split
        · exact ab_ti_skip hi2
        · rename_i b0
          have m1 : S.1 0 (G (O j) 1) = 1 := by unfold ab_tr at ht; omega
          have k1 : S.1 2 (G (O j) 1) = 1 := by omega
          have hw : ∀ y ∈ S.2 (G (O j) 1), ∃ k : Nat, k < j ∧ O k = y := fun y hy => ((hrw _ r1 (by omega)).2.1 y hy).1
          have tne : ¬ G (O j) 1 = 0 := fun e => by rw [e] at k1; omega
          split
          · split
            · exact ab_ti_skip hi2
            · refine ab_ti_hold (S := (ab_back S.1 (G (O j) 1), S.2)) h hj ?_ hw ⟨r1, by omega⟩ ?_ ?_ (by omega) rfl
              · refine ab_ti_of hi2 (fun u a b => ?_) ?_ ⟨?_, fun u a b => ?_⟩ (fun u a b c => ?_) (fun u a b c => ?_)
                · have hu := htr u a b
                  obtain ⟨v0, v1, v2, v3, v4, v5⟩ := ab_back_v S.1 (G (O j) 1) u
                  unfold ab_tr at hu ⊢
                  rw [v0, v1, v2, v4]
                  split
                  · rename_i e; subst e; omega
                  · omega
                · obtain ⟨v0, v1, v2, v3, v4, v5⟩ := ab_back_v S.1 (G (O j) 1) 0
                  rw [v0, v1, v2, v4, if_neg (by omega)]
                  exact hroot
                · by_cases isf : ab_isF (fw_upd S.1 1 (G (O j) 1) 1) (S.1 3 (G (O j) 1))
                  · have e : ab_back S.1 (G (O j) 1) 3 = S.1 3 := funext fun u => by
                      rw [(ab_back_v S.1 (G (O j) 1) u).2.2.2.1, if_pos isf]
                      split
                      · rename_i e; rw [e]
                      · rfl
                    rw [e]
                    exact hac
                  · refine ab_ac_put (t := G (O j) 1) (into := 0) hac (by omega) (by omega) (by omega) (by omega) (ab_up_0 12 (by omega)) (fun u => ?_)
                    rw [(ab_back_v S.1 (G (O j) 1) u).2.2.2.1, if_neg isf]
                · rw [(ab_back_v S.1 (G (O j) 1) u).2.2.2.1, (ab_back_v S.1 (G (O j) 1) _).1]
                  split
                  · split
                    · exact hfm _ r1 (by omega)
                    · exact hroot.1
                  · exact hfm u a b
                · obtain ⟨v0, v1, v2, v3, v4, v5⟩ := ab_back_v S.1 (G (O j) 1) u
                  rw [v0] at c
                  exact Or.inl ⟨v5, c⟩
                · obtain ⟨v0, v1, v2, v3, v4, v5⟩ := ab_back_v S.1 (G (O j) 1) u
                  rw [v0, v2] at c
                  exact (hrw u a b).1 c
              · exact (ab_back_v S.1 (G (O j) 1) _).1.trans m1
              · exact (ab_back_v S.1 (G (O j) 1) _).2.2.1.trans k1
          · exact ab_ti_hold h hj (ab_ti_skip hi2) hw ⟨r1, by omega⟩ m1 k1 (by omega) rfl
theorem ab_ti_TT {n : Int} {mk : Int → Int} {G : fw_F} {O : Int → Int} {T : Int} (h : ab_wf n mk G O T) (v lf : Int → Int) (ru : Int) : ∀ j : Nat, (j : Int) ≤ T → ab_ti G O j (ab_TT G O v lf ru j) := by
  intro j
  induction j with
  | zero => intro _; exact ab_ti_0 G O
  | succ j ih =>
    intro hj
    have := ih (by omega)
    unfold ab_TT
    split
    · exact ab_ti_ap h (by omega) this ru
    · exact ab_ti_skip this
