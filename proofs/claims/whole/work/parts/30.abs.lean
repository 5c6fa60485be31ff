/-! THE ABSTRACT LOG AND TREE: slots x = 20 * machine + number; G x f is the change's row (0 what, 1 thing, 2 into, 3 name or size, 4 height, 5 day, 6..9 ground, 10 kind); O the order, T how many -/
def ab_lv (mk : Int → Int) (x : Int) : Prop := 0 ≤ x ∧ x < 80 ∧ x % 20 < mk (x / 20)
def ab_mk (n : Int) (mk : Int → Int) : Prop := 1 ≤ n ∧ n ≤ 4 ∧ ∀ m, 0 ≤ m → m < 4 → 0 ≤ mk m ∧ mk m ≤ 20 ∧ (n ≤ m → mk m = 0)
def ab_lt (G : fw_F) (x y : Int) : Prop := G x 4 < G y 4 ∨ (G x 4 = G y 4 ∧ x / 20 < y / 20)
def ab_row (G : fw_F) (x : Int) : Prop := (0 ≤ G x 0 ∧ G x 0 ≤ 3) ∧ (0 ≤ G x 1 ∧ G x 1 ≤ 11) ∧ (G x 0 ≤ 1 → 0 ≤ G x 2 ∧ G x 2 ≤ 11 ∧ 0 ≤ G x 3 ∧ G x 3 ≤ 9) ∧ (G x 0 = 0 → 1 ≤ G x 1 ∧ ¬ G x 1 = G x 2 ∧ 1 ≤ G x 10 ∧ G x 10 ≤ 2) ∧ (G x 0 = 3 → 0 ≤ G x 3 ∧ G x 3 ≤ 8) ∧ (0 ≤ G x 5 ∧ G x 5 < 30)
def ab_gr (mk : Int → Int) (G : fw_F) (x : Int) : Prop := 1 ≤ G x 4 ∧ (∀ p, 0 ≤ p → p < 4 → 0 ≤ G x (6 + p) ∧ G x (6 + p) ≤ mk p) ∧ G x (6 + x / 20) = x % 20 ∧ (∀ p j, 0 ≤ p → p < 4 → 0 ≤ j → j < G x (6 + p) → G (20 * p + j) 4 < G x 4)
def ab_or (mk : Int → Int) (G : fw_F) (O : Int → Int) (T : Int) : Prop := (0 ≤ T ∧ T = mk 0 + mk 1 + mk 2 + mk 3) ∧ (∀ j, 0 ≤ j → j < T → ab_lv mk (O j)) ∧ (∀ j k, 0 ≤ j → j < k → k < T → ab_lt G (O j) (O k)) ∧ (∀ x, ab_lv mk x → ∃ j, 0 ≤ j ∧ j < T ∧ O j = x) ∧ (∀ x, ab_lv mk x → G x 4 ≤ T)
def ab_wf (n : Int) (mk : Int → Int) (G : fw_F) (O : Int → Int) (T : Int) : Prop := ab_mk n mk ∧ (∀ x, ab_lv mk x → ab_row G x) ∧ (∀ x, ab_lv mk x → ab_gr mk G x) ∧ ab_or mk G O T
theorem ab_T80 {n : Int} {mk : Int → Int} {G : fw_F} {O : Int → Int} {T : Int} (h : ab_wf n mk G O T) : 0 ≤ T ∧ T ≤ 80 := by
  obtain ⟨⟨_, _, hm⟩, _, _, ⟨h0, h1⟩, _⟩ := h
  have a0 := hm 0 (by omega) (by omega)
  have a1 := hm 1 (by omega) (by omega)
  have a2 := hm 2 (by omega) (by omega)
  have a3 := hm 3 (by omega) (by omega)
  omega
theorem ab_lv_of {mk : Int → Int} {m i : Int} (h0 : 0 ≤ m) (h1 : m < 4) (h2 : 0 ≤ i) (h3 : i < mk m) (h4 : mk m ≤ 20) : ab_lv mk (20 * m + i) := by
  refine ⟨by omega, by omega, ?_⟩
  rw [show (20 * m + i) % 20 = i by omega, show (20 * m + i) / 20 = m by omega]
  exact h3
theorem ab_lt_irr {G : fw_F} {x y : Int} (h : ab_lt G x y) (h2 : ab_lt G y x) : False := by
  rcases h with h | h <;> rcases h2 with h2 | h2 <;> omega
def ab_cnt (O : Int → Int) : Nat → Int → Int
  | 0, _ => 0
  | j + 1, m => ab_cnt O j m + (if O j / 20 = m then 1 else 0)
theorem ab_cnt_mono (O : Int → Int) (m : Int) : ∀ {a b : Nat}, a ≤ b → ab_cnt O a m ≤ ab_cnt O b m := by
  intro a b h
  induction b with
  | zero => rw [show a = 0 by omega]; exact Int.le_refl _
  | succ b ih =>
    rcases Nat.lt_or_ge a (b + 1) with h1 | h1
    · have := ih (by omega)
      simp only [ab_cnt]
      split <;> omega
    · rw [show a = b + 1 by omega]; exact Int.le_refl _
theorem ab_cnt_0 (O : Int → Int) (m : Int) (a : Nat) : 0 ≤ ab_cnt O a m := ab_cnt_mono O m (Nat.zero_le a)
/-- the number of a change is how many of its machine stand ahead of it in the order -/
theorem ab_cnt_all {n : Int} {mk : Int → Int} {G : fw_F} {O : Int → Int} {T : Int} (h : ab_wf n mk G O T) : ∀ j : Nat, (j : Int) ≤ T → (∀ k : Nat, k < j → O k % 20 = ab_cnt O k (O k / 20)) ∧ (∀ m i, 0 ≤ m → m < 4 → 0 ≤ i → i < ab_cnt O j m → ∃ k : Nat, k < j ∧ O k = 20 * m + i) ∧ (∀ m, 0 ≤ m → m < 4 → ab_cnt O j m ≤ mk m) := by
  obtain ⟨⟨hn1, hn4, hm⟩, hrow, hgr, ⟨hT0, hT⟩, hlv, hlt, hall, _⟩ := h
  intro j
  induction j with
  | zero =>
    intro _
    exact ⟨fun k hk => by omega, fun m i h0 h1 h2 h3 => by simp only [ab_cnt] at h3; omega, fun m h0 h1 => (hm m h0 h1).1⟩
  | succ j ih =>
    intro hj
    obtain ⟨ih1, ih2, ih3⟩ := ih (by omega)
    have hlj := hlv j (by omega) (by omega)
    have key : O j % 20 = ab_cnt O j (O j / 20) := by
      have hmm : 0 ≤ O j / 20 ∧ O j / 20 < 4 := by have := hlj.1; have := hlj.2.1; omega
      rcases Int.lt_trichotomy (O j % 20) (ab_cnt O j (O j / 20)) with h1 | h1 | h1
      · obtain ⟨k, hk, he⟩ := ih2 (O j / 20) (O j % 20) hmm.1 hmm.2 (by omega) h1
        have := hlt k j (by omega) (by omega) (by omega)
        rw [he, show 20 * (O j / 20) + O j % 20 = O j by omega] at this
        exact (ab_lt_irr this this).elim
      · exact h1
      · have hmk := hm (O j / 20) hmm.1 hmm.2
        have hx : ab_lv mk (20 * (O j / 20) + ab_cnt O j (O j / 20)) := ab_lv_of hmm.1 hmm.2 (ab_cnt_0 O _ j) (by have := hlj.2.2; omega) hmk.2.1
        obtain ⟨q, q0, q1, q2⟩ := hall _ hx
        have hg := (hgr (O j) hlj)
        have hh := hg.2.2.2 (O j / 20) (ab_cnt O j (O j / 20)) hmm.1 hmm.2 (ab_cnt_0 O _ j) (by rw [hg.2.2.1]; exact h1)
        rcases Int.lt_trichotomy q j with a | a | a
        · have e1 := ih1 q.toNat (by omega)
          rw [show ((q.toNat : Nat) : Int) = q by omega, q2] at e1
          rw [show (20 * (O j / 20) + ab_cnt O j (O j / 20)) % 20 = ab_cnt O j (O j / 20) by have := hlj.2.2; have := ab_cnt_0 O (O j / 20) j; omega, show (20 * (O j / 20) + ab_cnt O j (O j / 20)) / 20 = O j / 20 by have := hlj.2.2; have := ab_cnt_0 O (O j / 20) j; omega] at e1
          have e2 := ab_cnt_mono O (O j / 20) (show q.toNat + 1 ≤ j by omega)
          have e3 : ab_cnt O (q.toNat + 1) (O j / 20) = ab_cnt O q.toNat (O j / 20) + 1 := by
            simp only [ab_cnt]
            rw [if_pos]
            rw [show ((q.toNat : Nat) : Int) = q by omega, q2]
            have := hlj.2.2; have := ab_cnt_0 O (O j / 20) j; omega
          omega
        · rw [a] at q2
          rw [← q2] at hh
          omega
        · have := hlt j q (by omega) a q1
          rw [q2] at this
          rcases this with b | b <;> omega
    refine ⟨fun k hk => ?_, fun m i h0 h1 h2 h3 => ?_, fun m h0 h1 => ?_⟩
    · rcases Nat.lt_or_ge k j with h1 | h1
      · exact ih1 k h1
      · rw [show k = j by omega]; exact key
    · simp only [ab_cnt] at h3
      split at h3
      · rename_i he
        rcases Int.lt_or_le i (ab_cnt O j m) with h4 | h4
        · obtain ⟨k, hk, e⟩ := ih2 m i h0 h1 h2 h4
          exact ⟨k, by omega, e⟩
        · refine ⟨j, by omega, ?_⟩
          subst he
          omega
      · obtain ⟨k, hk, e⟩ := ih2 m i h0 h1 h2 (by omega)
        exact ⟨k, by omega, e⟩
    · simp only [ab_cnt]
      have h9 := ih3 m h0 h1
      split
      · rename_i he
        have := hlj.2.2
        rw [key, he] at this
        omega
      · omega
theorem ab_cnt_at {n : Int} {mk : Int → Int} {G : fw_F} {O : Int → Int} {T : Int} (h : ab_wf n mk G O T) {j : Nat} (hj : (j : Int) < T) : O j % 20 = ab_cnt O j (O j / 20) := (ab_cnt_all h (j + 1) (by omega)).1 j (by omega)
/-- what is not yet counted stands later -/
theorem ab_cnt_later {n : Int} {mk : Int → Int} {G : fw_F} {O : Int → Int} {T : Int} (h : ab_wf n mk G O T) {j : Nat} (hj : (j : Int) ≤ T) {m i : Int} (h0 : 0 ≤ m) (h1 : m < 4) (h2 : ab_cnt O j m ≤ i) (h3 : i < mk m) : ∃ k : Nat, j ≤ k ∧ (k : Int) < T ∧ O k = 20 * m + i := by
  have hmk := (h.1.2.2 m h0 h1)
  have hc := ab_cnt_0 O m j
  obtain ⟨q, q0, q1, q2⟩ := h.2.2.2.2.2.2.1 _ (ab_lv_of h0 h1 (by omega) h3 hmk.2.1)
  refine ⟨q.toNat, ?_, by omega, by rw [show ((q.toNat : Nat) : Int) = q by omega]; exact q2⟩
  rcases Nat.lt_or_ge q.toNat j with a | a
  · have e1 := ab_cnt_at h (j := q.toNat) (by omega)
    rw [show ((q.toNat : Nat) : Int) = q by omega, q2, show (20 * m + i) % 20 = i by omega, show (20 * m + i) / 20 = m by omega] at e1
    have e2 := ab_cnt_mono O m (show q.toNat + 1 ≤ j by omega)
    have e3 : ab_cnt O (q.toNat + 1) m = ab_cnt O q.toNat m + 1 := by
      simp only [ab_cnt]
      rw [if_pos]
      rw [show ((q.toNat : Nat) : Int) = q by omega, q2]
      omega
    omega
  · exact a
theorem ab_cnt_le {n : Int} {mk : Int → Int} {G : fw_F} {O : Int → Int} {T : Int} (h : ab_wf n mk G O T) {j : Nat} (hj : (j : Int) ≤ T) {m : Int} (h0 : 0 ≤ m) (h1 : m < 4) : ab_cnt O j m ≤ mk m := (ab_cnt_all h j hj).2.2 m h0 h1
/-- a change's ground is counted when its turn comes -/
theorem ab_cnt_gr {n : Int} {mk : Int → Int} {G : fw_F} {O : Int → Int} {T : Int} (h : ab_wf n mk G O T) {j : Nat} (hj : (j : Int) < T) {p : Int} (h0 : 0 ≤ p) (h1 : p < 4) : G (O j) (6 + p) ≤ ab_cnt O j p := by
  have hl := h.2.2.2.2.1 j (by omega) hj
  have hg := h.2.2.1 (O j) hl
  have hb := hg.2.1 p h0 h1
  rcases Int.lt_or_le (ab_cnt O j p) (G (O j) (6 + p)) with a | a
  · obtain ⟨k, hk, k1, e⟩ := ab_cnt_later h (j := j) (by omega) h0 h1 (Int.le_refl _) (show ab_cnt O j p < mk p by omega)
    have hh := hg.2.2.2 p (ab_cnt O j p) h0 h1 (ab_cnt_0 O p j) a
    rw [← e] at hh
    rcases Nat.lt_or_ge j k with b | b
    · rcases h.2.2.2.2.2.1 j k (by omega) (by omega) k1 with c | c <;> omega
    · rw [show k = j by omega] at hh
      omega
  · exact a
