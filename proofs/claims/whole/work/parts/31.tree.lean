/-! chains of folders -/
theorem ab_ph : ∀ (n : Nat) (l : List Int), l.Nodup → (∀ x ∈ l, 1 ≤ x ∧ x ≤ n) → l.length ≤ n := by
  intro n
  induction n with
  | zero =>
    intro l _ h
    cases l with
    | nil => simp
    | cons a t => have := h a List.mem_cons_self; omega
  | succ n ih =>
    intro l hn h
    by_cases hm : ((n + 1 : Nat) : Int) ∈ l
    · have h1 := ih (l.erase ((n + 1 : Nat) : Int)) (hn.erase _) (fun x hx => by
        have h2 := hn.mem_erase_iff.mp hx
        have h3 := h x h2.2
        have h4 := h2.1
        omega)
      rw [List.length_erase_of_mem hm] at h1
      omega
    · have h1 := ih l hn (fun x hx => by
        have h3 := h x hx
        have h4 : ¬ x = ((n + 1 : Nat) : Int) := fun e => hm (e ▸ hx)
        omega)
      omega
def ab_it (F : Int → Int) : Nat → Int → Int
  | 0, t => t
  | n + 1, t => F (ab_it F n t)
/-- a tree of folders: numbers 0 .. 11, 0 on top, with a rank that falls -/
def ab_ac (F : Int → Int) : Prop := (∀ t, 0 ≤ t → t < 12 → 0 ≤ F t ∧ F t < 12) ∧ F 0 = 0 ∧ ∃ d : Int → Nat, ∀ t, 1 ≤ t → t < 12 → d (F t) < d t
theorem ab_it_rng {F : Int → Int} (h : ab_ac F) {t : Int} (h0 : 0 ≤ t) (h1 : t < 12) : ∀ n, 0 ≤ ab_it F n t ∧ ab_it F n t < 12 := by
  intro n
  induction n with
  | zero => exact ⟨h0, h1⟩
  | succ n ih => exact h.1 _ ih.1 ih.2
theorem ab_it_0 {F : Int → Int} (h : ab_ac F) {t : Int} {n : Nat} (h0 : ab_it F n t = 0) : ∀ k, ab_it F (n + k) t = 0 := by
  intro k
  induction k with
  | zero => exact h0
  | succ k ih => show F (ab_it F (n + k) t) = 0; rw [ih]; exact h.2.1
theorem ab_it_top {F : Int → Int} (h : ab_ac F) {t : Int} (h0 : 0 ≤ t) (h1 : t < 12) : ab_it F 11 t = 0 := by
  apply Classical.byContradiction
  intro hne
  obtain ⟨d, hd⟩ := h.2.2
  have nz : ∀ k, k ≤ 11 → 1 ≤ ab_it F k t ∧ ab_it F k t < 12 := by
    intro k hk
    have hr := ab_it_rng h h0 h1 k
    have : ¬ ab_it F k t = 0 := fun e => hne (by have := ab_it_0 h e (11 - k); rwa [show k + (11 - k) = 11 by omega] at this)
    omega
  have dec : ∀ i k, i + k + 1 ≤ 11 → d (ab_it F (i + k + 1) t) < d (ab_it F i t) := by
    intro i k
    induction k with
    | zero => intro hk; exact hd _ (nz i (by omega)).1 (nz i (by omega)).2
    | succ k ih =>
      intro hk
      have h2 := hd _ (nz (i + k + 1) (by omega)).1 (nz (i + k + 1) (by omega)).2
      have h3 := ih (by omega)
      show d (F (ab_it F (i + k + 1) t)) < _
      omega
  have hl := ab_ph 11 ((List.range 12).map fun k => ab_it F k t) (by
      unfold List.Nodup
      rw [List.pairwise_map]
      refine List.Pairwise.imp_of_mem ?_ (List.pairwise_lt_range (n := 12))
      intro a b ha hb hab e
      have hb2 := List.mem_range.mp hb
      have := dec a (b - a - 1) (by omega)
      rw [show a + (b - a - 1) + 1 = b by omega, ← e] at this
      omega) (by
      intro x hx
      obtain ⟨k, hk, rfl⟩ := List.mem_map.mp hx
      have := List.mem_range.mp hk
      have := nz k (by omega)
      omega)
  simp at hl
/-- the walk up stops at o or on top, within 12 steps; further steps change nothing -/
theorem ab_up_it {F : Int → Int} {o : Int} : ∀ (n : Nat) (t : Int), (∀ k, k < n → ¬ (ab_it F k t = o ∨ ab_it F k t = 0)) → fw_up F o n t = ab_it F n t := by
  intro n
  induction n with
  | zero => intro t _; rfl
  | succ n ih =>
    intro t h
    have hit : ∀ k, ab_it F k (F t) = ab_it F (k + 1) t := by
      intro k
      induction k with
      | zero => rfl
      | succ k ih2 => show F (ab_it F k (F t)) = F (ab_it F (k + 1) t); rw [ih2]
    have h00 : ¬ (t = o ∨ t = 0) := h 0 (by omega)
    rw [fw_up, if_neg h00, ih (F t) (fun k hk => by rw [hit]; exact h (k + 1) (by omega)), hit]
theorem ab_up_stop {F : Int → Int} {o : Int} : ∀ (n : Nat) (t : Int), (fw_up F o n t = o ∨ fw_up F o n t = 0) → fw_up F o (n + 1) t = fw_up F o n t := by
  intro n
  induction n with
  | zero =>
    intro t h
    have h : t = o ∨ t = 0 := h
    show fw_up F o 1 t = t
    rw [fw_up, if_pos h]
  | succ n ih =>
    intro t h
    rw [fw_up]
    conv => rhs; rw [fw_up]
    by_cases hc : t = o ∨ t = 0
    · rw [if_pos hc, if_pos hc]
    · rw [if_neg hc, if_neg hc]
      rw [fw_up, if_neg hc] at h
      exact ih _ h
theorem ab_up_le {F : Int → Int} {o : Int} {n : Nat} {t : Int} (h : fw_up F o n t = o ∨ fw_up F o n t = 0) : ∀ k, fw_up F o (n + k) t = fw_up F o n t := by
  intro k
  induction k with
  | zero => rfl
  | succ k ih =>
    have := ab_up_stop (n + k) t (by rw [ih]; exact h)
    rw [← Nat.add_assoc, this, ih]
theorem ab_up_end {F : Int → Int} (h : ab_ac F) (o : Int) {t : Int} (h0 : 0 ≤ t) (h1 : t < 12) : fw_up F o 11 t = o ∨ fw_up F o 11 t = 0 := by
  by_cases hc : ∀ k, k < 11 → ¬ (ab_it F k t = o ∨ ab_it F k t = 0)
  · right
    rw [ab_up_it 11 t hc]
    exact ab_it_top h h0 h1
  · have : ∃ k, k < 11 ∧ (ab_it F k t = o ∨ ab_it F k t = 0) := Classical.byContradiction fun q => hc fun k hk e => q ⟨k, hk, e⟩
    -- the first such k
    have first : ∀ m, (∃ k, k < m ∧ (ab_it F k t = o ∨ ab_it F k t = 0)) → ∃ k, k < m ∧ (ab_it F k t = o ∨ ab_it F k t = 0) ∧ ∀ i, i < k → ¬ (ab_it F i t = o ∨ ab_it F i t = 0) := by
      intro m
      induction m with
      | zero => rintro ⟨k, hk, _⟩; omega
      | succ m ih =>
        rintro ⟨k, hk, e⟩
        by_cases h2 : ∃ k, k < m ∧ (ab_it F k t = o ∨ ab_it F k t = 0)
        · obtain ⟨k', a, b, c⟩ := ih h2
          exact ⟨k', by omega, b, c⟩
        · exact ⟨k, hk, e, fun i hi e2 => h2 ⟨i, by omega, e2⟩⟩
    obtain ⟨k, hk, e, hf⟩ := first 11 this
    have h2 := ab_up_it k t hf
    have h3 := ab_up_le (n := k) (t := t) (F := F) (o := o) (by rw [h2]; exact e) (11 - k)
    rw [show k + (11 - k) = 11 by omega] at h3
    rw [h3, h2]
    exact e
theorem ab_up_step {F : Int → Int} (h : ab_ac F) (o : Int) {t : Int} (h0 : 0 ≤ t) (h1 : t < 12) (hn : ¬ (t = o ∨ t = 0)) : fw_up F o 12 t = fw_up F o 12 (F t) := by
  have a := ab_up_end h o (h.1 t h0 h1).1 (h.1 t h0 h1).2
  have b := ab_up_le a 1
  rw [b]
  rw [show (12 : Nat) = 11 + 1 from rfl, fw_up, if_neg hn]
theorem ab_up_here {F : Int → Int} (o : Int) {t : Int} {n : Nat} (hn : t = o ∨ t = 0) : fw_up F o n t = t := by
  cases n with
  | zero => rfl
  | succ n => rw [fw_up, if_pos hn]
/-! the tree -/
abbrev ab_isF (T : fw_F) (t : Int) : Prop := ¬ T 1 t = 0 ∧ T 2 t = 2
abbrev ab_win (T : fw_F) (t o : Int) : Prop := fw_up (T 3) o 12 t = o
abbrev ab_mv (T : fw_F) (t into : Int) : Prop := ¬ t = 0 ∧ ¬ T 1 t = 0 ∧ ab_isF T into ∧ ¬ ab_win T into t
def ab_put (T : fw_F) (t into nm j : Int) : fw_F := fw_upd (fw_upd (fw_upd T 3 t into) 4 t nm) 5 t j
def ab_new (T : fw_F) (t into nm kd j : Int) : fw_F := fw_upd (fw_upd (fw_upd (ab_put T t (if ab_isF T into then into else 0) nm j) 0 t 1) 1 t 1) 2 t kd
def ab_gone (T : fw_F) (t : Int) : fw_F := fun f u => if f = 1 ∧ 1 ≤ u ∧ u < 12 ∧ ab_win T u t then 0 else T f u
def ab_back (T : fw_F) (t : Int) : fw_F := fw_upd (fw_upd T 1 t 1) 3 t (if ab_isF (fw_upd T 1 t 1) (T 3 t) then T 3 t else 0)
def ab_hold (G : fw_F) (x : Int) (w : List Int) : List Int := w.filter (fun y => decide (¬ y % 20 < G x (6 + y / 20))) ++ [x]
abbrev ab_S : Type := fw_F × (Int → List Int)
def ab_ap (G : fw_F) (ru x j : Int) (S : ab_S) : ab_S :=
  if G x 0 = 0 then (if S.1 0 (G x 1) = 0 then (ab_new S.1 (G x 1) (G x 2) (G x 3) (G x 10) j, S.2) else S)
  else if G x 0 = 1 then (if ab_mv S.1 (G x 1) (G x 2) then (ab_put S.1 (G x 1) (G x 2) (G x 3) j, S.2) else S)
  else if G x 0 = 2 then (if ¬ G x 1 = 0 ∧ ¬ S.1 1 (G x 1) = 0 then (ab_gone S.1 (G x 1), S.2) else S)
  else if S.1 0 (G x 1) = 0 ∨ ¬ S.1 2 (G x 1) = 1 then S
  else if S.1 1 (G x 1) = 0 then (if fw_and ru 1 = 0 then S else (ab_back S.1 (G x 1), fun u => if u = G x 1 then ab_hold G x (S.2 u) else S.2 u))
  else (S.1, fun u => if u = G x 1 then ab_hold G x (S.2 u) else S.2 u)
def ab_T0 : ab_S := (fun f t => if t = 0 then (if f = 0 ∨ f = 1 then 1 else if f = 2 then 2 else 0) else if f = 2 then 1 else 0, fun _ => [])
def ab_TT (G : fw_F) (O v lf : Int → Int) (ru : Int) : Nat → ab_S
  | 0 => ab_T0
  | j + 1 => if O j % 20 < v (O j / 20) ∧ O j % 20 < lf (O j / 20) then ab_ap G ru (O j) j (ab_TT G O v lf ru j) else ab_TT G O v lf ru j
/-- a row of a table of values -/
def ab_tr (T : fw_F) (t : Int) : Prop := (T 0 t = 0 ∨ T 0 t = 1) ∧ (T 1 t = 0 ∨ T 1 t = 1) ∧ (T 1 t = 1 → T 0 t = 1) ∧ (T 2 t = 1 ∨ T 2 t = 2) ∧ (0 ≤ T 4 t ∧ T 4 t ≤ 9)
def ab_ti (G : fw_F) (O : Int → Int) (j : Nat) (S : ab_S) : Prop :=
  (∀ t, 0 ≤ t → t < 12 → ab_tr S.1 t) ∧ (S.1 0 0 = 1 ∧ S.1 1 0 = 1 ∧ S.1 2 0 = 2 ∧ S.1 4 0 = 0) ∧ (ab_ac (S.1 3) ∧ ∀ u, 0 ≤ u → u < 12 → S.1 0 (S.1 3 u) = 1) ∧
  (∀ t, 1 ≤ t → t < 12 → S.1 0 t = 1 → 0 ≤ S.1 5 t ∧ S.1 5 t < j ∧ G (O (S.1 5 t)) 1 = t) ∧
  (∀ t, 0 ≤ t → t < 12 → (S.1 0 t = 0 ∨ S.1 2 t = 2 → S.2 t = []) ∧ (∀ y ∈ S.2 t, (∃ k : Nat, k < j ∧ O k = y) ∧ G y 0 = 3 ∧ G y 1 = t) ∧ (S.2 t).Pairwise (fun a b => ¬ a / 20 = b / 20))
