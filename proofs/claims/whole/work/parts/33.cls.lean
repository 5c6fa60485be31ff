/-! the class' cells and the abstract tree and log -/
theorem fw_updne {M : fw_F} {k j v k' : Int} (h : ¬ k' = k) : fw_upd M k j v k' = M k' := by
  funext j'
  simp [fw_upd, h]
theorem fw_updeq {M : fw_F} {k j v : Int} (j' : Int) : fw_upd M k j v k j' = if j' = j then v else M k j' := by
  simp [fw_upd]
theorem fw_updj {M : fw_F} {k j v : Int} : fw_upd M k j v k j = v := by
  simp [fw_upd]
theorem fw_uplne {L : fw_G} {k j k' : Int} {v : Int64} (h : ¬ k' = k) : fw_upl L k j v k' = L k' := by
  funext j'
  simp [fw_upl, h]
theorem fw_upleq {L : fw_G} {k j : Int} {v : Int64} (j' : Int) : fw_upl L k j v k j' = if j' = j then v else L k j' := by
  simp [fw_upl]
def cl_T (M : fw_F) (S : ab_S) : Prop := ∀ t, 0 ≤ t → t < 12 → M 169 t = S.1 0 t ∧ M 170 t = S.1 1 t ∧ M 171 t = S.1 2 t ∧ M 172 t = S.1 3 t ∧ M 173 t = S.1 4 t ∧ M 175 t = S.1 5 t ∧ M 176 t = ((S.2 t).length : Int) ∧ ∀ (r : Nat) (y : Int), (S.2 t)[r]? = some y → M 177 (t * 4 + r) = y
/-- a change's object -/
def cl_x (M G : fw_F) (x : Int) : Prop := (M (8 + 2 * x) 1 = x / 20 ∧ M (8 + 2 * x) 2 = x % 20 ∧ M (8 + 2 * x) 3 = G x 0 ∧ M (8 + 2 * x) 4 = G x 1 ∧ M (8 + 2 * x) 5 = G x 4 ∧ M (8 + 2 * x) 6 = G x 5) ∧ (G x 0 = 0 → M (8 + 2 * x) 7 = G x 10) ∧ (G x 0 ≤ 1 → M (8 + 2 * x) 8 = G x 2 ∧ M (8 + 2 * x) 9 = G x 3) ∧ (G x 0 = 3 → M (8 + 2 * x) 10 = G x 3) ∧ (∀ p, 0 ≤ p → p < 4 → M (8 + 2 * x + 1) p = G x (6 + p))
def cl_G (M : fw_F) (mk : Int → Int) (G : fw_F) : Prop := ∀ x, ab_lv mk x → cl_x M G x
theorem cl_x_of {M M' G : fw_F} {x : Int} (h : cl_x M G x) (h0 : M' (8 + 2 * x) = M (8 + 2 * x)) (h1 : M' (8 + 2 * x + 1) = M (8 + 2 * x + 1)) : cl_x M' G x := by
  unfold cl_x at h ⊢
  rw [h0, h1]
  exact h
theorem cl_G_of {M M' G : fw_F} {mk : Int → Int} (h : cl_G M mk G) (hf : ∀ k, 8 ≤ k → k < 168 → M' k = M k) : cl_G M' mk G := fun x hx => cl_x_of (h x hx) (hf _ (by have := hx.1; omega) (by have := hx.2.1; omega)) (hf _ (by have := hx.1; omega) (by have := hx.2.1; omega))
theorem cl_x_rng {mk : Int → Int} {x : Int} (hx : ab_lv mk x) : 8 ≤ 8 + 2 * x ∧ 8 + 2 * x < 168 ∧ (8 + 2 * x) % 2 = 0 := ⟨by have := hx.1; omega, by have := hx.2.1; omega, by omega⟩
def cl_put (M : fw_F) (t into nm j : Int) : fw_F := fw_upd (fw_upd (fw_upd M 172 t into) 173 t nm) 175 t j
theorem cl_put_v (M : fw_F) (t into nm j : Int) : (∀ k, ¬ k = 172 → ¬ k = 173 → ¬ k = 175 → cl_put M t into nm j k = M k) ∧ (∀ u, cl_put M t into nm j 172 u = if u = t then into else M 172 u) ∧ (∀ u, cl_put M t into nm j 173 u = if u = t then nm else M 173 u) ∧ (∀ u, cl_put M t into nm j 175 u = if u = t then j else M 175 u) := by
  refine ⟨fun k h1 h2 h3 => ?_, fun u => ?_, fun u => ?_, fun u => ?_⟩
  · unfold cl_put
    rw [fw_updne h3, fw_updne h2, fw_updne h1]
  · unfold cl_put
    rw [fw_updne (by decide), fw_updne (by decide), fw_updeq]
  · unfold cl_put
    rw [fw_updne (by decide), fw_updeq, fw_updne (by decide)]
  · unfold cl_put
    rw [fw_updeq, fw_updne (by decide), fw_updne (by decide)]
theorem cl_T_put {M : fw_F} {S : ab_S} (h : cl_T M S) (t into nm j : Int) : cl_T (cl_put M t into nm j) (ab_put S.1 t into nm j, S.2) := by
  intro u a b
  obtain ⟨e0, e1, e2, e3, e4, e5, e6, e7⟩ := h u a b
  obtain ⟨v0, v1, v2, v3, v4, v5⟩ := ab_put_v S.1 t into nm j u
  obtain ⟨w0, w1, w2, w3⟩ := cl_put_v M t into nm j
  refine ⟨?_, ?_, ?_, ?_, ?_, ?_, ?_, ?_⟩
  · rw [w0 169 (by decide) (by decide) (by decide)]; exact e0.trans v0.symm
  · rw [w0 170 (by decide) (by decide) (by decide)]; exact e1.trans v1.symm
  · rw [w0 171 (by decide) (by decide) (by decide)]; exact e2.trans v2.symm
  · rw [w1, e3]; exact v3.symm
  · rw [w2, e4]; exact v4.symm
  · rw [w3, e5]; exact v5.symm
  · rw [w0 176 (by decide) (by decide) (by decide)]; exact e6
  · rw [w0 177 (by decide) (by decide) (by decide)]; exact e7
def cl_new (M : fw_F) (t into nm kd j : Int) : fw_F := fw_upd (fw_upd (fw_upd (cl_put M t (if ¬ M 170 into = 0 ∧ M 171 into = 2 then into else 0) nm j) 169 t 1) 170 t 1) 171 t kd
theorem cl_T_new {M : fw_F} {S : ab_S} (h : cl_T M S) (t into nm kd j : Int) (hi : 0 ≤ into ∧ into < 12) : cl_T (cl_new M t into nm kd j) (ab_new S.1 t into nm kd j, S.2) := by
  have hin := h into hi.1 hi.2
  have he : (if ¬ M 170 into = 0 ∧ M 171 into = 2 then into else 0) = (if ab_isF S.1 into then into else 0) := by
    unfold ab_isF
    rw [hin.2.1, hin.2.2.1]
  intro u a b
  obtain ⟨e0, e1, e2, e3, e4, e5, e6, e7⟩ := h u a b
  obtain ⟨v0, v1, v2, v3, v4, v5⟩ := ab_new_v S.1 t into nm kd j u
  unfold cl_new
  rw [he]
  obtain ⟨w0, w1, w2, w3⟩ := cl_put_v M t (if ab_isF S.1 into then into else 0) nm j
  refine ⟨?_, ?_, ?_, ?_, ?_, ?_, ?_, ?_⟩
  · rw [fw_updne (by decide), fw_updne (by decide), fw_updeq, w0 169 (by decide) (by decide) (by decide), e0]; exact v0.symm
  · rw [fw_updne (by decide), fw_updeq, fw_updne (by decide), w0 170 (by decide) (by decide) (by decide), e1]; exact v1.symm
  · rw [fw_updeq, fw_updne (by decide), fw_updne (by decide), w0 171 (by decide) (by decide) (by decide), e2]; exact v2.symm
  · rw [fw_updne (by decide), fw_updne (by decide), fw_updne (by decide), w1, e3]; exact v3.symm
  · rw [fw_updne (by decide), fw_updne (by decide), fw_updne (by decide), w2, e4]; exact v4.symm
  · rw [fw_updne (by decide), fw_updne (by decide), fw_updne (by decide), w3, e5]; exact v5.symm
  · rw [fw_updne (by decide), fw_updne (by decide), fw_updne (by decide), w0 176 (by decide) (by decide) (by decide)]; exact e6
  · rw [fw_updne (by decide), fw_updne (by decide), fw_updne (by decide), w0 177 (by decide) (by decide) (by decide)]; exact e7
theorem cl_new_fr (M : fw_F) (t into nm kd j k : Int) (h : k < 169 ∨ 177 < k ∨ k = 174) : cl_new M t into nm kd j k = M k := by
  unfold cl_new
  rw [fw_updne (by omega), fw_updne (by omega), fw_updne (by omega), (cl_put_v M t _ nm j).1 k (by omega) (by omega) (by omega)]
/-- lists of rows of distinct machines are short -/
theorem ab_len4 {w : List Int} (h : w.Pairwise (fun a b => ¬ a / 20 = b / 20)) (hr : ∀ y ∈ w, 0 ≤ y ∧ y < 80) : w.length ≤ 4 := by
  have := ab_ph 4 (w.map fun y => y / 20 + 1) (by
    unfold List.Nodup
    rw [List.pairwise_map]
    exact h.imp fun hab e => hab (by omega)) (by
    intro x hx
    obtain ⟨y, hy, rfl⟩ := List.mem_map.mp hx
    have := hr y hy
    omega)
  simpa using this
theorem ab_len3 {w : List Int} (h : w.Pairwise (fun a b => ¬ a / 20 = b / 20)) (hr : ∀ y ∈ w, 0 ≤ y ∧ y < 80) {o : Int} (h0 : 0 ≤ o) (h1 : o < 4) (ho : ∀ y ∈ w, ¬ y / 20 = o) : w.length ≤ 3 := by
  have := ab_ph 4 ((o + 1) :: w.map fun y => y / 20 + 1) (by
    unfold List.Nodup
    rw [List.pairwise_cons, List.pairwise_map]
    refine ⟨fun z hz e => ?_, h.imp fun hab e => hab (by omega)⟩
    obtain ⟨y, hy, rfl⟩ := List.mem_map.mp hz
    exact ho y hy (by omega)) (by
    intro x hx
    rcases List.mem_cons.mp hx with rfl | hx
    · omega
    · obtain ⟨y, hy, rfl⟩ := List.mem_map.mp hx
      have := hr y hy
      omega)
  simp at this
  omega
abbrev ab_kp (G : fw_F) (x : Int) : Int → Bool := fun y => decide (¬ y % 20 < G x (6 + y / 20))
theorem ab_kp_hold (G : fw_F) (x : Int) (w : List Int) : ab_hold G x w = w.filter (ab_kp G x) ++ [x] := rfl
theorem ls_take_succ {w : List Int} {i : Nat} {y : Int} (h : w[i]? = some y) : w.take (i + 1) = w.take i ++ [y] := by
  rw [List.take_add_one, h]
  rfl
