theorem fw_arrx {cA : ClassId} {n : Nat} {f g : Nat → Value} (h : ∀ j, j < n → f j = g j) : arrV cA n f = arrV cA n g := by
  unfold arrV
  congr 1
  apply Array.ext
  · simp
  · intro i h1 h2
    simp at h1
    simp [h i (by simpa using h1)]
theorem fw_Rsw {y : fw_M} {K0 pc K sl : Nat} {ls : List (Option fw_V)} {st : List fw_V} {R R2 M : fw_F} {L : fw_G} {Q : fw_Q} (h : ∀ k : Nat, k < K → ∀ f : Nat, f < (fw_lay (fw_mW y) k).2 → (((fw_lay (fw_mW y) k).1 < 10 ∧ fw_ftg (fw_lay (fw_mW y) k).1 f = 2) ∨ 13 ≤ (fw_lay (fw_mW y) k).1) → R k f = R2 k f) (hat : ∀ k : Nat, k < K → (fw_lay (fw_mW y) k).1 < 13 → 10 ≤ (fw_lay (fw_mW y) k).1 → fw_atg (fw_lay (fw_mW y) k).1 ≤ 1) (hft : ∀ ci f, fw_ftg ci f ≤ 2) (kk : fw_WP y K0 pc ls st K sl R2 M L Q) : fw_WP y K0 pc ls st K sl R M L Q := by
  intro l D cA p e s m args below meth c bb H locs la hZ hO hY
  refine kk l D cA p e s m args below meth c bb H locs la hZ hO ⟨hY.1, hY.2.1, fun k hk => ?_, hY.2.2.2⟩
  have hc := hY.2.2.1 k hk
  have v01 : ∀ tag b r r2 m l, tag ≤ 1 → fw_vv tag b r m l = fw_vv tag b r2 m l := fun tag b r r2 m l ht => by
    rcases (show tag = 0 ∨ tag = 1 by omega) with rfl | rfl <;> rfl
  refine ⟨fun h1 => (hc.1 h1).to fun f hf => ?_, fun h1 => ?_⟩
  · rcases (show fw_ftg (fw_lay (fw_mW y) k).1 f ≤ 1 ∨ fw_ftg (fw_lay (fw_mW y) k).1 f = 2 by have := hft (fw_lay (fw_mW y) k).1 f; omega) with q | q
    · exact v01 _ _ _ _ _ _ q
    · rw [h k hk f hf (Or.inl ⟨h1, q⟩)]
  · rw [hc.2 h1]
    congr 1
    refine fw_arrx (fun j hj => ?_)
    rcases (show (fw_lay (fw_mW y) k).1 < 13 ∨ 13 ≤ (fw_lay (fw_mW y) k).1 by omega) with q | q
    · exact v01 _ _ _ _ _ _ (hat k hk q h1)
    · rw [h k hk j hj (Or.inr q)]
theorem fw_ftg2 (ci f : Nat) : fw_ftg ci f ≤ 2 := by
  unfold fw_ftg
  split <;> (repeat' split) <;> decide
theorem fw_atg1 {t : Nat} (h : t < 13) : fw_atg t ≤ 1 := by
  unfold fw_atg
  split
  · decide
  · split
    · decide
    · omega

set_option maxRecDepth 20000 in
theorem fw_sl0 {k f : Nat} (hk : k < 203) (hf : f < (fw_lay 0 k).2) (h : ((fw_lay 0 k).1 < 10 ∧ fw_ftg (fw_lay 0 k).1 f = 2) ∨ 13 ≤ (fw_lay 0 k).1) : (k = 0 ∧ f < 7) ∨ (k = 1 ∧ f < 6) ∨ (k = 2 ∧ f < 80) ∨ (8 ≤ k ∧ k < 168 ∧ k % 2 = 0 ∧ f = 0) ∨ (k = 168 ∧ f < 10) ∨ (k = 178 ∧ f < 4) ∨ (179 ≤ k ∧ k < 197 ∧ (k - 179) % 3 = 0 ∧ f < 2) ∨ (k = 198 ∧ f < 4) := by
  have h1 : ∀ k : Fin 203, (10 ≤ (fw_lay 0 (k.val : Int)).1 ∧ (fw_lay 0 (k.val : Int)).1 < 13) ∨ (k.val = 0 ∧ fw_lay 0 (k.val : Int) = (5, 10)) ∨ (k.val = 1 ∧ fw_lay 0 (k.val : Int) = (1, 8)) ∨ (k.val = 2 ∧ fw_lay 0 (k.val : Int) = (13, 80)) ∨ (8 ≤ k.val ∧ k.val < 168 ∧ k.val % 2 = 0 ∧ fw_lay 0 (k.val : Int) = (0, 12)) ∨ (k.val = 168 ∧ fw_lay 0 (k.val : Int) = (4, 10)) ∨ (k.val = 178 ∧ fw_lay 0 (k.val : Int) = (14, 4)) ∨ (179 ≤ k.val ∧ k.val < 197 ∧ (k.val - 179) % 3 = 0 ∧ fw_lay 0 (k.val : Int) = (2, 4)) ∨ (k.val = 198 ∧ fw_lay 0 (k.val : Int) = (3, 5)) := by decide +kernel
  have w5 : ∀ f : Fin 10, fw_ftg 5 f.val = 2 → f.val < 7 := by decide +kernel
  have w1 : ∀ f : Fin 8, fw_ftg 1 f.val = 2 → f.val < 6 := by decide +kernel
  have w0 : ∀ f : Fin 12, fw_ftg 0 f.val = 2 → f.val = 0 := by decide +kernel
  have w2 : ∀ f : Fin 4, fw_ftg 2 f.val = 2 → f.val < 2 := by decide +kernel
  have w3 : ∀ f : Fin 5, fw_ftg 3 f.val = 2 → f.val < 4 := by decide +kernel
  rcases h1 ⟨k, hk⟩ with q | ⟨q, e⟩ | ⟨q, e⟩ | ⟨q, e⟩ | ⟨q, q1, q2, e⟩ | ⟨q, e⟩ | ⟨q, e⟩ | ⟨q, q1, q2, e⟩ | ⟨q, e⟩
  · simp only at q
    omega
  all_goals
    simp only at e q
    rw [e] at hf h
    simp only at hf h
  · have := w5 ⟨f, hf⟩; simp only at this; rcases h with ⟨-, h⟩ | h
    · have := this h; omega
    · omega
  · have := w1 ⟨f, hf⟩; simp only at this; rcases h with ⟨-, h⟩ | h
    · have := this h; omega
    · omega
  · omega
  · have := w0 ⟨f, hf⟩; simp only at this; rcases h with ⟨-, h⟩ | h
    · have := this h; simp only at q1 q2; omega
    · omega
  · omega
  · omega
  · have := w2 ⟨f, hf⟩; simp only at this; rcases h with ⟨-, h⟩ | h
    · have := this h; simp only at q1 q2; omega
    · omega
  · have := w3 ⟨f, hf⟩; simp only at this; rcases h with ⟨-, h⟩ | h
    · have := this h; omega
    · omega
