theorem fw_arrx {cA : ClassId} {n : Nat} {f g : Nat → Value} (h : ∀ j, j < n → f j = g j) : arrV cA n f = arrV cA n g := by
  unfold arrV
  congr 1
  apply Array.ext
  · simp
  · intro i h1 h2
    simp at h1
    simp [h i (by simpa using h1)]
theorem fw_Rsw {y : fw_M} {K0 pc K sl : Nat} {ls : List (Option fw_V)} {st : List fw_V} {R R2 M : fw_F} {L : fw_G} {Q : fw_Q} (h : ∀ k : Nat, k < K → ∀ f : Nat, f < (fw_lay (fw_mW y) k).2 → (((fw_lay (fw_mW y) k).1 < 10 ∧ fw_ftg (fw_lay (fw_mW y) k).1 f = 2) ∨ 13 ≤ (fw_lay (fw_mW y) k).1) → R k f = R2 k f) (hat : ∀ k : Nat, k < K → (fw_lay (fw_mW y) k).1 < 13 → 10 ≤ (fw_lay (fw_mW y) k).1 → fw_atg (fw_lay (fw_mW y) k).1 ≤ 1) (hft : ∀ ci f, fw_ftg ci f ≤ 2) (kk : fw_WP y K0 pc ls st K sl R2 M L Q) : fw_WP y K0 pc ls st K sl R M L Q := by
  intro l D cA p e s m args below meth c bb H locs la hZ hO hY
  refine kk l D cA p e s m args below meth c bb H locs la hZ hO ⟨hY.1, hY.2.1, fun k hk => ?_, hY.2.2.2⟩
  have hc := hY.2.2.1 k hk
  have v01 : ∀ tag b r r2 m l, tag ≤ 1 → fw_vv tag b r m l = fw_vv tag b r2 m l := fun tag b r r2 m l ht => by
    rcases (show tag = 0 ∨ tag = 1 by omega) with rfl | rfl <;> rfl
  refine ⟨fun h1 => (hc.1 h1).to fun f hf => ?_, fun h1 => ?_⟩
  · rcases (show fw_ftg (fw_lay (fw_mW y) k).1 f ≤ 1 ∨ fw_ftg (fw_lay (fw_mW y) k).1 f = 2 by have := hft (fw_lay (fw_mW y) k).1 f; omega) with q | q
    · exact v01 _ _ _ _ _ _ q
    · rw [h k hk f hf (Or.inl ⟨h1, q⟩)]
  · rw [hc.2 h1]
    congr 1
    refine fw_arrx (fun j hj => ?_)
    rcases (show (fw_lay (fw_mW y) k).1 < 13 ∨ 13 ≤ (fw_lay (fw_mW y) k).1 by omega) with q | q
    · exact v01 _ _ _ _ _ _ (hat k hk q h1)
    · rw [h k hk j hj (Or.inr q)]
theorem fw_ftg2 (ci f : Nat) : fw_ftg ci f ≤ 2 := by
  unfold fw_ftg
  split <;> (repeat' split) <;> decide
theorem fw_atg1 {t : Nat} (h : t < 13) : fw_atg t ≤ 1 := by
  unfold fw_atg
  split
  · decide
  · split
    · decide
    · omega
