theorem fw_oc {v : fw_V} {st : List fw_V} (h : fw_okV v) (hs : ∀ v ∈ st, fw_okV v) : ∀ x ∈ v :: st, fw_okV x := fun x hx => by
  rcases List.mem_cons.mp hx with rfl | hx
  · exact h
  · exact hs x hx
theorem fw_ot {v : fw_V} {st : List fw_V} (h : ∀ x ∈ v :: st, fw_okV x) : ∀ x ∈ st, fw_okV x := fun x hx => h x (List.mem_cons_of_mem _ hx)
theorem fw_oh {v : fw_V} {st : List fw_V} (h : ∀ x ∈ v :: st, fw_okV x) : fw_okV v := h v List.mem_cons_self
theorem fw_ol {ls : List (Option fw_V)} {i : Nat} {v : fw_V} (h : ∀ v, some v ∈ ls → fw_okV v) (hi : ls[i]? = some (some v)) : fw_okV v := h v (List.mem_of_getElem? hi)
theorem fw_okl {x : Int64} : fw_okV (fw_l x) := True.intro
theorem fw_okr {x : Int} : fw_okV (fw_r x) := True.intro
def fw_and (a b : Int) : Int := (Int32.ofInt a &&& Int32.ofInt b).toInt
def fw_or (a b : Int) : Int := (Int32.ofInt a ||| Int32.ofInt b).toInt
def fw_shl (a b : Int) : Int := (Int32.ofInt a <<< (Int32.ofInt b &&& 31)).toInt
theorem fw_div32 {a b : Int} (ha : fw_ok a) (hb : fw_ok b) (h0 : 0 ≤ a) (h1 : 0 < b) : Int32.ofInt a / Int32.ofInt b = Int32.ofInt (a / b) := by
  apply Int32.toInt_inj.mp
  have hq : fw_ok (a / b) := ⟨by have := Int.ediv_nonneg h0 (Int.le_of_lt h1); omega, by have := Int.ediv_le_self b h0; have := ha.2; omega⟩
  rw [Int32.toInt_div_of_ne_right, fw_toInt ha, fw_toInt hb, fw_toInt hq, Int.tdiv_eq_ediv_of_nonneg h0]
  intro h
  have h2 := congrArg Int32.toInt h
  rw [fw_toInt hb] at h2
  have h3 : (-1 : Int32).toInt = -1 := by decide
  omega
theorem fw_ne0 {b : Int} (hb : fw_ok b) (h1 : 0 < b) : ¬ Int32.ofInt b = 0 := by
  rw [fw_zero, fw_eq hb fw_ok0]
  omega
/-- fewer locals -/
theorem fw_drop {y : fw_M} {K0 pc K sl : Nat} {ls ls2 : List (Option fw_V)} {st : List fw_V} {R M : fw_F} {L : fw_G} {Q : fw_Q} (hs : ∀ (i : Nat) (v : fw_V), ls2[i]? = some (some v) → ls[i]? = some (some v)) (k : fw_WP y K0 pc ls2 st K sl R M L Q) : fw_WP y K0 pc ls st K sl R M L Q := by
  intro l D cA p e s m args below meth c bb H locs la hZ hO hY
  refine k l D cA p e s m args below meth c bb H locs la hZ hO ⟨fun v hv => ?_, hY.2.1, hY.2.2.1, hY.2.2.2.1, hY.2.2.2.2.1, fw_has_sub hY.2.2.2.2.2 fun q hq => ?_⟩
  · obtain ⟨i, hi⟩ := List.getElem?_of_mem hv
    exact hY.1 v (List.mem_of_getElem? (hs i v hi))
  · obtain ⟨i, x⟩ := q
    obtain ⟨j, v, h1, h2, h3⟩ := fw_lc_mem.mp hq
    exact fw_lc_mem.mpr ⟨j, v, h1, hs j v h2, h3⟩
theorem fw_take (n : Nat) {y : fw_M} {K0 pc K sl : Nat} {ls : List (Option fw_V)} {st : List fw_V} {R M : fw_F} {L : fw_G} {Q : fw_Q} (k : fw_WP y K0 pc (ls.take n) st K sl R M L Q) : fw_WP y K0 pc ls st K sl R M L Q := fw_drop (fun i v h => by
  rw [List.getElem?_take] at h
  split at h
  · exact h
  · cases h) k
/-- what is known of all numbers -/
theorem fw_okM {y : fw_M} {K0 pc K sl : Nat} {ls : List (Option fw_V)} {st : List fw_V} {R M : fw_F} {L : fw_G} {Q : fw_Q} (k : (∀ k j, fw_ok (M k j)) → fw_WP y K0 pc ls st K sl R M L Q) : fw_WP y K0 pc ls st K sl R M L Q := by
  intro l D cA p e s m args below meth c bb H locs la hZ hO hY
  exact k hY.2.1 l D cA p e s m args below meth c bb H locs la hZ hO hY
theorem fw_okS {y : fw_M} {K0 pc K sl : Nat} {ls : List (Option fw_V)} {st : List fw_V} {R M : fw_F} {L : fw_G} {Q : fw_Q} {a : Int} (k : fw_ok a → fw_WP y K0 pc ls (fw_i a :: st) K sl R M L Q) : fw_WP y K0 pc ls (fw_i a :: st) K sl R M L Q := by
  intro l D cA p e s m args below meth c bb H locs la hZ hO hY
  exact k (fw_oh hO) l D cA p e s m args below meth c bb H locs la hZ hO hY
theorem fw_iconst {y : fw_M} {K0 pc K sl : Nat} {ls : List (Option fw_V)} {st : List fw_V} {R M : fw_F} {L : fw_G} {Q : fw_Q} {n : Int} (hd : decode (fw_mC y) pc = .ok (.iconst n, 1)) (hn : fw_ok n) (k : fw_WP y K0 (pc + 1) ls (fw_i n :: st) K sl R M L Q) : fw_WP y K0 (pc) ls (st) K sl R M L Q := by
  intro l D cA p e s m args below meth c bb H locs la hZ hO hY
  exact lv_iconst hZ.1 hZ.2.1 hd rfl (k l D cA p e s m args below meth c bb H locs la hZ (fw_oc hn hO) hY)
theorem fw_bipush {y : fw_M} {K0 pc K sl : Nat} {ls : List (Option fw_V)} {st : List fw_V} {R M : fw_F} {L : fw_G} {Q : fw_Q} {n : Int} (hd : decode (fw_mC y) pc = .ok (.bipush n, 2)) (hn : fw_ok n) (hv : (Int8.ofInt n).toInt32 = Int32.ofInt n) (k : fw_WP y K0 (pc + 2) ls (fw_i n :: st) K sl R M L Q) : fw_WP y K0 (pc) ls (st) K sl R M L Q := by
  intro l D cA p e s m args below meth c bb H locs la hZ hO hY
  exact lv_bipush hZ.1 hZ.2.1 hd hv (k l D cA p e s m args below meth c bb H locs la hZ (fw_oc hn hO) hY)
theorem fw_sipush {y : fw_M} {K0 pc K sl : Nat} {ls : List (Option fw_V)} {st : List fw_V} {R M : fw_F} {L : fw_G} {Q : fw_Q} {n : Int} (hd : decode (fw_mC y) pc = .ok (.sipush n, 3)) (hn : fw_ok n) (hv : (Int16.ofInt n).toInt32 = Int32.ofInt n) (k : fw_WP y K0 (pc + 3) ls (fw_i n :: st) K sl R M L Q) : fw_WP y K0 (pc) ls (st) K sl R M L Q := by
  intro l D cA p e s m args below meth c bb H locs la hZ hO hY
  exact lv_sipush hZ.1 hZ.2.1 hd hv (k l D cA p e s m args below meth c bb H locs la hZ (fw_oc hn hO) hY)
theorem fw_ldc {y : fw_M} {K0 pc K sl : Nat} {ls : List (Option fw_V)} {st : List fw_V} {R M : fw_F} {L : fw_G} {Q : fw_Q} {idx : Nat} {v : Int} {v32 : Int32} (hd : decode (fw_mC y) pc = .ok (.ldc idx, 2)) (hw : Cond.constant (fw_cn (fw_mO y)) idx v32 ∈ fw_tbl) (hv : v32 = Int32.ofInt v) (hn : fw_ok v) (k : fw_WP y K0 (pc + 2) ls (fw_i v :: st) K sl R M L Q) : fw_WP y K0 (pc) ls (st) K sl R M L Q := by
  intro l D cA p e s m args below meth c bb H locs la hZ hO hY
  exact lv_ldc hZ.1 hZ.2.1 hZ.2.2.2.2.1 (by subst hv; exact hZ.2.2.2.2.2.1 _ hw) hd (k l D cA p e s m args below meth c bb H locs la hZ (fw_oc hn hO) hY)
theorem fw_lconst {y : fw_M} {K0 pc K sl : Nat} {ls : List (Option fw_V)} {st : List fw_V} {R M : fw_F} {L : fw_G} {Q : fw_Q} {n : Fin 2} {v : Int64} (hd : decode (fw_mC y) pc = .ok (.lconst n, 1)) (hv : Int64.ofNat (n : Nat) = v) (k : fw_WP y K0 (pc + 1) ls (fw_l v :: st) K sl R M L Q) : fw_WP y K0 (pc) ls (st) K sl R M L Q := by
  intro l D cA p e s m args below meth c bb H locs la hZ hO hY
  exact lv_lconst hZ.1 hZ.2.1 hd hv (k l D cA p e s m args below meth c bb H locs la hZ (fw_oc fw_okl hO) hY)
theorem fw_ldc2 {y : fw_M} {K0 pc K sl : Nat} {ls : List (Option fw_V)} {st : List fw_V} {R M : fw_F} {L : fw_G} {Q : fw_Q} {idx : Nat} {v : Int64} (hd : decode (fw_mC y) pc = .ok (.ldc2_w idx, 3)) (hw : Cond.constantLong (fw_cn (fw_mO y)) idx v ∈ fw_tbl) (k : fw_WP y K0 (pc + 3) ls (fw_l v :: st) K sl R M L Q) : fw_WP y K0 (pc) ls (st) K sl R M L Q := by
  intro l D cA p e s m args below meth c bb H locs la hZ hO hY
  exact lv_ldc2 hZ.1 hZ.2.1 hZ.2.2.2.2.1 (hZ.2.2.2.2.2.1 _ hw) hd (k l D cA p e s m args below meth c bb H locs la hZ (fw_oc fw_okl hO) hY)
theorem fw_iload_n {y : fw_M} {K0 pc K sl : Nat} {ls : List (Option fw_V)} {st : List fw_V} {R M : fw_F} {L : fw_G} {Q : fw_Q} {n : Fin 4} {i : Nat} {x : Int} (hd : decode (fw_mC y) pc = .ok (.iload_n n, 1)) (hi : (n : Nat) = i) (hl : ls[i]? = some (some (fw_i x))) (k : fw_WP y K0 (pc + 1) ls (fw_i x :: st) K sl R M L Q) : fw_WP y K0 (pc) ls (st) K sl R M L Q := by
  intro l D cA p e s m args below meth c bb H locs la hZ hO hY
  exact lv_iload_n hZ.1 hZ.2.1 hd hi (fw_ld hY.2.2.2.2.2 hl) (k l D cA p e s m args below meth c bb H locs la hZ (fw_oc (fw_ol hY.1 hl) hO) hY)
theorem fw_iload {y : fw_M} {K0 pc K sl : Nat} {ls : List (Option fw_V)} {st : List fw_V} {R M : fw_F} {L : fw_G} {Q : fw_Q} {i : Nat} {x : Int} (hd : decode (fw_mC y) pc = .ok (.iload i, 2)) (hl : ls[i]? = some (some (fw_i x))) (k : fw_WP y K0 (pc + 2) ls (fw_i x :: st) K sl R M L Q) : fw_WP y K0 (pc) ls (st) K sl R M L Q := by
  intro l D cA p e s m args below meth c bb H locs la hZ hO hY
  exact lv_iload hZ.1 hZ.2.1 hd (fw_ld hY.2.2.2.2.2 hl) (k l D cA p e s m args below meth c bb H locs la hZ (fw_oc (fw_ol hY.1 hl) hO) hY)
theorem fw_lload_n {y : fw_M} {K0 pc K sl : Nat} {ls : List (Option fw_V)} {st : List fw_V} {R M : fw_F} {L : fw_G} {Q : fw_Q} {n : Fin 4} {i : Nat} {x : Int64} (hd : decode (fw_mC y) pc = .ok (.lload_n n, 1)) (hi : (n : Nat) = i) (hl : ls[i]? = some (some (fw_l x))) (k : fw_WP y K0 (pc + 1) ls (fw_l x :: st) K sl R M L Q) : fw_WP y K0 (pc) ls (st) K sl R M L Q := by
  intro l D cA p e s m args below meth c bb H locs la hZ hO hY
  exact lv_lload_n hZ.1 hZ.2.1 hd hi (fw_ld hY.2.2.2.2.2 hl) (k l D cA p e s m args below meth c bb H locs la hZ (fw_oc (fw_ol hY.1 hl) hO) hY)
theorem fw_lload {y : fw_M} {K0 pc K sl : Nat} {ls : List (Option fw_V)} {st : List fw_V} {R M : fw_F} {L : fw_G} {Q : fw_Q} {i : Nat} {x : Int64} (hd : decode (fw_mC y) pc = .ok (.lload i, 2)) (hl : ls[i]? = some (some (fw_l x))) (k : fw_WP y K0 (pc + 2) ls (fw_l x :: st) K sl R M L Q) : fw_WP y K0 (pc) ls (st) K sl R M L Q := by
  intro l D cA p e s m args below meth c bb H locs la hZ hO hY
  exact lv_lload hZ.1 hZ.2.1 hd (fw_ld hY.2.2.2.2.2 hl) (k l D cA p e s m args below meth c bb H locs la hZ (fw_oc (fw_ol hY.1 hl) hO) hY)
theorem fw_aload_n {y : fw_M} {K0 pc K sl : Nat} {ls : List (Option fw_V)} {st : List fw_V} {R M : fw_F} {L : fw_G} {Q : fw_Q} {n : Fin 4} {i : Nat} {x : Int} (hd : decode (fw_mC y) pc = .ok (.aload_n n, 1)) (hi : (n : Nat) = i) (hl : ls[i]? = some (some (fw_r x))) (k : fw_WP y K0 (pc + 1) ls (fw_r x :: st) K sl R M L Q) : fw_WP y K0 (pc) ls (st) K sl R M L Q := by
  intro l D cA p e s m args below meth c bb H locs la hZ hO hY
  exact lv_aload_n hZ.1 hZ.2.1 hd hi (fw_ld hY.2.2.2.2.2 hl) (k l D cA p e s m args below meth c bb H locs la hZ (fw_oc (fw_ol hY.1 hl) hO) hY)
theorem fw_aload {y : fw_M} {K0 pc K sl : Nat} {ls : List (Option fw_V)} {st : List fw_V} {R M : fw_F} {L : fw_G} {Q : fw_Q} {i : Nat} {x : Int} (hd : decode (fw_mC y) pc = .ok (.aload i, 2)) (hl : ls[i]? = some (some (fw_r x))) (k : fw_WP y K0 (pc + 2) ls (fw_r x :: st) K sl R M L Q) : fw_WP y K0 (pc) ls (st) K sl R M L Q := by
  intro l D cA p e s m args below meth c bb H locs la hZ hO hY
  exact lv_aload hZ.1 hZ.2.1 hd (fw_ld hY.2.2.2.2.2 hl) (k l D cA p e s m args below meth c bb H locs la hZ (fw_oc (fw_ol hY.1 hl) hO) hY)
theorem fw_h1 {b nL i : Nat} {ls : List (Option fw_V)} {la : Array Slot} {v : fw_V} (h : lv_has la nL ((i, fw_cv b v) :: (fw_lc b 0 ls).filter (fun q => !(q.1 == i) && !(q.1 + 1 == i && q.2.category == 2)))) : lv_has la nL (fw_lc b 0 (fw_st1 ls i v)) := by
  refine fw_has_sub h fun q hq => ?_
  obtain ⟨j, x⟩ := q
  obtain ⟨j', u, h1, h2, h3⟩ := fw_lc_mem.mp hq
  have hj : j = j' := by omega
  subst hj
  rcases fw_st1_at ls i v j u h2 with ⟨rfl, rfl⟩ | ⟨a1, a2, a3⟩
  · rw [h3]; exact List.mem_cons_self
  · refine List.mem_cons_of_mem _ (List.mem_filter.mpr ⟨fw_lc_mem.mpr ⟨j, u, by omega, a2, h3⟩, ?_⟩)
    subst h3
    simp only [fw_cv_cat]
    simp only [Bool.and_eq_true, Bool.not_eq_true', beq_eq_false_iff_ne, ne_eq, Bool.and_eq_false_iff]
    refine ⟨a1, ?_⟩
    by_cases hji : j + 1 = i
    · exact Or.inr fun q => a3 ⟨hji, q⟩
    · exact Or.inl hji
theorem fw_h2 {b nL i : Nat} {ls : List (Option fw_V)} {la : Array Slot} {v : fw_V} (h : lv_has la nL ((i, fw_cv b v) :: (fw_lc b 0 ls).filter (fun q => !(q.1 == i) && (!(q.1 == i + 1) && !(q.1 + 1 == i && q.2.category == 2))))) : lv_has la nL (fw_lc b 0 (fw_st2 ls i v)) := by
  refine fw_has_sub h fun q hq => ?_
  obtain ⟨j, x⟩ := q
  obtain ⟨j', u, h1, h2, h3⟩ := fw_lc_mem.mp hq
  have hj : j = j' := by omega
  subst hj
  obtain ⟨g1, g2⟩ := fw_no_at _ _ _ _ h2
  rcases fw_st1_at ls i v j u g2 with ⟨rfl, rfl⟩ | ⟨a1, a2, a3⟩
  · rw [h3]; exact List.mem_cons_self
  · refine List.mem_cons_of_mem _ (List.mem_filter.mpr ⟨fw_lc_mem.mpr ⟨j, u, by omega, a2, h3⟩, ?_⟩)
    subst h3
    simp only [fw_cv_cat]
    simp only [Bool.and_eq_true, Bool.not_eq_true', beq_eq_false_iff_ne, ne_eq, Bool.and_eq_false_iff]
    refine ⟨a1, g1, ?_⟩
    by_cases hji : j + 1 = i
    · exact Or.inr fun q => a3 ⟨hji, q⟩
    · exact Or.inl hji
theorem fw_ok1 {ls : List (Option fw_V)} {i : Nat} {v : fw_V} (h : ∀ v, some v ∈ ls → fw_okV v) (hv : fw_okV v) : ∀ u, some u ∈ fw_st1 ls i v → fw_okV u := by
  intro u hu
  obtain ⟨j, hj⟩ := List.getElem?_of_mem hu
  rcases fw_st1_at ls i v j u hj with ⟨_, rfl⟩ | ⟨_, a2, _⟩
  · exact hv
  · exact h u (List.mem_of_getElem? a2)
theorem fw_ok2 {ls : List (Option fw_V)} {i : Nat} {v : fw_V} (h : ∀ v, some v ∈ ls → fw_okV v) (hv : fw_okV v) : ∀ u, some u ∈ fw_st2 ls i v → fw_okV u := by
  intro u hu
  obtain ⟨j, hj⟩ := List.getElem?_of_mem hu
  exact fw_ok1 h hv u (List.mem_of_getElem? (fw_no_at _ _ _ _ hj).2)
theorem fw_istore_n {y : fw_M} {K0 pc K sl : Nat} {ls : List (Option fw_V)} {st : List fw_V} {R M : fw_F} {L : fw_G} {Q : fw_Q} {n : Fin 4} {i : Nat} {x : Int} {ls2 : List (Option fw_V)} (hd : decode (fw_mC y) pc = .ok (.istore_n n, 1)) (hi : (n : Nat) = i) (hn : i < fw_mL y) (hl : fw_st1 ls i (fw_i x) = ls2) (k : fw_WP y K0 (pc + 1) ls2 st K sl R M L Q) : fw_WP y K0 pc ls (fw_i x :: st) K sl R M L Q := by
  subst hl
  intro l D cA p e s m args below meth c bb H locs la hZ hO hY
  refine lv_istore_n hZ.1 hZ.2.1 hd hi hY.2.2.2.2.2 hn rfl fun la2 hla => ?_
  exact k l D cA p e s m args below meth c bb H locs la2 hZ (fw_ot hO) ⟨fw_ok1 hY.1 (fw_oh hO), hY.2.1, hY.2.2.1, hY.2.2.2.1, hY.2.2.2.2.1, fw_h1 hla⟩
theorem fw_istore {y : fw_M} {K0 pc K sl : Nat} {ls : List (Option fw_V)} {st : List fw_V} {R M : fw_F} {L : fw_G} {Q : fw_Q} {i : Nat} {x : Int} {ls2 : List (Option fw_V)} (hd : decode (fw_mC y) pc = .ok (.istore i, 2)) (hn : i < fw_mL y) (hl : fw_st1 ls i (fw_i x) = ls2) (k : fw_WP y K0 (pc + 2) ls2 st K sl R M L Q) : fw_WP y K0 pc ls (fw_i x :: st) K sl R M L Q := by
  subst hl
  intro l D cA p e s m args below meth c bb H locs la hZ hO hY
  refine lv_istore hZ.1 hZ.2.1 hd hY.2.2.2.2.2 hn rfl fun la2 hla => ?_
  exact k l D cA p e s m args below meth c bb H locs la2 hZ (fw_ot hO) ⟨fw_ok1 hY.1 (fw_oh hO), hY.2.1, hY.2.2.1, hY.2.2.2.1, hY.2.2.2.2.1, fw_h1 hla⟩
theorem fw_lstore_n {y : fw_M} {K0 pc K sl : Nat} {ls : List (Option fw_V)} {st : List fw_V} {R M : fw_F} {L : fw_G} {Q : fw_Q} {n : Fin 4} {i : Nat} {x : Int64} {ls2 : List (Option fw_V)} (hd : decode (fw_mC y) pc = .ok (.lstore_n n, 1)) (hi : (n : Nat) = i) (hn : i + 1 < fw_mL y) (hl : fw_st2 ls i (fw_l x) = ls2) (k : fw_WP y K0 (pc + 1) ls2 st K sl R M L Q) : fw_WP y K0 pc ls (fw_l x :: st) K sl R M L Q := by
  subst hl
  intro l D cA p e s m args below meth c bb H locs la hZ hO hY
  refine lv_lstore_n hZ.1 hZ.2.1 hd hi hY.2.2.2.2.2 hn rfl fun la2 hla => ?_
  exact k l D cA p e s m args below meth c bb H locs la2 hZ (fw_ot hO) ⟨fw_ok2 hY.1 (fw_oh hO), hY.2.1, hY.2.2.1, hY.2.2.2.1, hY.2.2.2.2.1, fw_h2 hla⟩
theorem fw_lstore {y : fw_M} {K0 pc K sl : Nat} {ls : List (Option fw_V)} {st : List fw_V} {R M : fw_F} {L : fw_G} {Q : fw_Q} {i : Nat} {x : Int64} {ls2 : List (Option fw_V)} (hd : decode (fw_mC y) pc = .ok (.lstore i, 2)) (hn : i + 1 < fw_mL y) (hl : fw_st2 ls i (fw_l x) = ls2) (k : fw_WP y K0 (pc + 2) ls2 st K sl R M L Q) : fw_WP y K0 pc ls (fw_l x :: st) K sl R M L Q := by
  subst hl
  intro l D cA p e s m args below meth c bb H locs la hZ hO hY
  refine lv_lstore hZ.1 hZ.2.1 hd hY.2.2.2.2.2 hn rfl fun la2 hla => ?_
  exact k l D cA p e s m args below meth c bb H locs la2 hZ (fw_ot hO) ⟨fw_ok2 hY.1 (fw_oh hO), hY.2.1, hY.2.2.1, hY.2.2.2.1, hY.2.2.2.2.1, fw_h2 hla⟩
theorem fw_astore_n {y : fw_M} {K0 pc K sl : Nat} {ls : List (Option fw_V)} {st : List fw_V} {R M : fw_F} {L : fw_G} {Q : fw_Q} {n : Fin 4} {i : Nat} {x : Int} {ls2 : List (Option fw_V)} (hd : decode (fw_mC y) pc = .ok (.astore_n n, 1)) (hi : (n : Nat) = i) (hn : i < fw_mL y) (hl : fw_st1 ls i (fw_r x) = ls2) (k : fw_WP y K0 (pc + 1) ls2 st K sl R M L Q) : fw_WP y K0 pc ls (fw_r x :: st) K sl R M L Q := by
  subst hl
  intro l D cA p e s m args below meth c bb H locs la hZ hO hY
  refine lv_astore_n hZ.1 hZ.2.1 hd hi hY.2.2.2.2.2 hn rfl fun la2 hla => ?_
  exact k l D cA p e s m args below meth c bb H locs la2 hZ (fw_ot hO) ⟨fw_ok1 hY.1 (fw_oh hO), hY.2.1, hY.2.2.1, hY.2.2.2.1, hY.2.2.2.2.1, fw_h1 hla⟩
theorem fw_astore {y : fw_M} {K0 pc K sl : Nat} {ls : List (Option fw_V)} {st : List fw_V} {R M : fw_F} {L : fw_G} {Q : fw_Q} {i : Nat} {x : Int} {ls2 : List (Option fw_V)} (hd : decode (fw_mC y) pc = .ok (.astore i, 2)) (hn : i < fw_mL y) (hl : fw_st1 ls i (fw_r x) = ls2) (k : fw_WP y K0 (pc + 2) ls2 st K sl R M L Q) : fw_WP y K0 pc ls (fw_r x :: st) K sl R M L Q := by
  subst hl
  intro l D cA p e s m args below meth c bb H locs la hZ hO hY
  refine lv_astore hZ.1 hZ.2.1 hd hY.2.2.2.2.2 hn rfl fun la2 hla => ?_
  exact k l D cA p e s m args below meth c bb H locs la2 hZ (fw_ot hO) ⟨fw_ok1 hY.1 (fw_oh hO), hY.2.1, hY.2.2.1, hY.2.2.2.1, hY.2.2.2.2.1, fw_h1 hla⟩
theorem fw_iinc {y : fw_M} {K0 pc K sl : Nat} {ls : List (Option fw_V)} {st : List fw_V} {R M : fw_F} {L : fw_G} {Q : fw_Q} {i : Nat} {n x : Int} {ls2 : List (Option fw_V)} (hd : decode (fw_mC y) pc = .ok (.iinc i n, 3)) (hx : ls[i]? = some (some (fw_i x))) (hr : fw_ok (x + n)) (hn : i < fw_mL y) (hl : fw_st1 ls i (fw_i (x + n)) = ls2) (k : fw_WP y K0 (pc + 3) ls2 st K sl R M L Q) : fw_WP y K0 pc ls st K sl R M L Q := by
  subst hl
  intro l D cA p e s m args below meth c bb H locs la hZ hO hY
  have hm : (i, Value.int (Int32.ofInt x)) ∈ fw_lc bb 0 ls := fw_lc_mem.mpr ⟨i, fw_i x, by omega, hx, rfl⟩
  obtain ⟨kq, hkq⟩ := List.getElem?_of_mem hm
  refine lv_iinc (k := kq) hZ.1 hZ.2.1 hd hY.2.2.2.2.2 hkq (Int32.ofInt_add x n).symm hn rfl fun la2 hla => ?_
  exact k l D cA p e s m args below meth c bb H locs la2 hZ hO ⟨fw_ok1 hY.1 hr, hY.2.1, hY.2.2.1, hY.2.2.2.1, hY.2.2.2.2.1, fw_h1 (v := fw_i (x + n)) hla⟩
theorem fw_iadd {y : fw_M} {K0 pc K sl : Nat} {ls : List (Option fw_V)} {st : List fw_V} {R M : fw_F} {L : fw_G} {Q : fw_Q} {a b : Int} (hd : decode (fw_mC y) pc = .ok (.iadd, 1)) (hr : fw_ok (a + b)) (k : fw_WP y K0 (pc + 1) ls (fw_i (a + b) :: st) K sl R M L Q) : fw_WP y K0 (pc) ls (fw_i b :: fw_i a :: st) K sl R M L Q := by
  intro l D cA p e s m args below meth c bb H locs la hZ hO hY
  have hk := k l D cA p e s m args below meth c bb H locs la hZ (fw_oc hr (fw_ot (fw_ot hO))) hY
  exact lv_iadd hZ.1 hZ.2.1 hd (by rw [← Int32.ofInt_add]; exact hk)
theorem fw_isub {y : fw_M} {K0 pc K sl : Nat} {ls : List (Option fw_V)} {st : List fw_V} {R M : fw_F} {L : fw_G} {Q : fw_Q} {a b : Int} (hd : decode (fw_mC y) pc = .ok (.isub, 1)) (hr : fw_ok (a - b)) (k : fw_WP y K0 (pc + 1) ls (fw_i (a - b) :: st) K sl R M L Q) : fw_WP y K0 (pc) ls (fw_i b :: fw_i a :: st) K sl R M L Q := by
  intro l D cA p e s m args below meth c bb H locs la hZ hO hY
  have hk := k l D cA p e s m args below meth c bb H locs la hZ (fw_oc hr (fw_ot (fw_ot hO))) hY
  exact lv_isub hZ.1 hZ.2.1 hd (by rw [← Int32.ofInt_sub]; exact hk)
theorem fw_imul {y : fw_M} {K0 pc K sl : Nat} {ls : List (Option fw_V)} {st : List fw_V} {R M : fw_F} {L : fw_G} {Q : fw_Q} {a b : Int} (hd : decode (fw_mC y) pc = .ok (.imul, 1)) (hr : fw_ok (a * b)) (k : fw_WP y K0 (pc + 1) ls (fw_i (a * b) :: st) K sl R M L Q) : fw_WP y K0 (pc) ls (fw_i b :: fw_i a :: st) K sl R M L Q := by
  intro l D cA p e s m args below meth c bb H locs la hZ hO hY
  have hk := k l D cA p e s m args below meth c bb H locs la hZ (fw_oc hr (fw_ot (fw_ot hO))) hY
  exact lv_imul hZ.1 hZ.2.1 hd (by rw [← Int32.ofInt_mul]; exact hk)
theorem fw_ineg {y : fw_M} {K0 pc K sl : Nat} {ls : List (Option fw_V)} {st : List fw_V} {R M : fw_F} {L : fw_G} {Q : fw_Q} {a : Int} (hd : decode (fw_mC y) pc = .ok (.ineg, 1)) (hr : fw_ok (-a)) (k : fw_WP y K0 (pc + 1) ls (fw_i (-a) :: st) K sl R M L Q) : fw_WP y K0 (pc) ls (fw_i a :: st) K sl R M L Q := by
  intro l D cA p e s m args below meth c bb H locs la hZ hO hY
  have hk := k l D cA p e s m args below meth c bb H locs la hZ (fw_oc hr (fw_ot hO)) hY
  exact lv_ineg hZ.1 hZ.2.1 hd (by rw [← Int32.ofInt_neg]; exact hk)
theorem fw_idiv {y : fw_M} {K0 pc K sl : Nat} {ls : List (Option fw_V)} {st : List fw_V} {R M : fw_F} {L : fw_G} {Q : fw_Q} {a b : Int} (hd : decode (fw_mC y) pc = .ok (.idiv, 1)) (h0 : 0 ≤ a) (h1 : 0 < b) (k : fw_WP y K0 (pc + 1) ls (fw_i (a / b) :: st) K sl R M L Q) : fw_WP y K0 (pc) ls (fw_i b :: fw_i a :: st) K sl R M L Q := by
  intro l D cA p e s m args below meth c bb H locs la hZ hO hY
  have hb : fw_ok b := fw_oh hO
  have ha : fw_ok a := fw_oh (fw_ot hO)
  have hq : fw_ok (a / b) := ⟨by have := Int.ediv_nonneg h0 (Int.le_of_lt h1); omega, by have := Int.ediv_le_self b h0; have := ha.2; omega⟩
  have hk := k l D cA p e s m args below meth c bb H locs la hZ (fw_oc hq (fw_ot (fw_ot hO))) hY
  exact lv_idiv hZ.1 hZ.2.1 hd (fw_ne0 hb h1) (by rw [fw_div32 ha hb h0 h1]; exact hk)
theorem fw_irem {y : fw_M} {K0 pc K sl : Nat} {ls : List (Option fw_V)} {st : List fw_V} {R M : fw_F} {L : fw_G} {Q : fw_Q} {a b : Int} (hd : decode (fw_mC y) pc = .ok (.irem, 1)) (h0 : 0 ≤ a) (h1 : 0 < b) (k : fw_WP y K0 (pc + 1) ls (fw_i (a % b) :: st) K sl R M L Q) : fw_WP y K0 (pc) ls (fw_i b :: fw_i a :: st) K sl R M L Q := by
  intro l D cA p e s m args below meth c bb H locs la hZ hO hY
  have hb : fw_ok b := fw_oh hO
  have ha : fw_ok a := fw_oh (fw_ot hO)
  have hq : fw_ok (a % b) := ⟨by have := Int.emod_nonneg a (Int.ne_of_gt h1); omega, by have := Int.emod_lt_of_pos a h1; have := hb.2; omega⟩
  have hk := k l D cA p e s m args below meth c bb H locs la hZ (fw_oc hq (fw_ot (fw_ot hO))) hY
  exact lv_irem hZ.1 hZ.2.1 hd (fw_ne0 hb h1) (by rw [fw_div32 ha hb h0 h1, ← Int32.ofInt_mul, ← Int32.ofInt_sub, show a - a / b * b = a % b by have := Int.emod_add_mul_ediv a b; rw [Int.mul_comm (a / b) b]; omega]; exact hk)
theorem fw_iand {y : fw_M} {K0 pc K sl : Nat} {ls : List (Option fw_V)} {st : List fw_V} {R M : fw_F} {L : fw_G} {Q : fw_Q} {a b : Int} (hd : decode (fw_mC y) pc = .ok (.iand, 1)) (k : fw_WP y K0 (pc + 1) ls (fw_i (fw_and a b) :: st) K sl R M L Q) : fw_WP y K0 (pc) ls (fw_i b :: fw_i a :: st) K sl R M L Q := by
  intro l D cA p e s m args below meth c bb H locs la hZ hO hY
  have hk := k l D cA p e s m args below meth c bb H locs la hZ (fw_oc (fw_ok32 _) (fw_ot (fw_ot hO))) hY
  exact lv_iand hZ.1 hZ.2.1 hd (by rw [show Int32.ofInt a &&& Int32.ofInt b = Int32.ofInt (fw_and a b) by rw [fw_and, Int32.ofInt_toInt]]; exact hk)
theorem fw_ior {y : fw_M} {K0 pc K sl : Nat} {ls : List (Option fw_V)} {st : List fw_V} {R M : fw_F} {L : fw_G} {Q : fw_Q} {a b : Int} (hd : decode (fw_mC y) pc = .ok (.ior, 1)) (k : fw_WP y K0 (pc + 1) ls (fw_i (fw_or a b) :: st) K sl R M L Q) : fw_WP y K0 (pc) ls (fw_i b :: fw_i a :: st) K sl R M L Q := by
  intro l D cA p e s m args below meth c bb H locs la hZ hO hY
  have hk := k l D cA p e s m args below meth c bb H locs la hZ (fw_oc (fw_ok32 _) (fw_ot (fw_ot hO))) hY
  exact lv_ior hZ.1 hZ.2.1 hd (by rw [show Int32.ofInt a ||| Int32.ofInt b = Int32.ofInt (fw_or a b) by rw [fw_or, Int32.ofInt_toInt]]; exact hk)
theorem fw_ishl {y : fw_M} {K0 pc K sl : Nat} {ls : List (Option fw_V)} {st : List fw_V} {R M : fw_F} {L : fw_G} {Q : fw_Q} {a b : Int} (hd : decode (fw_mC y) pc = .ok (.ishl, 1)) (k : fw_WP y K0 (pc + 1) ls (fw_i (fw_shl a b) :: st) K sl R M L Q) : fw_WP y K0 (pc) ls (fw_i b :: fw_i a :: st) K sl R M L Q := by
  intro l D cA p e s m args below meth c bb H locs la hZ hO hY
  have hk := k l D cA p e s m args below meth c bb H locs la hZ (fw_oc (fw_ok32 _) (fw_ot (fw_ot hO))) hY
  exact lv_ishl hZ.1 hZ.2.1 hd (by rw [show Int32.ofInt a <<< (Int32.ofInt b &&& 31) = Int32.ofInt (fw_shl a b) by rw [fw_shl, Int32.ofInt_toInt]]; exact hk)
theorem fw_ladd {y : fw_M} {K0 pc K sl : Nat} {ls : List (Option fw_V)} {st : List fw_V} {R M : fw_F} {L : fw_G} {Q : fw_Q} {x z : Int64} (hd : decode (fw_mC y) pc = .ok (.ladd, 1)) (k : fw_WP y K0 (pc + 1) ls (fw_l (x + z) :: st) K sl R M L Q) : fw_WP y K0 (pc) ls (fw_l z :: fw_l x :: st) K sl R M L Q := by
  intro l D cA p e s m args below meth c bb H locs la hZ hO hY
  exact lv_ladd hZ.1 hZ.2.1 hd (k l D cA p e s m args below meth c bb H locs la hZ (fw_oc fw_okl (fw_ot (fw_ot hO))) hY)
theorem fw_lsub {y : fw_M} {K0 pc K sl : Nat} {ls : List (Option fw_V)} {st : List fw_V} {R M : fw_F} {L : fw_G} {Q : fw_Q} {x z : Int64} (hd : decode (fw_mC y) pc = .ok (.lsub, 1)) (k : fw_WP y K0 (pc + 1) ls (fw_l (x - z) :: st) K sl R M L Q) : fw_WP y K0 (pc) ls (fw_l z :: fw_l x :: st) K sl R M L Q := by
  intro l D cA p e s m args below meth c bb H locs la hZ hO hY
  exact lv_lsub hZ.1 hZ.2.1 hd (k l D cA p e s m args below meth c bb H locs la hZ (fw_oc fw_okl (fw_ot (fw_ot hO))) hY)
theorem fw_lmul {y : fw_M} {K0 pc K sl : Nat} {ls : List (Option fw_V)} {st : List fw_V} {R M : fw_F} {L : fw_G} {Q : fw_Q} {x z : Int64} (hd : decode (fw_mC y) pc = .ok (.lmul, 1)) (k : fw_WP y K0 (pc + 1) ls (fw_l (x * z) :: st) K sl R M L Q) : fw_WP y K0 (pc) ls (fw_l z :: fw_l x :: st) K sl R M L Q := by
  intro l D cA p e s m args below meth c bb H locs la hZ hO hY
  exact lv_lmul hZ.1 hZ.2.1 hd (k l D cA p e s m args below meth c bb H locs la hZ (fw_oc fw_okl (fw_ot (fw_ot hO))) hY)
theorem fw_land {y : fw_M} {K0 pc K sl : Nat} {ls : List (Option fw_V)} {st : List fw_V} {R M : fw_F} {L : fw_G} {Q : fw_Q} {x z : Int64} (hd : decode (fw_mC y) pc = .ok (.land, 1)) (k : fw_WP y K0 (pc + 1) ls (fw_l (x &&& z) :: st) K sl R M L Q) : fw_WP y K0 (pc) ls (fw_l z :: fw_l x :: st) K sl R M L Q := by
  intro l D cA p e s m args below meth c bb H locs la hZ hO hY
  exact lv_land hZ.1 hZ.2.1 hd (k l D cA p e s m args below meth c bb H locs la hZ (fw_oc fw_okl (fw_ot (fw_ot hO))) hY)
theorem fw_lor {y : fw_M} {K0 pc K sl : Nat} {ls : List (Option fw_V)} {st : List fw_V} {R M : fw_F} {L : fw_G} {Q : fw_Q} {x z : Int64} (hd : decode (fw_mC y) pc = .ok (.lor, 1)) (k : fw_WP y K0 (pc + 1) ls (fw_l (x ||| z) :: st) K sl R M L Q) : fw_WP y K0 (pc) ls (fw_l z :: fw_l x :: st) K sl R M L Q := by
  intro l D cA p e s m args below meth c bb H locs la hZ hO hY
  exact lv_lor hZ.1 hZ.2.1 hd (k l D cA p e s m args below meth c bb H locs la hZ (fw_oc fw_okl (fw_ot (fw_ot hO))) hY)
theorem fw_ldiv {y : fw_M} {K0 pc K sl : Nat} {ls : List (Option fw_V)} {st : List fw_V} {R M : fw_F} {L : fw_G} {Q : fw_Q} {x z : Int64} (hd : decode (fw_mC y) pc = .ok (.ldiv, 1)) (hz : ¬ z = 0) (k : fw_WP y K0 (pc + 1) ls (fw_l (x / z) :: st) K sl R M L Q) : fw_WP y K0 (pc) ls (fw_l z :: fw_l x :: st) K sl R M L Q := by
  intro l D cA p e s m args below meth c bb H locs la hZ hO hY
  exact lv_ldiv hZ.1 hZ.2.1 hd hz (k l D cA p e s m args below meth c bb H locs la hZ (fw_oc fw_okl (fw_ot (fw_ot hO))) hY)
theorem fw_lrem {y : fw_M} {K0 pc K sl : Nat} {ls : List (Option fw_V)} {st : List fw_V} {R M : fw_F} {L : fw_G} {Q : fw_Q} {x z : Int64} (hd : decode (fw_mC y) pc = .ok (.lrem, 1)) (hz : ¬ z = 0) (k : fw_WP y K0 (pc + 1) ls (fw_l (x - x / z * z) :: st) K sl R M L Q) : fw_WP y K0 (pc) ls (fw_l z :: fw_l x :: st) K sl R M L Q := by
  intro l D cA p e s m args below meth c bb H locs la hZ hO hY
  exact lv_lrem hZ.1 hZ.2.1 hd hz (k l D cA p e s m args below meth c bb H locs la hZ (fw_oc fw_okl (fw_ot (fw_ot hO))) hY)
theorem fw_i2l64 {a : Int} (h : fw_ok a) : (Int32.ofInt a).toInt64 = Int64.ofInt a := by rw [← Int64.ofInt_int32ToInt, fw_toInt h]
theorem fw_lshl {y : fw_M} {K0 pc K sl : Nat} {ls : List (Option fw_V)} {st : List fw_V} {R M : fw_F} {L : fw_G} {Q : fw_Q} {x : Int64} {a : Int} (hd : decode (fw_mC y) pc = .ok (.lshl, 1)) (k : fw_WP y K0 (pc + 1) ls (fw_l (x <<< (Int64.ofInt a &&& 63)) :: st) K sl R M L Q) : fw_WP y K0 (pc) ls (fw_i a :: fw_l x :: st) K sl R M L Q := by
  intro l D cA p e s m args below meth c bb H locs la hZ hO hY
  have ha : fw_ok a := fw_oh hO
  have hk := k l D cA p e s m args below meth c bb H locs la hZ (fw_oc fw_okl (fw_ot (fw_ot hO))) hY
  exact lv_lshl hZ.1 hZ.2.1 hd (by rw [fw_i2l64 ha]) hk
theorem fw_lshr {y : fw_M} {K0 pc K sl : Nat} {ls : List (Option fw_V)} {st : List fw_V} {R M : fw_F} {L : fw_G} {Q : fw_Q} {x : Int64} {a : Int} (hd : decode (fw_mC y) pc = .ok (.lshr, 1)) (k : fw_WP y K0 (pc + 1) ls (fw_l (x >>> (Int64.ofInt a &&& 63)) :: st) K sl R M L Q) : fw_WP y K0 (pc) ls (fw_i a :: fw_l x :: st) K sl R M L Q := by
  intro l D cA p e s m args below meth c bb H locs la hZ hO hY
  have ha : fw_ok a := fw_oh hO
  have hk := k l D cA p e s m args below meth c bb H locs la hZ (fw_oc fw_okl (fw_ot (fw_ot hO))) hY
  exact lv_lshr hZ.1 hZ.2.1 hd (by rw [fw_i2l64 ha]) hk
theorem fw_lushr {y : fw_M} {K0 pc K sl : Nat} {ls : List (Option fw_V)} {st : List fw_V} {R M : fw_F} {L : fw_G} {Q : fw_Q} {x : Int64} {a : Int} (hd : decode (fw_mC y) pc = .ok (.lushr, 1)) (k : fw_WP y K0 (pc + 1) ls (fw_l ((x.toUInt64 >>> ((Int64.ofInt a).toUInt64 &&& Int64.toUInt64 63)).toInt64) :: st) K sl R M L Q) : fw_WP y K0 (pc) ls (fw_i a :: fw_l x :: st) K sl R M L Q := by
  intro l D cA p e s m args below meth c bb H locs la hZ hO hY
  have ha : fw_ok a := fw_oh hO
  have hk := k l D cA p e s m args below meth c bb H locs la hZ (fw_oc fw_okl (fw_ot (fw_ot hO))) hY
  exact lv_lushr hZ.1 hZ.2.1 hd (by rw [fw_i2l64 ha]) hk
theorem fw_i2l {y : fw_M} {K0 pc K sl : Nat} {ls : List (Option fw_V)} {st : List fw_V} {R M : fw_F} {L : fw_G} {Q : fw_Q} {a : Int} (hd : decode (fw_mC y) pc = .ok (.i2l, 1)) (k : fw_WP y K0 (pc + 1) ls (fw_l (Int64.ofInt a) :: st) K sl R M L Q) : fw_WP y K0 (pc) ls (fw_i a :: st) K sl R M L Q := by
  intro l D cA p e s m args below meth c bb H locs la hZ hO hY
  have ha : fw_ok a := fw_oh hO
  have hk := k l D cA p e s m args below meth c bb H locs la hZ (fw_oc fw_okl (fw_ot hO)) hY
  exact lv_i2l hZ.1 hZ.2.1 hd (fw_i2l64 ha) hk
theorem fw_l2i {y : fw_M} {K0 pc K sl : Nat} {ls : List (Option fw_V)} {st : List fw_V} {R M : fw_F} {L : fw_G} {Q : fw_Q} {x : Int64} (hd : decode (fw_mC y) pc = .ok (.l2i, 1)) (k : fw_WP y K0 (pc + 1) ls (fw_i x.toInt32.toInt :: st) K sl R M L Q) : fw_WP y K0 (pc) ls (fw_l x :: st) K sl R M L Q := by
  intro l D cA p e s m args below meth c bb H locs la hZ hO hY
  have hk := k l D cA p e s m args below meth c bb H locs la hZ (fw_oc (fw_ok32 _) (fw_ot hO)) hY
  exact lv_l2i hZ.1 hZ.2.1 hd (Int32.ofInt_toInt x.toInt32).symm hk
def fw_cmp (x z : Int64) : Int := if x = z then 0 else if z < x then 1 else -1
theorem fw_cmp_eq (x z : Int64) : lg_cmp x z = Int32.ofInt (fw_cmp x z) := by
  unfold lg_cmp fw_cmp
  by_cases h1 : x = z
  · subst h1
    have : ¬ x > x := by rw [gt_iff_lt, Int64.lt_iff_toInt_lt]; omega
    rw [if_neg this, if_pos rfl, if_pos rfl]; rfl
  · rw [if_neg h1, if_neg h1]
    by_cases h2 : z < x
    · rw [if_pos h2, if_pos h2]; rfl
    · rw [if_neg h2, if_neg h2]; rfl
theorem fw_cmp_ok (x z : Int64) : fw_ok (fw_cmp x z) := by
  unfold fw_cmp
  split
  · exact ⟨by decide, by decide⟩
  · split <;> exact ⟨by decide, by decide⟩
theorem fw_cmp_0 {x z : Int64} : fw_cmp x z = 0 ↔ x = z := by
  unfold fw_cmp
  split
  · simp_all
  · split <;> simp_all
theorem fw_lcmp {y : fw_M} {K0 pc K sl : Nat} {ls : List (Option fw_V)} {st : List fw_V} {R M : fw_F} {L : fw_G} {Q : fw_Q} {x z : Int64} (hd : decode (fw_mC y) pc = .ok (.lcmp, 1)) (k : fw_WP y K0 (pc + 1) ls (fw_i (fw_cmp x z) :: st) K sl R M L Q) : fw_WP y K0 (pc) ls (fw_l z :: fw_l x :: st) K sl R M L Q := by
  intro l D cA p e s m args below meth c bb H locs la hZ hO hY
  have hk := k l D cA p e s m args below meth c bb H locs la hZ (fw_oc (fw_cmp_ok x z) (fw_ot (fw_ot hO))) hY
  exact W.lcmp hZ.1 hZ.2.1 hd (by rw [fw_cmp_eq]; exact hk)
theorem fw_dup {y : fw_M} {K0 pc K sl : Nat} {ls : List (Option fw_V)} {st : List fw_V} {R M : fw_F} {L : fw_G} {Q : fw_Q} {v : fw_V} (hd : decode (fw_mC y) pc = .ok (.dup, 1)) (hc : fw_cat v = 1) (k : fw_WP y K0 (pc + 1) ls (v :: v :: st) K sl R M L Q) : fw_WP y K0 (pc) ls (v :: st) K sl R M L Q := by
  intro l D cA p e s m args below meth c bb H locs la hZ hO hY
  exact lv_dup hZ.1 hZ.2.1 hd ((fw_cv_cat bb v).trans hc) (k l D cA p e s m args below meth c bb H locs la hZ (fw_oc (fw_oh hO) hO) hY)
theorem fw_pop {y : fw_M} {K0 pc K sl : Nat} {ls : List (Option fw_V)} {st : List fw_V} {R M : fw_F} {L : fw_G} {Q : fw_Q} {v : fw_V} (hd : decode (fw_mC y) pc = .ok (.pop, 1)) (hc : fw_cat v = 1) (k : fw_WP y K0 (pc + 1) ls (st) K sl R M L Q) : fw_WP y K0 (pc) ls (v :: st) K sl R M L Q := by
  intro l D cA p e s m args below meth c bb H locs la hZ hO hY
  exact lv_pop hZ.1 hZ.2.1 hd ((fw_cv_cat bb v).trans hc) (k l D cA p e s m args below meth c bb H locs la hZ (fw_ot hO) hY)
theorem fw_dup2 {y : fw_M} {K0 pc K sl : Nat} {ls : List (Option fw_V)} {st : List fw_V} {R M : fw_F} {L : fw_G} {Q : fw_Q} {v u : fw_V} (hd : decode (fw_mC y) pc = .ok (.dup2, 1)) (hc : fw_cat v = 1) (hc2 : fw_cat u = 1) (k : fw_WP y K0 (pc + 1) ls (v :: u :: v :: u :: st) K sl R M L Q) : fw_WP y K0 (pc) ls (v :: u :: st) K sl R M L Q := by
  intro l D cA p e s m args below meth c bb H locs la hZ hO hY
  exact lv_dup2_11 hZ.1 hZ.2.1 hd ((fw_cv_cat bb v).trans hc) ((fw_cv_cat bb u).trans hc2) (k l D cA p e s m args below meth c bb H locs la hZ (fw_oc (fw_oh hO) (fw_oc (fw_oh (fw_ot hO)) hO)) hY)
theorem fw_dup2l {y : fw_M} {K0 pc K sl : Nat} {ls : List (Option fw_V)} {st : List fw_V} {R M : fw_F} {L : fw_G} {Q : fw_Q} {x : Int64} (hd : decode (fw_mC y) pc = .ok (.dup2, 1)) (k : fw_WP y K0 (pc + 1) ls (fw_l x :: fw_l x :: st) K sl R M L Q) : fw_WP y K0 (pc) ls (fw_l x :: st) K sl R M L Q := by
  intro l D cA p e s m args below meth c bb H locs la hZ hO hY
  exact lv_dup2_2 hZ.1 hZ.2.1 hd rfl (k l D cA p e s m args below meth c bb H locs la hZ (fw_oc fw_okl hO) hY)
theorem fw_icmp_eq {y : fw_M} {K0 pc K sl : Nat} {ls : List (Option fw_V)} {st : List fw_V} {R M : fw_F} {L : fw_G} {Q : fw_Q} {a b off : Int} (tgt : Nat) (hd : decode (fw_mC y) pc = .ok (.if_icmp .eq off, 3)) (ht : (pc : Int) + off = (tgt : Int)) (kt : a = b → fw_WP y K0 (tgt) ls (st) K sl R M L Q) (kf : ¬ (a = b) → fw_WP y K0 (pc + 3) ls (st) K sl R M L Q) : fw_WP y K0 (pc) ls (fw_i b :: fw_i a :: st) K sl R M L Q := by
  intro l D cA p e s m args below meth c bb H locs la hZ hO hY
  have hb : fw_ok b := fw_oh hO
  have ha : fw_ok a := fw_oh (fw_ot hO)
  exact lv_icmp_eq hZ.1 hZ.2.1 hd ht (fun q => kt ((fw_eq ha hb).mp q) l D cA p e s m args below meth c bb H locs la hZ (fw_ot (fw_ot hO)) hY) (fun q => kf (fun q2 => q ((fw_eq ha hb).mpr q2)) l D cA p e s m args below meth c bb H locs la hZ (fw_ot (fw_ot hO)) hY)
theorem fw_if_eq {y : fw_M} {K0 pc K sl : Nat} {ls : List (Option fw_V)} {st : List fw_V} {R M : fw_F} {L : fw_G} {Q : fw_Q} {a off : Int} (tgt : Nat) (hd : decode (fw_mC y) pc = .ok (.ifCond .eq off, 3)) (ht : (pc : Int) + off = (tgt : Int)) (kt : a = 0 → fw_WP y K0 (tgt) ls (st) K sl R M L Q) (kf : ¬ (a = 0) → fw_WP y K0 (pc + 3) ls (st) K sl R M L Q) : fw_WP y K0 (pc) ls (fw_i a :: st) K sl R M L Q := by
  intro l D cA p e s m args below meth c bb H locs la hZ hO hY
  have ha : fw_ok a := fw_oh hO
  exact lv_if_eq hZ.1 hZ.2.1 hd ht (fun q => kt ((fw_eq ha fw_ok0).mp q) l D cA p e s m args below meth c bb H locs la hZ (fw_ot hO) hY) (fun q => kf (fun q2 => q ((fw_eq ha fw_ok0).mpr q2)) l D cA p e s m args below meth c bb H locs la hZ (fw_ot hO) hY)
theorem fw_icmp_ne {y : fw_M} {K0 pc K sl : Nat} {ls : List (Option fw_V)} {st : List fw_V} {R M : fw_F} {L : fw_G} {Q : fw_Q} {a b off : Int} (tgt : Nat) (hd : decode (fw_mC y) pc = .ok (.if_icmp .ne off, 3)) (ht : (pc : Int) + off = (tgt : Int)) (kt : ¬ a = b → fw_WP y K0 (tgt) ls (st) K sl R M L Q) (kf : a = b → fw_WP y K0 (pc + 3) ls (st) K sl R M L Q) : fw_WP y K0 (pc) ls (fw_i b :: fw_i a :: st) K sl R M L Q := by
  intro l D cA p e s m args below meth c bb H locs la hZ hO hY
  have hb : fw_ok b := fw_oh hO
  have ha : fw_ok a := fw_oh (fw_ot hO)
  exact lv_icmp_ne hZ.1 hZ.2.1 hd ht (fun q => kt ((not_congr (fw_eq ha hb)).mp q) l D cA p e s m args below meth c bb H locs la hZ (fw_ot (fw_ot hO)) hY) (fun q => kf ((fw_eq ha hb).mp q) l D cA p e s m args below meth c bb H locs la hZ (fw_ot (fw_ot hO)) hY)
theorem fw_if_ne {y : fw_M} {K0 pc K sl : Nat} {ls : List (Option fw_V)} {st : List fw_V} {R M : fw_F} {L : fw_G} {Q : fw_Q} {a off : Int} (tgt : Nat) (hd : decode (fw_mC y) pc = .ok (.ifCond .ne off, 3)) (ht : (pc : Int) + off = (tgt : Int)) (kt : ¬ a = 0 → fw_WP y K0 (tgt) ls (st) K sl R M L Q) (kf : a = 0 → fw_WP y K0 (pc + 3) ls (st) K sl R M L Q) : fw_WP y K0 (pc) ls (fw_i a :: st) K sl R M L Q := by
  intro l D cA p e s m args below meth c bb H locs la hZ hO hY
  have ha : fw_ok a := fw_oh hO
  exact lv_if_ne hZ.1 hZ.2.1 hd ht (fun q => kt ((not_congr (fw_eq ha fw_ok0)).mp q) l D cA p e s m args below meth c bb H locs la hZ (fw_ot hO) hY) (fun q => kf ((fw_eq ha fw_ok0).mp q) l D cA p e s m args below meth c bb H locs la hZ (fw_ot hO) hY)
theorem fw_icmp_lt {y : fw_M} {K0 pc K sl : Nat} {ls : List (Option fw_V)} {st : List fw_V} {R M : fw_F} {L : fw_G} {Q : fw_Q} {a b off : Int} (tgt : Nat) (hd : decode (fw_mC y) pc = .ok (.if_icmp .lt off, 3)) (ht : (pc : Int) + off = (tgt : Int)) (kt : a < b → fw_WP y K0 (tgt) ls (st) K sl R M L Q) (kf : ¬ (a < b) → fw_WP y K0 (pc + 3) ls (st) K sl R M L Q) : fw_WP y K0 (pc) ls (fw_i b :: fw_i a :: st) K sl R M L Q := by
  intro l D cA p e s m args below meth c bb H locs la hZ hO hY
  have hb : fw_ok b := fw_oh hO
  have ha : fw_ok a := fw_oh (fw_ot hO)
  exact lv_icmp_lt hZ.1 hZ.2.1 hd ht (fun q => kt ((fw_lt ha hb).mp q) l D cA p e s m args below meth c bb H locs la hZ (fw_ot (fw_ot hO)) hY) (fun q => kf (fun q2 => q ((fw_lt ha hb).mpr q2)) l D cA p e s m args below meth c bb H locs la hZ (fw_ot (fw_ot hO)) hY)
theorem fw_if_lt {y : fw_M} {K0 pc K sl : Nat} {ls : List (Option fw_V)} {st : List fw_V} {R M : fw_F} {L : fw_G} {Q : fw_Q} {a off : Int} (tgt : Nat) (hd : decode (fw_mC y) pc = .ok (.ifCond .lt off, 3)) (ht : (pc : Int) + off = (tgt : Int)) (kt : a < 0 → fw_WP y K0 (tgt) ls (st) K sl R M L Q) (kf : ¬ (a < 0) → fw_WP y K0 (pc + 3) ls (st) K sl R M L Q) : fw_WP y K0 (pc) ls (fw_i a :: st) K sl R M L Q := by
  intro l D cA p e s m args below meth c bb H locs la hZ hO hY
  have ha : fw_ok a := fw_oh hO
  exact lv_if_lt hZ.1 hZ.2.1 hd ht (fun q => kt ((fw_lt ha fw_ok0).mp q) l D cA p e s m args below meth c bb H locs la hZ (fw_ot hO) hY) (fun q => kf (fun q2 => q ((fw_lt ha fw_ok0).mpr q2)) l D cA p e s m args below meth c bb H locs la hZ (fw_ot hO) hY)
theorem fw_icmp_ge {y : fw_M} {K0 pc K sl : Nat} {ls : List (Option fw_V)} {st : List fw_V} {R M : fw_F} {L : fw_G} {Q : fw_Q} {a b off : Int} (tgt : Nat) (hd : decode (fw_mC y) pc = .ok (.if_icmp .ge off, 3)) (ht : (pc : Int) + off = (tgt : Int)) (kt : b ≤ a → fw_WP y K0 (tgt) ls (st) K sl R M L Q) (kf : ¬ (b ≤ a) → fw_WP y K0 (pc + 3) ls (st) K sl R M L Q) : fw_WP y K0 (pc) ls (fw_i b :: fw_i a :: st) K sl R M L Q := by
  intro l D cA p e s m args below meth c bb H locs la hZ hO hY
  have hb : fw_ok b := fw_oh hO
  have ha : fw_ok a := fw_oh (fw_ot hO)
  exact lv_icmp_ge hZ.1 hZ.2.1 hd ht (fun q => kt ((fw_le hb ha).mp q) l D cA p e s m args below meth c bb H locs la hZ (fw_ot (fw_ot hO)) hY) (fun q => kf (fun q2 => q ((fw_le hb ha).mpr q2)) l D cA p e s m args below meth c bb H locs la hZ (fw_ot (fw_ot hO)) hY)
theorem fw_if_ge {y : fw_M} {K0 pc K sl : Nat} {ls : List (Option fw_V)} {st : List fw_V} {R M : fw_F} {L : fw_G} {Q : fw_Q} {a off : Int} (tgt : Nat) (hd : decode (fw_mC y) pc = .ok (.ifCond .ge off, 3)) (ht : (pc : Int) + off = (tgt : Int)) (kt : 0 ≤ a → fw_WP y K0 (tgt) ls (st) K sl R M L Q) (kf : ¬ (0 ≤ a) → fw_WP y K0 (pc + 3) ls (st) K sl R M L Q) : fw_WP y K0 (pc) ls (fw_i a :: st) K sl R M L Q := by
  intro l D cA p e s m args below meth c bb H locs la hZ hO hY
  have ha : fw_ok a := fw_oh hO
  exact lv_if_ge hZ.1 hZ.2.1 hd ht (fun q => kt ((fw_le fw_ok0 ha).mp q) l D cA p e s m args below meth c bb H locs la hZ (fw_ot hO) hY) (fun q => kf (fun q2 => q ((fw_le fw_ok0 ha).mpr q2)) l D cA p e s m args below meth c bb H locs la hZ (fw_ot hO) hY)
theorem fw_icmp_gt {y : fw_M} {K0 pc K sl : Nat} {ls : List (Option fw_V)} {st : List fw_V} {R M : fw_F} {L : fw_G} {Q : fw_Q} {a b off : Int} (tgt : Nat) (hd : decode (fw_mC y) pc = .ok (.if_icmp .gt off, 3)) (ht : (pc : Int) + off = (tgt : Int)) (kt : b < a → fw_WP y K0 (tgt) ls (st) K sl R M L Q) (kf : ¬ (b < a) → fw_WP y K0 (pc + 3) ls (st) K sl R M L Q) : fw_WP y K0 (pc) ls (fw_i b :: fw_i a :: st) K sl R M L Q := by
  intro l D cA p e s m args below meth c bb H locs la hZ hO hY
  have hb : fw_ok b := fw_oh hO
  have ha : fw_ok a := fw_oh (fw_ot hO)
  exact lv_icmp_gt hZ.1 hZ.2.1 hd ht (fun q => kt ((fw_lt hb ha).mp q) l D cA p e s m args below meth c bb H locs la hZ (fw_ot (fw_ot hO)) hY) (fun q => kf (fun q2 => q ((fw_lt hb ha).mpr q2)) l D cA p e s m args below meth c bb H locs la hZ (fw_ot (fw_ot hO)) hY)
theorem fw_if_gt {y : fw_M} {K0 pc K sl : Nat} {ls : List (Option fw_V)} {st : List fw_V} {R M : fw_F} {L : fw_G} {Q : fw_Q} {a off : Int} (tgt : Nat) (hd : decode (fw_mC y) pc = .ok (.ifCond .gt off, 3)) (ht : (pc : Int) + off = (tgt : Int)) (kt : 0 < a → fw_WP y K0 (tgt) ls (st) K sl R M L Q) (kf : ¬ (0 < a) → fw_WP y K0 (pc + 3) ls (st) K sl R M L Q) : fw_WP y K0 (pc) ls (fw_i a :: st) K sl R M L Q := by
  intro l D cA p e s m args below meth c bb H locs la hZ hO hY
  have ha : fw_ok a := fw_oh hO
  exact lv_if_gt hZ.1 hZ.2.1 hd ht (fun q => kt ((fw_lt fw_ok0 ha).mp q) l D cA p e s m args below meth c bb H locs la hZ (fw_ot hO) hY) (fun q => kf (fun q2 => q ((fw_lt fw_ok0 ha).mpr q2)) l D cA p e s m args below meth c bb H locs la hZ (fw_ot hO) hY)
theorem fw_icmp_le {y : fw_M} {K0 pc K sl : Nat} {ls : List (Option fw_V)} {st : List fw_V} {R M : fw_F} {L : fw_G} {Q : fw_Q} {a b off : Int} (tgt : Nat) (hd : decode (fw_mC y) pc = .ok (.if_icmp .le off, 3)) (ht : (pc : Int) + off = (tgt : Int)) (kt : a ≤ b → fw_WP y K0 (tgt) ls (st) K sl R M L Q) (kf : ¬ (a ≤ b) → fw_WP y K0 (pc + 3) ls (st) K sl R M L Q) : fw_WP y K0 (pc) ls (fw_i b :: fw_i a :: st) K sl R M L Q := by
  intro l D cA p e s m args below meth c bb H locs la hZ hO hY
  have hb : fw_ok b := fw_oh hO
  have ha : fw_ok a := fw_oh (fw_ot hO)
  exact lv_icmp_le hZ.1 hZ.2.1 hd ht (fun q => kt ((fw_le ha hb).mp q) l D cA p e s m args below meth c bb H locs la hZ (fw_ot (fw_ot hO)) hY) (fun q => kf (fun q2 => q ((fw_le ha hb).mpr q2)) l D cA p e s m args below meth c bb H locs la hZ (fw_ot (fw_ot hO)) hY)
theorem fw_if_le {y : fw_M} {K0 pc K sl : Nat} {ls : List (Option fw_V)} {st : List fw_V} {R M : fw_F} {L : fw_G} {Q : fw_Q} {a off : Int} (tgt : Nat) (hd : decode (fw_mC y) pc = .ok (.ifCond .le off, 3)) (ht : (pc : Int) + off = (tgt : Int)) (kt : a ≤ 0 → fw_WP y K0 (tgt) ls (st) K sl R M L Q) (kf : ¬ (a ≤ 0) → fw_WP y K0 (pc + 3) ls (st) K sl R M L Q) : fw_WP y K0 (pc) ls (fw_i a :: st) K sl R M L Q := by
  intro l D cA p e s m args below meth c bb H locs la hZ hO hY
  have ha : fw_ok a := fw_oh hO
  exact lv_if_le hZ.1 hZ.2.1 hd ht (fun q => kt ((fw_le ha fw_ok0).mp q) l D cA p e s m args below meth c bb H locs la hZ (fw_ot hO) hY) (fun q => kf (fun q2 => q ((fw_le ha fw_ok0).mpr q2)) l D cA p e s m args below meth c bb H locs la hZ (fw_ot hO) hY)
theorem fw_goto {y : fw_M} {K0 pc K sl : Nat} {ls : List (Option fw_V)} {st : List fw_V} {R M : fw_F} {L : fw_G} {Q : fw_Q} {off : Int} (tgt : Nat) (hd : decode (fw_mC y) pc = .ok (.goto off, 3)) (ht : (pc : Int) + off = (tgt : Int)) (k : fw_WP y K0 (tgt) ls (st) K sl R M L Q) : fw_WP y K0 (pc) ls (st) K sl R M L Q := by
  intro l D cA p e s m args below meth c bb H locs la hZ hO hY
  exact lv_goto hZ.1 hZ.2.1 hd ht (k l D cA p e s m args below meth c bb H locs la hZ hO hY)
theorem fw_tblOut {y : fw_M} {K0 pc K sl : Nat} {ls : List (Option fw_V)} {st : List fw_V} {R M : fw_F} {L : fw_G} {Q : fw_Q} {a dflt lo hi : Int} {offs : Array Int} {len : Nat} (tgt : Nat) (hd : decode (fw_mC y) pc = .ok (.tableswitch dflt lo hi offs, len)) (h : a < lo ∨ hi < a) (ht : (pc : Int) + dflt = (tgt : Int)) (k : fw_WP y K0 (tgt) ls (st) K sl R M L Q) : fw_WP y K0 (pc) ls (fw_i a :: st) K sl R M L Q := by
  intro l D cA p e s m args below meth c bb H locs la hZ hO hY
  have ha : fw_ok a := fw_oh hO
  exact lv_tableOut hZ.1 hZ.2.1 hd (by rw [fw_toInt ha]; exact h) ht (k l D cA p e s m args below meth c bb H locs la hZ (fw_ot hO) hY)
theorem fw_tblIn {y : fw_M} {K0 pc K sl : Nat} {ls : List (Option fw_V)} {st : List fw_V} {R M : fw_F} {L : fw_G} {Q : fw_Q} {a dflt lo hi off : Int} {offs : Array Int} {len : Nat} (tgt : Nat) (hd : decode (fw_mC y) pc = .ok (.tableswitch dflt lo hi offs, len)) (h1 : ¬ a < lo) (h2 : ¬ hi < a) (ho : offs[(a - lo).toNat]? = some off) (ht : (pc : Int) + off = (tgt : Int)) (k : fw_WP y K0 (tgt) ls (st) K sl R M L Q) : fw_WP y K0 (pc) ls (fw_i a :: st) K sl R M L Q := by
  intro l D cA p e s m args below meth c bb H locs la hZ hO hY
  have ha : fw_ok a := fw_oh hO
  exact lv_tableIn hZ.1 hZ.2.1 hd (by rw [fw_toInt ha]; exact h1) (by rw [fw_toInt ha]; exact h2) (by rw [fw_toInt ha]; exact ho) ht (k l D cA p e s m args below meth c bb H locs la hZ (fw_ot hO) hY)
