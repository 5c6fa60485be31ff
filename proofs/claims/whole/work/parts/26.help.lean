/-! helpers for the walks -/
def fw_b (P : Prop) [Decidable P] : Int := if P then 1 else 0
theorem fw_b_T {P : Prop} [Decidable P] (h : P) : fw_b P = 1 := if_pos h
theorem fw_b_F {P : Prop} [Decidable P] (h : ¬ P) : fw_b P = 0 := if_neg h
theorem fw_b_0 {P : Prop} [Decidable P] : fw_b P = 0 ↔ ¬ P := by
  unfold fw_b
  split <;> simp_all
theorem fw_b_01 (P : Prop) [Decidable P] : fw_b P = 0 ∨ fw_b P = 1 := by
  unfold fw_b
  split
  · exact Or.inr rfl
  · exact Or.inl rfl
theorem fw_b_rng (P : Prop) [Decidable P] : 0 ≤ fw_b P ∧ fw_b P ≤ 1 := by
  rcases fw_b_01 P with h | h <;> rw [h] <;> decide
theorem fw_zT {P : Prop} [Decidable P] (h : P) : (some (fw_i 1) : Option fw_V) = some (fw_i (fw_b P)) := by rw [fw_b_T h]
theorem fw_zF {P : Prop} [Decidable P] (h : ¬ P) : (some (fw_i 0) : Option fw_V) = some (fw_i (fw_b P)) := by rw [fw_b_F h]
def fw_pure (v : Option fw_V) (M : fw_F) (L : fw_G) : fw_P := fun r M2 L2 => r = v ∧ M2 = M ∧ L2 = L
theorem fw_pV {y : fw_M} {K0 pc K sl : Nat} {ls : List (Option fw_V)} {st rest : List fw_V} {R M : fw_F} {L : fw_G} {Q : fw_Q} {v : Option fw_V} {idx n N : Nat} {k : Int} (j : fw_M) (As : List fw_V) (hd : decode (fw_mC y) pc = .ok (.invokevirtual idx, 3)) (hv : fw_mv j n)
    (hlk : Cond.methodLink (fw_cn (fw_mO y)) idx (fw_mN j) ∈ fw_tbl) (hrm : (fw_mF j + 1 ≤ fw_mF y ∧ 8 + (fw_mL j + 11) + fw_mX j ≤ fw_mX y) ∧ fw_mW j = fw_mW y ∧ fw_mc j = 0 ∧ fw_ms j = 0 ∧ K - K0 ≤ fw_mc y ∧ sl ≤ fw_ms y) (hlay : fw_lay (fw_mW y) k = (fw_mO j, N)) (hk : 0 ≤ k ∧ k < K)
    (hst : st = As.reverse ++ fw_r k :: rest) (hn : As.length = n) (hcat : (rest.map fw_cat).sum ≤ 8) (hS : fw_SP j (fw_r k :: As) K R M L (fw_q (fw_pure v M L) K R))
    (kk : fw_WP y K0 (pc + 3) ls (v.toList ++ rest) K sl R M L Q) : fw_WP y K0 pc ls st K sl R M L Q := by
  refine fw_cV j As hd hv hlk hrm hlay hk hst hn hcat hS fun r M' L' hp _ => ?_
  obtain ⟨rfl, rfl, rfl⟩ := hp
  exact kk
theorem fw_pS {y : fw_M} {K0 pc K sl : Nat} {ls : List (Option fw_V)} {st rest : List fw_V} {R M : fw_F} {L : fw_G} {Q : fw_Q} {v : Option fw_V} {idx n : Nat} (j : fw_M) (As : List fw_V) (hd : decode (fw_mC y) pc = .ok (.invokestatic idx, 3)) (hv : fw_mt j n)
    (hlk : Cond.methodLink (fw_cn (fw_mO y)) idx (fw_mN j) ∈ fw_tbl) (hrm : (fw_mF j + 1 ≤ fw_mF y ∧ 8 + (fw_mL j + 11) + fw_mX j ≤ fw_mX y) ∧ fw_mW j = fw_mW y ∧ fw_mc j = 0 ∧ fw_ms j = 0 ∧ K - K0 ≤ fw_mc y ∧ sl ≤ fw_ms y)
    (hst : st = As.reverse ++ rest) (hn : As.length = n) (hcat : (rest.map fw_cat).sum ≤ 8) (hS : fw_SP j As K R M L (fw_q (fw_pure v M L) K R))
    (kk : fw_WP y K0 (pc + 3) ls (v.toList ++ rest) K sl R M L Q) : fw_WP y K0 pc ls st K sl R M L Q := by
  refine fw_cS j As hd hv hlk hrm hst hn hcat hS fun r M' L' hp _ => ?_
  obtain ⟨rfl, rfl, rfl⟩ := hp
  exact kk
theorem fw_pN {y : fw_M} {K0 pc K sl : Nat} {ls : List (Option fw_V)} {st rest : List fw_V} {R M : fw_F} {L : fw_G} {Q : fw_Q} {v : Option fw_V} {idx n : Nat} (j : fw_M) (As : List fw_V) (hd : decode (fw_mC y) pc = .ok (.invokestatic idx, 3)) (hv : fw_mt j n)
    (hlk : ∀ s, fw_nest s → va_Nw (.methodLinkNest (fw_cn (fw_mO y)) idx (fw_mN j) "FolderRows") s) (hrm : (fw_mF j + 1 ≤ fw_mF y ∧ 8 + (fw_mL j + 11) + fw_mX j ≤ fw_mX y) ∧ fw_mW j = fw_mW y ∧ fw_mc j = 0 ∧ fw_ms j = 0 ∧ K - K0 ≤ fw_mc y ∧ sl ≤ fw_ms y)
    (hst : st = As.reverse ++ rest) (hn : As.length = n) (hcat : (rest.map fw_cat).sum ≤ 8) (hS : fw_SP j As K R M L (fw_q (fw_pure v M L) K R))
    (kk : fw_WP y K0 (pc + 3) ls (v.toList ++ rest) K sl R M L Q) : fw_WP y K0 pc ls st K sl R M L Q := by
  refine fw_cN j As hd hv hlk hrm hst hn hcat hS fun r M' L' hp _ => ?_
  obtain ⟨rfl, rfl, rfl⟩ := hp
  exact kk
theorem fw_bifeq {y : fw_M} {K0 pc K sl : Nat} {ls : List (Option fw_V)} {st : List fw_V} {R M : fw_F} {L : fw_G} {Q : fw_Q} {P : Prop} [Decidable P] {off : Int} (tgt : Nat) (hd : decode (fw_mC y) pc = .ok (.ifCond .eq off, 3)) (ht : (pc : Int) + off = (tgt : Int)) (kt : ¬ P → fw_WP y K0 tgt ls st K sl R M L Q) (kf : P → fw_WP y K0 (pc + 3) ls st K sl R M L Q) : fw_WP y K0 pc ls (fw_i (fw_b P) :: st) K sl R M L Q :=
  fw_if_eq tgt hd ht (fun h => kt (fw_b_0.mp h)) (fun h => kf (Classical.byContradiction fun q => h (fw_b_0.mpr q)))
theorem fw_bifne {y : fw_M} {K0 pc K sl : Nat} {ls : List (Option fw_V)} {st : List fw_V} {R M : fw_F} {L : fw_G} {Q : fw_Q} {P : Prop} [Decidable P] {off : Int} (tgt : Nat) (hd : decode (fw_mC y) pc = .ok (.ifCond .ne off, 3)) (ht : (pc : Int) + off = (tgt : Int)) (kt : P → fw_WP y K0 tgt ls st K sl R M L Q) (kf : ¬ P → fw_WP y K0 (pc + 3) ls st K sl R M L Q) : fw_WP y K0 pc ls (fw_i (fw_b P) :: st) K sl R M L Q :=
  fw_if_ne tgt hd ht (fun h => kt (Classical.byContradiction fun q => h (fw_b_0.mpr q))) (fun h => kf (fw_b_0.mp h))
theorem fw_iret {y : fw_M} {pc K : Nat} {ls : List (Option fw_V)} {R M : fw_F} {L : fw_G} {post : fw_P} {v : Int} (hd : decode (fw_mC y) pc = .ok (.ireturn, 1)) (hT : fw_mT y = some .int ∧ fw_mc y = 0 ∧ fw_ms y = 0) (hQ : post (some (fw_i v)) M L) : fw_WP y K pc ls [fw_i v] K 0 R M L (fw_q post K R) :=
  fw_ireturn hd hT.1 (by rw [hT.2.1]; rfl) hT.2.2.symm fun _ => ⟨rfl, rfl, hQ⟩
theorem fw_zret {y : fw_M} {pc K : Nat} {ls : List (Option fw_V)} {R M : fw_F} {L : fw_G} {post : fw_P} {v : Int} (hd : decode (fw_mC y) pc = .ok (.ireturn, 1)) (hT : fw_mT y = some .boolean ∧ fw_mc y = 0 ∧ fw_ms y = 0) (hv : v = 0 ∨ v = 1) (hQ : post (some (fw_i v)) M L) : fw_WP y K pc ls [fw_i v] K 0 R M L (fw_q post K R) :=
  fw_zreturn hd hT.1 hv (by rw [hT.2.1]; rfl) hT.2.2.symm ⟨rfl, rfl, hQ⟩
theorem fw_lret {y : fw_M} {pc K : Nat} {ls : List (Option fw_V)} {R M : fw_F} {L : fw_G} {post : fw_P} {v : Int64} (hd : decode (fw_mC y) pc = .ok (.lreturn, 1)) (hT : fw_mT y = some .long ∧ fw_mc y = 0 ∧ fw_ms y = 0) (hQ : post (some (fw_l v)) M L) : fw_WP y K pc ls [fw_l v] K 0 R M L (fw_q post K R) :=
  fw_lreturn hd hT.1 (by rw [hT.2.1]; rfl) hT.2.2.symm ⟨rfl, rfl, hQ⟩
theorem fw_aret {y : fw_M} {pc K : Nat} {ls : List (Option fw_V)} {R M : fw_F} {L : fw_G} {post : fw_P} {k : Int} {C : String} (hd : decode (fw_mC y) pc = .ok (.areturn, 1)) (hT : fw_mT y = some (.object C) ∧ fw_mc y = 0 ∧ fw_ms y = 0) (hQ : post (some (fw_r k)) M L) : fw_WP y K pc ls [fw_r k] K 0 R M L (fw_q post K R) :=
  fw_areturn hd hT.1 (by rw [hT.2.1]; rfl) hT.2.2.symm ⟨rfl, rfl, hQ⟩
theorem fw_vret {y : fw_M} {pc K : Nat} {ls : List (Option fw_V)} {R M : fw_F} {L : fw_G} {post : fw_P} (hd : decode (fw_mC y) pc = .ok (.return_, 1)) (hT : fw_mT y = none ∧ fw_mc y = 0 ∧ fw_ms y = 0) (hQ : post none M L) : fw_WP y K pc ls [] K 0 R M L (fw_q post K R) :=
  fw_vreturn hd hT.1 (by rw [hT.2.1]; rfl) hT.2.2.symm ⟨rfl, rfl, hQ⟩
theorem fw_iincv {y : fw_M} {K0 pc K sl : Nat} {ls : List (Option fw_V)} {st : List fw_V} {R M : fw_F} {L : fw_G} {Q : fw_Q} {i : Nat} {n x : Int} {ls2 : List (Option fw_V)} (v : Int) (hd : decode (fw_mC y) pc = .ok (.iinc i n, 3)) (hx : ls[i]? = some (some (fw_i x))) (hv : x + n = v) (hr : fw_ok v) (hn : i < fw_mL y) (hl : fw_st1 ls i (fw_i v) = ls2) (k : fw_WP y K0 (pc + 3) ls2 st K sl R M L Q) : fw_WP y K0 pc ls st K sl R M L Q := by
  subst hv
  exact fw_iinc hd hx hr hn hl k
def fw_up (F : Int → Int) (o : Int) : Nat → Int → Int
  | 0, t => t
  | n + 1, t => if t = o ∨ t = 0 then t else fw_up F o n (F t)
