/-! static worlds: the cells are all made, references stand -/
def fw_RC (k j : Int) : Int :=
  if k = 0 then (match j.toNat with
    | 0 => 1
    | 1 => 168
    | 2 => 178
    | 3 => 191
    | 4 => 194
    | 5 => 197
    | 6 => 198
    | _ => -1)
  else if k = 1 then 2 + j
  else if k = 2 then 8 + 2 * j
  else if k < 168 then k + 1
  else if k = 168 then (if j = 0 then 1 else 168 + j)
  else if k = 178 then 179 + 3 * j
  else if k = 198 then 199 + j
  else k + 1 + j
def fw_RD (_k j : Int) : Int := if j < 28 then j - 4 else if j < 31 then j - 5 else j - 6
def fw_q (post : Option fw_V → fw_F → fw_G → Prop) (K : Nat) (R : fw_F) : fw_Q := fun r K' R' M' L' => K' = K ∧ R' = R ∧ post r M' L'
abbrev fw_P : Type := Option fw_V → fw_F → fw_G → Prop
abbrev fw_C (y : fw_M) (pc : Nat) (ls : List (Option fw_V)) (st : List fw_V) (M : fw_F) (L : fw_G) (post : fw_P) : Prop := fw_WP y 203 pc ls st 203 0 fw_RC M L (fw_q post 203 fw_RC)
abbrev fw_D (y : fw_M) (pc : Nat) (ls : List (Option fw_V)) (st : List fw_V) (M : fw_F) (L : fw_G) (post : fw_P) : Prop := fw_WP y 30 pc ls st 30 0 fw_RD M L (fw_q post 30 fw_RD)
abbrev fw_SC (y : fw_M) (As : List fw_V) (M : fw_F) (L : fw_G) (post : fw_P) : Prop := fw_SP y As 203 fw_RC M L (fw_q post 203 fw_RC)
abbrev fw_SD (y : fw_M) (As : List fw_V) (M : fw_F) (L : fw_G) (post : fw_P) : Prop := fw_SP y As 30 fw_RD M L (fw_q post 30 fw_RD)
/-- what is needed of an instance method, of a static one -/
def fw_mv (j : fw_M) (n : Nat) : Prop := fw_mw j n ∧ (Cond.instanceMethod (fw_mN j) ∈ fw_tbl ∧ Cond.selects (fw_cn (fw_mO j)) (fw_mN j) (fw_mN j) ∈ fw_tbl) ∧ (∃ T N ty, fw_cls (fw_mO j) (fw_cn (fw_mO j)) T N ty) ∧ fw_mO j < 10
def fw_mt (j : fw_M) (n : Nat) : Prop := fw_mw j n ∧ Cond.static (fw_mN j) ∈ fw_tbl
theorem fw_cV {y : fw_M} {K0 pc K sl : Nat} {ls : List (Option fw_V)} {st rest : List fw_V} {R M : fw_F} {L : fw_G} {Q : fw_Q} {post : fw_P} {idx n N : Nat} {k : Int} (j : fw_M) (As : List fw_V) (hd : decode (fw_mC y) pc = .ok (.invokevirtual idx, 3)) (hv : fw_mv j n)
    (hlk : Cond.methodLink (fw_cn (fw_mO y)) idx (fw_mN j) ∈ fw_tbl) (hrm : (fw_mF j + 1 ≤ fw_mF y ∧ 8 + (fw_mL j + 11) + fw_mX j ≤ fw_mX y) ∧ fw_mW j = fw_mW y ∧ fw_mc j = 0 ∧ fw_ms j = 0 ∧ K - K0 ≤ fw_mc y ∧ sl ≤ fw_ms y) (hlay : fw_lay (fw_mW y) k = (fw_mO j, N)) (hk : 0 ≤ k ∧ k < K)
    (hst : st = As.reverse ++ fw_r k :: rest) (hn : As.length = n) (hcat : (rest.map fw_cat).sum ≤ 8) (hS : fw_SP j (fw_r k :: As) K R M L (fw_q post K R))
    (kk : ∀ (r : Option fw_V) (M' : fw_F) (L' : fw_G), post r M' L' → (∀ k j, fw_ok (M' k j)) → fw_WP y K0 (pc + 3) ls (r.toList ++ rest) K sl R M' L' Q) : fw_WP y K0 pc ls st K sl R M L Q := by
  obtain ⟨h1, h2, h3, h4, h5, h6⟩ := hrm
  refine fw_callV j As hd hv.1 hv.2.1 hlk h1 h2 (fun h => by omega) ⟨by rw [hlay], hv.2.2.2⟩ hv.2.2.1 hk hst hn hcat ⟨by omega, by omega⟩ hS fun r R' M' L' hq _ hM => ?_
  obtain ⟨-, rfl, hp⟩ := hq
  rw [h3, h4]
  exact kk r M' L' hp hM
theorem fw_cS {y : fw_M} {K0 pc K sl : Nat} {ls : List (Option fw_V)} {st rest : List fw_V} {R M : fw_F} {L : fw_G} {Q : fw_Q} {post : fw_P} {idx n : Nat} (j : fw_M) (As : List fw_V) (hd : decode (fw_mC y) pc = .ok (.invokestatic idx, 3)) (hv : fw_mt j n)
    (hlk : Cond.methodLink (fw_cn (fw_mO y)) idx (fw_mN j) ∈ fw_tbl) (hrm : (fw_mF j + 1 ≤ fw_mF y ∧ 8 + (fw_mL j + 11) + fw_mX j ≤ fw_mX y) ∧ fw_mW j = fw_mW y ∧ fw_mc j = 0 ∧ fw_ms j = 0 ∧ K - K0 ≤ fw_mc y ∧ sl ≤ fw_ms y)
    (hst : st = As.reverse ++ rest) (hn : As.length = n) (hcat : (rest.map fw_cat).sum ≤ 8) (hS : fw_SP j As K R M L (fw_q post K R))
    (kk : ∀ (r : Option fw_V) (M' : fw_F) (L' : fw_G), post r M' L' → (∀ k j, fw_ok (M' k j)) → fw_WP y K0 (pc + 3) ls (r.toList ++ rest) K sl R M' L' Q) : fw_WP y K0 pc ls st K sl R M L Q := by
  obtain ⟨h1, h2, h3, h4, h5, h6⟩ := hrm
  refine fw_callS j As hd hv.1 hv.2 hlk h1 h2 (fun h => by omega) hst hn hcat ⟨by omega, by omega⟩ hS fun r R' M' L' hq _ hM => ?_
  obtain ⟨-, rfl, hp⟩ := hq
  rw [h3, h4]
  exact kk r M' L' hp hM
theorem fw_cN {y : fw_M} {K0 pc K sl : Nat} {ls : List (Option fw_V)} {st rest : List fw_V} {R M : fw_F} {L : fw_G} {Q : fw_Q} {post : fw_P} {idx n : Nat} (j : fw_M) (As : List fw_V) (hd : decode (fw_mC y) pc = .ok (.invokestatic idx, 3)) (hv : fw_mt j n)
    (hlk : ∀ s, fw_nest s → va_Nw (.methodLinkNest (fw_cn (fw_mO y)) idx (fw_mN j) "FolderRows") s) (hrm : (fw_mF j + 1 ≤ fw_mF y ∧ 8 + (fw_mL j + 11) + fw_mX j ≤ fw_mX y) ∧ fw_mW j = fw_mW y ∧ fw_mc j = 0 ∧ fw_ms j = 0 ∧ K - K0 ≤ fw_mc y ∧ sl ≤ fw_ms y)
    (hst : st = As.reverse ++ rest) (hn : As.length = n) (hcat : (rest.map fw_cat).sum ≤ 8) (hS : fw_SP j As K R M L (fw_q post K R))
    (kk : ∀ (r : Option fw_V) (M' : fw_F) (L' : fw_G), post r M' L' → (∀ k j, fw_ok (M' k j)) → fw_WP y K0 (pc + 3) ls (r.toList ++ rest) K sl R M' L' Q) : fw_WP y K0 pc ls st K sl R M L Q := by
  obtain ⟨h1, h2, h3, h4, h5, h6⟩ := hrm
  refine fw_callSN j As hd hv.1 hv.2 hlk h1 h2 (fun h => by omega) hst hn hcat ⟨by omega, by omega⟩ hS fun r R' M' L' hq _ hM => ?_
  obtain ⟨-, rfl, hp⟩ := hq
  rw [h3, h4]
  exact kk r M' L' hp hM
/-- a contract's end may be weakened -/
theorem fw_SP_mono {y : fw_M} {As : List fw_V} {K0 : Nat} {R M : fw_F} {L : fw_G} {p1 p2 : fw_P} (h : fw_SP y As K0 R M L (fw_q p1 K0 R)) (hp : ∀ r M' L', (∀ k j, fw_ok (M' k j)) → p1 r M' L' → p2 r M' L') : fw_SP y As K0 R M L (fw_q p2 K0 R) := by
  intro hA hM l D cA b
  have h1 := h hA hM l D cA b
  refine MetFree.mono h1 (fun _ _ h => h) (fun _ _ _ _ _ h => h) (fun a st o t _ hq => ?_)
  obtain ⟨⟨⟨r, K', R', M', L', e1, ⟨e2, e3, e4⟩, e5, e6, e7⟩, hF⟩, hL⟩ := hq
  exact ⟨⟨⟨r, K', R', M', L', e1, ⟨e2, e3, hp r M' L' e6 e4⟩, e5, e6, e7⟩, hF⟩, hL⟩
/-! Math -/
theorem fw_max {y : fw_M} {K0 pc K sl : Nat} {ls : List (Option fw_V)} {st : List fw_V} {R M : fw_F} {L : fw_G} {Q : fw_Q} {idx : Nat} {a b : Int} (hd : decode (fw_mC y) pc = .ok (.invokestatic idx, 3)) (hlk : Cond.methodLink (fw_cn (fw_mO y)) idx Lib.Math.max.name ∈ fw_tbl) (hw : Cond.static Lib.Math.max.name ∈ fw_tbl ∧ Cond.initialized "java/lang/Math" ∈ fw_tbl ∧ Cond.code Lib.Math.max.name Lib.Math.max.code 2 (some .int) ∈ fw_tbl)
    (hrm : 1 ≤ fw_mF y ∧ (st.map fw_cat).sum + 13 ≤ fw_mX y ∧ K - K0 ≤ fw_mc y ∧ sl ≤ fw_ms y) (k : fw_WP y K0 (pc + 3) ls (fw_i (max a b) :: st) K sl R M L Q) : fw_WP y K0 pc ls (fw_i b :: fw_i a :: st) K sl R M L Q := by
  intro l D cA p e s m args below meth c bb H locs la hZ hO hY
  have hb : fw_ok b := fw_oh hO
  have ha : fw_ok a := fw_oh (fw_ot hO)
  have ht := hZ.2.2.2.2.2.1
  have hm : fw_ok (max a b) := by
    rcases Int.le_total a b with h | h
    · rw [Int.max_eq_right h]; exact hb
    · rw [Int.max_eq_left h]; exact ha
  have hk := k l D cA p e s m args below meth c bb H locs la hZ (fw_oc hm (fw_ot (fw_ot hO))) hY
  refine va_mmax hZ.1 hZ.2.1 (hZ.2.2.2.1.trans hY.2.2.2.2.2.1.symm) hZ.2.2.2.2.1 (ht _ hlk) (ht _ hw.1) (ht _ hw.2.1) (ht _ hw.2.2) hrm.1 (by rw [fw_cats]; exact hrm.2.1) hrm.2.2.1 hrm.2.2.2 hd ?_
  have e1 : (if Int32.ofInt a < Int32.ofInt b then Int32.ofInt b else Int32.ofInt a) = Int32.ofInt (max a b) := by
    by_cases h : a < b
    · rw [if_pos ((fw_lt ha hb).mpr h), Int.max_eq_right (by omega)]
    · rw [if_neg (fun q => h ((fw_lt ha hb).mp q)), Int.max_eq_left (by omega)]
  rw [e1]
  exact hk
theorem fw_min {y : fw_M} {K0 pc K sl : Nat} {ls : List (Option fw_V)} {st : List fw_V} {R M : fw_F} {L : fw_G} {Q : fw_Q} {idx : Nat} {a b : Int} (hd : decode (fw_mC y) pc = .ok (.invokestatic idx, 3)) (hlk : Cond.methodLink (fw_cn (fw_mO y)) idx Lib.Math.min.name ∈ fw_tbl) (hw : Cond.static Lib.Math.min.name ∈ fw_tbl ∧ Cond.initialized "java/lang/Math" ∈ fw_tbl ∧ Cond.code Lib.Math.min.name Lib.Math.min.code 2 (some .int) ∈ fw_tbl)
    (hrm : 1 ≤ fw_mF y ∧ (st.map fw_cat).sum + 13 ≤ fw_mX y ∧ K - K0 ≤ fw_mc y ∧ sl ≤ fw_ms y) (k : fw_WP y K0 (pc + 3) ls (fw_i (min a b) :: st) K sl R M L Q) : fw_WP y K0 pc ls (fw_i b :: fw_i a :: st) K sl R M L Q := by
  intro l D cA p e s m args below meth c bb H locs la hZ hO hY
  have hb : fw_ok b := fw_oh hO
  have ha : fw_ok a := fw_oh (fw_ot hO)
  have ht := hZ.2.2.2.2.2.1
  have hm : fw_ok (min a b) := by
    rcases Int.le_total a b with h | h
    · rw [Int.min_eq_left h]; exact ha
    · rw [Int.min_eq_right h]; exact hb
  have hk := k l D cA p e s m args below meth c bb H locs la hZ (fw_oc hm (fw_ot (fw_ot hO))) hY
  refine va_mmin hZ.1 hZ.2.1 (hZ.2.2.2.1.trans hY.2.2.2.2.2.1.symm) hZ.2.2.2.2.1 (ht _ hlk) (ht _ hw.1) (ht _ hw.2.1) (ht _ hw.2.2) hrm.1 (by rw [fw_cats]; exact hrm.2.1) hrm.2.2.1 hrm.2.2.2 hd ?_
  have e1 : (if Int32.ofInt b < Int32.ofInt a then Int32.ofInt b else Int32.ofInt a) = Int32.ofInt (min a b) := by
    by_cases h : b < a
    · rw [if_pos ((fw_lt hb ha).mpr h), Int.min_eq_right (by omega)]
    · rw [if_neg (fun q => h ((fw_lt hb ha).mp q)), Int.min_eq_left (by omega)]
  rw [e1]
  exact hk
theorem fw_abs {y : fw_M} {K0 pc K sl : Nat} {ls : List (Option fw_V)} {st : List fw_V} {R M : fw_F} {L : fw_G} {Q : fw_Q} {idx : Nat} {a : Int} (hd : decode (fw_mC y) pc = .ok (.invokestatic idx, 3)) (hlk : Cond.methodLink (fw_cn (fw_mO y)) idx Lib.Math.abs.name ∈ fw_tbl) (hw : Cond.static Lib.Math.abs.name ∈ fw_tbl ∧ Cond.initialized "java/lang/Math" ∈ fw_tbl ∧ Cond.code Lib.Math.abs.name Lib.Math.abs.code 1 (some .int) ∈ fw_tbl)
    (hrm : 1 ≤ fw_mF y ∧ (st.map fw_cat).sum + 13 ≤ fw_mX y ∧ K - K0 ≤ fw_mc y ∧ sl ≤ fw_ms y) (hr : -2147483648 < a) (k : fw_WP y K0 (pc + 3) ls (fw_i (if 0 ≤ a then a else -a) :: st) K sl R M L Q) : fw_WP y K0 pc ls (fw_i a :: st) K sl R M L Q := by
  intro l D cA p e s m args below meth c bb H locs la hZ hO hY
  have ha : fw_ok a := fw_oh hO
  have ht := hZ.2.2.2.2.2.1
  have hm : fw_ok (if 0 ≤ a then a else -a) := by
    split
    · exact ha
    · exact ⟨by have := ha.1; omega, by omega⟩
  have hk := k l D cA p e s m args below meth c bb H locs la hZ (fw_oc hm (fw_ot hO)) hY
  refine va_mabs hZ.1 hZ.2.1 (hZ.2.2.2.1.trans hY.2.2.2.2.2.1.symm) hZ.2.2.2.2.1 (ht _ hlk) (ht _ hw.1) (ht _ hw.2.1) (ht _ hw.2.2) hrm.1 (by rw [fw_cats]; exact hrm.2.1) hrm.2.2.1 hrm.2.2.2 hd ?_
  have e1 : (if 0 ≤ Int32.ofInt a then Int32.ofInt a else 0 - Int32.ofInt a) = Int32.ofInt (if 0 ≤ a then a else -a) := by
    rw [fw_zero]
    by_cases h : 0 ≤ a
    · rw [if_pos ((fw_le fw_ok0 ha).mpr h), if_pos h]
    · rw [if_neg (fun q => h ((fw_le fw_ok0 ha).mp q)), if_neg h, ← Int32.ofInt_sub]
      congr 1
      omega
  rw [e1]
  exact hk
