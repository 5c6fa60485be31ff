/-! returns -/
theorem fw_ret {y : fw_M} {D : va_G} {cA : Nat → ClassId} {b K0 K : Nat} {R M : fw_F} {L : fw_G} {Q : fw_Q} {ls : List (Option fw_V)} {s : State} {H : Heap} {locs : List Loc} {la : Array Slot} {args : Array Value} {r : Option fw_V} (hY : fw_Y y D cA b K0 K R M L ls s H locs la) (hK : K = K0 + fw_mc y) (hQ : Q r K R M L) (hr : ∀ v, r = some v → fw_okV v) : ∀ t : State, t.heap = H → s.WarmedH t.vm → fw_QC y D cA b K0 Q args s (.returned (r.map (fw_cv b))) t := by
  intro t ht _
  refine ⟨⟨r, K, R, M, L, rfl, hQ, hr, hY.2.1, hK, ?_, by rw [ht]; exact hY.2.2.1⟩, hY.2.2.2.2.1.F ht⟩
  rw [ht, hY.2.2.2.1.2]
  omega
theorem fw_ireturn {y : fw_M} {K0 pc K sl : Nat} {ls : List (Option fw_V)} {R M : fw_F} {L : fw_G} {Q : fw_Q} {v : Int} (hd : decode (fw_mC y) pc = .ok (.ireturn, 1)) (hT : fw_mT y = some .int) (hK : K = K0 + fw_mc y) (hs : sl = fw_ms y) (hQ : fw_ok v → Q (some (fw_i v)) K R M L) : fw_WP y K0 pc ls [fw_i v] K sl R M L Q := by
  intro l D cA p e s m args below meth c bb H locs la hZ hO hY
  have hlocks := hZ.2.2.2.2.2.2.1
  have h := W.iret (p := p) (l := l) (e := e) (R := fw_rm y) (s := s) (m := m) (below := below) (meth := meth) (c := c) (cells := K - K0) (slots := sl) (ls := la) (free := fw_A bb (fw_mW y)) (Qc := fw_QC y D cA bb K0 Q) (v := Int32.ofInt v) hZ.1 hZ.2.1 (hZ.2.2.1.trans hT) (fw_ret (args := args) (r := some (fw_i v)) hY hK (hQ (fw_oh hO)) (fun w hw => by cases hw; exact fw_oh hO)) hY.2.2.2.2.1.2.2 hd
  rw [show K - K0 = fw_mc y by omega] at h ⊢
  subst hs
  exact h
theorem fw_zreturn {y : fw_M} {K0 pc K sl : Nat} {ls : List (Option fw_V)} {R M : fw_F} {L : fw_G} {Q : fw_Q} {v : Int} (hd : decode (fw_mC y) pc = .ok (.ireturn, 1)) (hT : fw_mT y = some .boolean) (hv : v = 0 ∨ v = 1) (hK : K = K0 + fw_mc y) (hs : sl = fw_ms y) (hQ : Q (some (fw_i v)) K R M L) : fw_WP y K0 pc ls [fw_i v] K sl R M L Q := by
  intro l D cA p e s m args below meth c bb H locs la hZ hO hY
  have hlocks := hZ.2.2.2.2.2.2.1
  have h := W.zret (p := p) (l := l) (e := e) (R := fw_rm y) (s := s) (m := m) (below := below) (meth := meth) (c := c) (cells := K - K0) (slots := sl) (ls := la) (free := fw_A bb (fw_mW y)) (Qc := fw_QC y D cA bb K0 Q) (v := Int32.ofInt v) hZ.1 hZ.2.1 (hZ.2.2.1.trans hT) (by rcases hv with rfl | rfl <;> rfl) (fw_ret (args := args) (r := some (fw_i v)) hY hK hQ (fun w hw => by cases hw; exact fw_oh hO)) hY.2.2.2.2.1.2.2 hd
  rw [show K - K0 = fw_mc y by omega] at h ⊢
  subst hs
  exact h
theorem fw_lreturn {y : fw_M} {K0 pc K sl : Nat} {ls : List (Option fw_V)} {R M : fw_F} {L : fw_G} {Q : fw_Q} {v : Int64} (hd : decode (fw_mC y) pc = .ok (.lreturn, 1)) (hT : fw_mT y = some .long) (hK : K = K0 + fw_mc y) (hs : sl = fw_ms y) (hQ : Q (some (fw_l v)) K R M L) : fw_WP y K0 pc ls [fw_l v] K sl R M L Q := by
  intro l D cA p e s m args below meth c bb H locs la hZ hO hY
  have hlocks := hZ.2.2.2.2.2.2.1
  have h := W.lret (p := p) (l := l) (e := e) (R := fw_rm y) (s := s) (m := m) (below := below) (meth := meth) (c := c) (cells := K - K0) (slots := sl) (ls := la) (free := fw_A bb (fw_mW y)) (Qc := fw_QC y D cA bb K0 Q) (v := v) hZ.1 hZ.2.1 (hZ.2.2.1.trans hT) (fw_ret (args := args) (r := some (fw_l v)) hY hK hQ (fun w hw => by cases hw; exact fw_oh hO)) hY.2.2.2.2.1.2.2 hd
  rw [show K - K0 = fw_mc y by omega] at h ⊢
  subst hs
  exact h
theorem fw_areturn {y : fw_M} {K0 pc K sl : Nat} {ls : List (Option fw_V)} {R M : fw_F} {L : fw_G} {Q : fw_Q} {k : Int} {C : String} (hd : decode (fw_mC y) pc = .ok (.areturn, 1)) (hT : fw_mT y = some (.object C)) (hK : K = K0 + fw_mc y) (hs : sl = fw_ms y) (hQ : Q (some (fw_r k)) K R M L) : fw_WP y K0 pc ls [fw_r k] K sl R M L Q := by
  intro l D cA p e s m args below meth c bb H locs la hZ hO hY
  have hlocks := hZ.2.2.2.2.2.2.1
  have h := W.aret (p := p) (l := l) (e := e) (R := fw_rm y) (s := s) (m := m) (below := below) (meth := meth) (c := c) (cells := K - K0) (slots := sl) (ls := la) (free := fw_A bb (fw_mW y)) (Qc := fw_QC y D cA bb K0 Q) (v := .ref (bb + k.toNat)) hZ.1 hZ.2.1 (hZ.2.2.1.trans hT) (Or.inl ⟨C, rfl⟩) (Or.inr ⟨_, rfl⟩) (fw_ret (args := args) (r := some (fw_r k)) hY hK hQ (fun w hw => by cases hw; exact fw_okr)) hY.2.2.2.2.1.2.2 hd
  rw [show K - K0 = fw_mc y by omega] at h ⊢
  subst hs
  exact h
theorem fw_vreturn {y : fw_M} {K0 pc K sl : Nat} {ls : List (Option fw_V)} {R M : fw_F} {L : fw_G} {Q : fw_Q} (hd : decode (fw_mC y) pc = .ok (.return_, 1)) (hT : fw_mT y = none) (hK : K = K0 + fw_mc y) (hs : sl = fw_ms y) (hQ : Q none K R M L) : fw_WP y K0 pc ls [] K sl R M L Q := by
  intro l D cA p e s m args below meth c bb H locs la hZ hO hY
  have hlocks := hZ.2.2.2.2.2.2.1
  have h := W.vret (p := p) (l := l) (e := e) (R := fw_rm y) (s := s) (m := m) (below := below) (meth := meth) (c := c) (cells := K - K0) (slots := sl) (ls := la) (free := fw_A bb (fw_mW y)) (Qc := fw_QC y D cA bb K0 Q) hZ.1 hZ.2.1 (hZ.2.2.1.trans hT) (fw_ret (args := args) (r := none) hY hK hQ (fun w hw => by cases hw)) hY.2.2.2.2.1.2.2 hd
  rw [show K - K0 = fw_mc y by omega] at h ⊢
  subst hs
  exact h
/-! a method's contract out of the walk of its body -/
def fw_la : List fw_V → List (Option fw_V)
  | [] => []
  | .inr (.inl x) :: t => some (.inr (.inl x)) :: none :: fw_la t
  | .inl x :: t => some (.inl x) :: fw_la t
  | .inr (.inr x) :: t => some (.inr (.inr x)) :: fw_la t
theorem fw_la_args {b : Nat} : ∀ (As : List fw_V) (i : Nat), ∀ q ∈ fw_lc b i (fw_la As), q ∈ lv_args i (As.map (fw_cv b))
  | [], i, q, h => by simp [fw_la, fw_lc] at h
  | .inr (.inl x) :: t, i, q, h => by
    have h : q ∈ (i, Value.long x) :: fw_lc b (i + 1 + 1) (fw_la t) := h
    show q ∈ (i, Value.long x) :: lv_args (i + 2) (t.map (fw_cv b))
    rcases List.mem_cons.mp h with h | h
    · exact List.mem_cons.mpr (Or.inl h)
    · exact List.mem_cons_of_mem _ (fw_la_args t (i + 2) q h)
  | .inl x :: t, i, q, h => by
    have h : q ∈ (i, Value.int (Int32.ofInt x)) :: fw_lc b (i + 1) (fw_la t) := h
    show q ∈ (i, Value.int (Int32.ofInt x)) :: lv_args (i + 1) (t.map (fw_cv b))
    rcases List.mem_cons.mp h with h | h
    · exact List.mem_cons.mpr (Or.inl h)
    · exact List.mem_cons_of_mem _ (fw_la_args t (i + 1) q h)
  | .inr (.inr x) :: t, i, q, h => by
    have h : q ∈ (i, Value.ref (b + x.toNat)) :: fw_lc b (i + 1) (fw_la t) := h
    show q ∈ (i, Value.ref (b + x.toNat)) :: lv_args (i + 1) (t.map (fw_cv b))
    rcases List.mem_cons.mp h with h | h
    · exact List.mem_cons.mpr (Or.inl h)
    · exact List.mem_cons_of_mem _ (fw_la_args t (i + 1) q h)
theorem fw_la_ok : ∀ (As : List fw_V), (∀ v ∈ As, fw_okV v) → ∀ v, some v ∈ fw_la As → fw_okV v
  | [], _, v, h => by simp [fw_la] at h
  | .inr (.inl x) :: t, ho, v, h => by
    simp only [fw_la, List.mem_cons, Option.some.injEq] at h
    rcases h with h | h | h
    · subst h; exact True.intro
    · cases h
    · exact fw_la_ok t (fun v hv => ho v (List.mem_cons_of_mem _ hv)) v h
  | .inl x :: t, ho, v, h => by
    simp only [fw_la, List.mem_cons, Option.some.injEq] at h
    rcases h with h | h
    · subst h; exact ho _ List.mem_cons_self
    · exact fw_la_ok t (fun v hv => ho v (List.mem_cons_of_mem _ hv)) v h
  | .inr (.inr x) :: t, ho, v, h => by
    simp only [fw_la, List.mem_cons, Option.some.injEq] at h
    rcases h with h | h
    · subst h; exact True.intro
    · exact fw_la_ok t (fun v hv => ho v (List.mem_cons_of_mem _ hv)) v h
theorem fw_la_len {b : Nat} : ∀ (As : List fw_V), (lg_sl (As.map (fw_cv b))).length = (As.map fw_cat).sum
  | [] => rfl
  | .inr (.inl x) :: t => by
    show ([Slot.val (.long x), Slot.second] ++ lg_sl (t.map (fw_cv b))).length = _
    rw [List.length_append, fw_la_len t, List.map_cons, List.sum_cons]
    rfl
  | .inl x :: t => by
    show ([Slot.val (.int (Int32.ofInt x))] ++ lg_sl (t.map (fw_cv b))).length = _
    rw [List.length_append, fw_la_len t, List.map_cons, List.sum_cons]
    rfl
  | .inr (.inr x) :: t => by
    show ([Slot.val (.ref (b + x.toNat))] ++ lg_sl (t.map (fw_cv b))).length = _
    rw [List.length_append, fw_la_len t, List.map_cons, List.sum_cons]
    rfl
theorem fw_SP_of {y : fw_M} {As : List fw_V} {K0 : Nat} {R M : fw_F} {L : fw_G} {Q : fw_Q} {ls : List (Option fw_V)} (hy : plainName (fw_mN y).cls = true ∧ (fw_mN y).cls = fw_cn (fw_mO y)) (hl : fw_la As = ls) (hm : (As.map fw_cat).sum ≤ fw_mL y) (k : (∀ v ∈ As, fw_okV v) → (∀ k j, fw_ok (M k j)) → fw_WP y K0 0 ls [] K0 0 R M L Q) : fw_SP y As K0 R M L Q := by
  subst hl
  intro hA hM l D cA b
  refine Met.ofW (cc := fw_mC y) (maxL := fw_mL y) (ret := fw_mT y) hy.1 rfl ?_
  intro p e s m args below meth c s₁ B hml hv
  obtain ⟨rfl, hW, hK, hb1, hb2⟩ := hv
  have hts := atoms_spec (ws := fw_ws y) B.pre
  rw [lg_entry_eq]
  have hl := lv_entry (As.map (fw_cv b)) (n := fw_mL y) (by rw [fw_la_len]; exact hm)
  have hcn := findClass_of_methodNamed B.named
  rw [hy.2] at hcn
  have h := k hA hM l D cA p e s m _ below meth c b s.heap [] _ ⟨B.exec, B.bytes, B.returns, hml, hcn, fun w hw => hts w (List.mem_cons_of_mem _ hw), B.notSynchronized, (name_of_methodNamed B.named B.method).1, hK, hb1, hb2⟩ (fun v hv => by cases hv)
    ⟨fw_la_ok As hA, hM, hW, ⟨Nat.le_refl _, by omega⟩, va_S.rf, fw_has_sub hl (fw_la_args As 0)⟩
  rw [Nat.sub_self] at h
  exact h
/-! calls -/
/-- what the tables say of a method -/
def fw_mw (j : fw_M) (n : Nat) : Prop := Cond.code (fw_mN j) (fw_mC j) (fw_mL j) (fw_mT j) ∈ fw_tbl ∧ Cond.initialized (fw_mN j).cls ∈ fw_tbl ∧ ((fw_mN j).cls ≠ "java/lang/invoke/MethodHandle" ∧ (fw_mN j).cls ≠ "java/lang/invoke/VarHandle" ∧ (parseMethodDescriptor (fw_mN j).desc).map (fun d => d.parameters.length) = some n) ∧ (fw_mN j).cls = fw_cn (fw_mO j)
theorem fw_good {j : fw_M} {n : Nat} (h : fw_mw j n) : GoodIn fw_tbl (fw_ws j) := fun w hw => by
  rcases List.mem_cons.mp hw with rfl | hw
  · exact ⟨h.1, good_of_word (fw_tbl_good h.1)⟩
  · exact ⟨hw, good_of_word (fw_tbl_good hw)⟩
theorem fw_cats {b : Nat} (st : List fw_V) : ((st.map (fw_cv b)).map fun v => v.category).sum = (st.map fw_cat).sum := by
  rw [List.map_map]
  congr 1
  exact List.map_congr_left fun v _ => fw_cv_cat b v
/-- behind a call -/
theorem fw_back {y j : fw_M} {K0 pc K sl : Nat} {ls : List (Option fw_V)} {st rest : List fw_V} {R M : fw_F} {L : fw_G} {Q Qc : fw_Q} {a : Array Value}
    (hw : fw_mW j = fw_mW y) (kk : ∀ (r : Option fw_V) (R' M' : fw_F) (L' : fw_G), Qc r (K + fw_mc j) R' M' L' → (∀ v, r = some v → fw_okV v) → (∀ k j, fw_ok (M' k j)) → fw_WP y K0 (pc + 3) ls (r.toList ++ rest) (K + fw_mc j) (sl + fw_ms j) R' M' L' Q)
    {l : Launch} {D : va_G} {cA : Nat → ClassId} {p : Program} {e : Env} {s : State} {m : MethodId} {args : Array Value} {below : List Frame} {meth : Method} {c : Code} {bb : Nat} {H : Heap} {locs : List Loc} {la : Array Slot}
    (hZ : fw_Z y D cA p s m args meth c bb K0) (hO : ∀ v ∈ rest, fw_okV v) (hY : fw_Y y D cA bb K0 K R M L ls s H locs la)
    (hr : va_Run p l e (fw_rm y) s m args below meth c H locs (K - K0) sl (fw_mc j) (fw_ms j) (F0 m pc la (st.map (fw_cv bb))) (rest.map (fw_cv bb)) (fw_QC j D cA bb K Qc a) (fw_A bb (fw_mW j))) :
    W p l e (fw_rm y) s m args below meth c H locs (K - K0) sl (MQ below (fw_QC y D cA bb K0 Q) args s (fw_mc y) (fw_ms y) (fw_A bb (fw_mW y))) (F0 m pc la (st.map (fw_cv bb))) := by
  intro T hT X
  obtain ⟨v, st₀, t, T', L1, h0, X', hL, e1, e2, ⟨⟨r, K', R', M', L', hv, hq, hrok, hMok, hK', hsz, hW⟩, hF⟩, st2⟩ := hr T hT X
  have hv : v = r.map (fw_cv bb) := by injection hv
  subst hv
  subst hK'
  rw [hw] at hW hF hL
  have hk := kk r R' M' L' hq hrok hMok l D cA p e s m args below meth c bb t.heap (locs ++ L1) la hZ (fun v hv => by
      rcases List.mem_append.mp hv with h | h
      · exact hrok v (by simpa using h)
      · exact hO v h)
    ⟨hY.1, hMok, hW, ⟨by have := hY.2.2.2.1.1; omega, by rw [hsz, h0, hY.2.2.2.1.2]; have := hY.2.2.2.1.1; omega⟩, ⟨?_, ?_, ?_⟩, hY.2.2.2.2.2⟩
  · rw [show K + fw_mc j - K0 = K - K0 + fw_mc j by have := hY.2.2.2.1.1; omega] at hk
    obtain ⟨tt, a1, b1⟩ := hk T' e1 X'
    refine ⟨tt, st2 tt ?_, b1⟩
    rw [List.map_append] at a1
    have hg : (r.toList.map (fw_cv bb)) = (r.map (fw_cv bb)).toList := by cases r <;> rfl
    rw [hg] at a1
    exact a1
  · exact Nat.le_trans hY.2.2.2.2.1.1 (by rw [← h0]; exact hF.1)
  · intro q h1 h2
    rw [hF.2 q (by rw [h0]; exact Nat.lt_of_lt_of_le h1 hY.2.2.2.2.1.1) h2, h0]
    exact hY.2.2.2.2.1.2.1 q h1 h2
  · intro q hq'
    rcases List.mem_append.mp hq' with h | h
    · exact hY.2.2.2.2.1.2.2 q h
    · exact hL q h
theorem fw_pre {y j : fw_M} {K0 K : Nat} {ls : List (Option fw_V)} {R M : fw_F} {L : fw_G} {As : List fw_V}
    (hw : fw_mW j = fw_mW y) (hz : 0 < fw_mc j → 0 < fw_mc y)
    {D : va_G} {cA : Nat → ClassId} {p : Program} {s : State} {m : MethodId} {args : Array Value} {meth : Method} {c : Code} {bb : Nat} {H : Heap} {locs : List Loc} {la : Array Slot}
    (hZ : fw_Z y D cA p s m args meth c bb K0) (hY : fw_Y y D cA bb K0 K R M L ls s H locs la) : PreS s H (fw_PC j D cA bb K R M L As) (As.map (fw_cv bb)) := by
  refine ⟨fw_blind, fun U hU hWm => ⟨rfl, by rw [hU, hw]; exact hY.2.2.1, hZ.2.2.2.2.2.2.2.2.1.moved hWm, ?_, fun h => ?_⟩⟩
  · rw [hU, hY.2.2.2.1.2]
    have h1 := hZ.2.2.2.2.2.2.2.2.2.1
    have := hY.2.2.2.1.1
    omega
  · rw [hU, hY.2.2.2.1.2]
    have h1 := hZ.2.2.2.2.2.2.2.2.2.2 (hz h)
    have := hY.2.2.2.1.1
    omega
theorem fw_callV {y : fw_M} {K0 pc K sl : Nat} {ls : List (Option fw_V)} {st rest : List fw_V} {R M : fw_F} {L : fw_G} {Q Qc : fw_Q} {idx n : Nat} {k : Int} (j : fw_M) (As : List fw_V) (hd : decode (fw_mC y) pc = .ok (.invokevirtual idx, 3)) (hj : fw_mw j n) (hj2 : Cond.instanceMethod (fw_mN j) ∈ fw_tbl ∧ Cond.selects (fw_cn (fw_mO j)) (fw_mN j) (fw_mN j) ∈ fw_tbl)
    (hlk : Cond.methodLink (fw_cn (fw_mO y)) idx (fw_mN j) ∈ fw_tbl) (hrm : fw_mF j + 1 ≤ fw_mF y ∧ 8 + (fw_mL j + 11) + fw_mX j ≤ fw_mX y) (hw : fw_mW j = fw_mW y) (hz : 0 < fw_mc j → 0 < fw_mc y) (hlay : fw_lay (fw_mW y) k = (fw_mO j, (fw_lay (fw_mW y) k).2) ∧ fw_mO j < 10) (hcl : ∃ T N ty, fw_cls (fw_mO j) (fw_cn (fw_mO j)) T N ty) (hk : 0 ≤ k ∧ k < K)
    (hst : st = As.reverse ++ fw_r k :: rest) (hn : As.length = n) (hcat : (rest.map fw_cat).sum ≤ 8) (hroom : K - K0 + fw_mc j ≤ fw_mc y ∧ sl + fw_ms j ≤ fw_ms y) (hS : fw_SP j (fw_r k :: As) K R M L Qc)
    (kk : ∀ (r : Option fw_V) (R' M' : fw_F) (L' : fw_G), Qc r (K + fw_mc j) R' M' L' → (∀ v, r = some v → fw_okV v) → (∀ k j, fw_ok (M' k j)) → fw_WP y K0 (pc + 3) ls (r.toList ++ rest) (K + fw_mc j) (sl + fw_ms j) R' M' L' Q) : fw_WP y K0 pc ls st K sl R M L Q := by
  subst hst
  intro l D cA p e s m args below meth c bb H locs la hZ hO hY
  have hO1 : ∀ v ∈ rest, fw_okV v := fun v hv => hO v (List.mem_append_right _ (List.mem_cons_of_mem _ hv))
  have hO2 : ∀ v ∈ fw_r k :: As, fw_okV v := fun v hv => by
    rcases List.mem_cons.mp hv with rfl | hv
    · exact fw_okr
    · exact hO v (List.mem_append_left _ (List.mem_reverse.mpr hv))
  have hM := hS hO2 hY.2.1 l D cA bb
  obtain ⟨hkn, hke⟩ := fw_nat hk
  obtain ⟨T, N, ty, hcl⟩ := hcl
  have hcell := (hY.2.2.1 k.toNat hkn).1
  rw [hke, hlay.1] at hcell
  obtain ⟨cell, q1, q2, q3, q4⟩ := hcell hlay.2
  have hKn := hZ.2.2.2.2.2.2.2.2.1.1.1 (fw_mO j) _ hcl.1
  have hp := fw_pre (As := fw_r k :: As) hw hz hZ hY
  have ht := hZ.2.2.2.2.2.1
  refine fw_back (rest := rest) hw kk hZ hO1 hY (va_runV (rest := rest.map (fw_cv bb)) (As := As.map (fw_cv bb)) (b := bb + k.toNat) (C := fw_cn (fw_mO j)) (index := idx) (n := n) (bytes := fw_mC j) (maxL := fw_mL j) (ret := fw_mT j) (nL := fw_mL y) (cc := fw_mC y) (Ts := fw_tbl) (own := fw_cn (fw_mO y)) ⟨hZ.1, hZ.2.1, hZ.2.2.2.1, hZ.2.2.2.2.1, ht⟩ hM ⟨callB_of n ht (fw_good hj) rfl rfl rfl (ht _ hj.2.1) (ht _ hlk) hj.2.2.1 hrm, ht _ hj2.1, ht _ hj2.2⟩ ⟨hp.1, ⟨cell, q1, by rw [q3]; rfl, by rw [q2]; exact hKn.2.1⟩, hp.2⟩ rfl (by simpa using hn) hY.2.2.2.2.2.1 ?_ (lv_room (by rw [fw_cats]; exact hcat)) hd hroom)
  show (As.reverse ++ fw_r k :: rest).map (fw_cv bb) = (As.map (fw_cv bb)).reverse ++ .ref (bb + k.toNat) :: rest.map (fw_cv bb)
  simp [fw_cv]
theorem fw_callS {y : fw_M} {K0 pc K sl : Nat} {ls : List (Option fw_V)} {st rest : List fw_V} {R M : fw_F} {L : fw_G} {Q Qc : fw_Q} {idx n : Nat} (j : fw_M) (As : List fw_V) (hd : decode (fw_mC y) pc = .ok (.invokestatic idx, 3)) (hj : fw_mw j n) (hj2 : Cond.static (fw_mN j) ∈ fw_tbl)
    (hlk : Cond.methodLink (fw_cn (fw_mO y)) idx (fw_mN j) ∈ fw_tbl) (hrm : fw_mF j + 1 ≤ fw_mF y ∧ 8 + (fw_mL j + 11) + fw_mX j ≤ fw_mX y) (hw : fw_mW j = fw_mW y) (hz : 0 < fw_mc j → 0 < fw_mc y)
    (hst : st = As.reverse ++ rest) (hn : As.length = n) (hcat : (rest.map fw_cat).sum ≤ 8) (hroom : K - K0 + fw_mc j ≤ fw_mc y ∧ sl + fw_ms j ≤ fw_ms y) (hS : fw_SP j As K R M L Qc)
    (kk : ∀ (r : Option fw_V) (R' M' : fw_F) (L' : fw_G), Qc r (K + fw_mc j) R' M' L' → (∀ v, r = some v → fw_okV v) → (∀ k j, fw_ok (M' k j)) → fw_WP y K0 (pc + 3) ls (r.toList ++ rest) (K + fw_mc j) (sl + fw_ms j) R' M' L' Q) : fw_WP y K0 pc ls st K sl R M L Q := by
  subst hst
  intro l D cA p e s m args below meth c bb H locs la hZ hO hY
  have hO1 : ∀ v ∈ rest, fw_okV v := fun v hv => hO v (List.mem_append_right _ hv)
  have hO2 : ∀ v ∈ As, fw_okV v := fun v hv => hO v (List.mem_append_left _ (List.mem_reverse.mpr hv))
  have hM := hS hO2 hY.2.1 l D cA bb
  have hp := fw_pre (As := As) hw hz hZ hY
  have ht := hZ.2.2.2.2.2.1
  refine fw_back (rest := rest) hw kk hZ hO1 hY (va_runS (rest := rest.map (fw_cv bb)) (As := As.map (fw_cv bb)) (index := idx) (n := n) (bytes := fw_mC j) (maxL := fw_mL j) (ret := fw_mT j) (nL := fw_mL y) (cc := fw_mC y) (Ts := fw_tbl) (own := fw_cn (fw_mO y)) ⟨hZ.1, hZ.2.1, hZ.2.2.2.1, hZ.2.2.2.2.1, ht⟩ hM ⟨callB_of n ht (fw_good hj) rfl rfl rfl (ht _ hj.2.1) (ht _ hlk) hj.2.2.1 hrm, ht _ hj2⟩ hp rfl (by simpa using hn) hY.2.2.2.2.2.1 ?_ (lv_room (by rw [fw_cats]; exact hcat)) hd hroom)
  show (As.reverse ++ rest).map (fw_cv bb) = (As.map (fw_cv bb)).reverse ++ rest.map (fw_cv bb)
  simp
theorem fw_callSN {y : fw_M} {K0 pc K sl : Nat} {ls : List (Option fw_V)} {st rest : List fw_V} {R M : fw_F} {L : fw_G} {Q Qc : fw_Q} {idx n : Nat} (j : fw_M) (As : List fw_V) (hd : decode (fw_mC y) pc = .ok (.invokestatic idx, 3)) (hj : fw_mw j n) (hj2 : Cond.static (fw_mN j) ∈ fw_tbl)
    (hlk : ∀ s, fw_nest s → va_Nw (.methodLinkNest (fw_cn (fw_mO y)) idx (fw_mN j) "FolderRows") s) (hrm : fw_mF j + 1 ≤ fw_mF y ∧ 8 + (fw_mL j + 11) + fw_mX j ≤ fw_mX y) (hw : fw_mW j = fw_mW y) (hz : 0 < fw_mc j → 0 < fw_mc y)
    (hst : st = As.reverse ++ rest) (hn : As.length = n) (hcat : (rest.map fw_cat).sum ≤ 8) (hroom : K - K0 + fw_mc j ≤ fw_mc y ∧ sl + fw_ms j ≤ fw_ms y) (hS : fw_SP j As K R M L Qc)
    (kk : ∀ (r : Option fw_V) (R' M' : fw_F) (L' : fw_G), Qc r (K + fw_mc j) R' M' L' → (∀ v, r = some v → fw_okV v) → (∀ k j, fw_ok (M' k j)) → fw_WP y K0 (pc + 3) ls (r.toList ++ rest) (K + fw_mc j) (sl + fw_ms j) R' M' L' Q) : fw_WP y K0 pc ls st K sl R M L Q := by
  subst hst
  intro l D cA p e s m args below meth c bb H locs la hZ hO hY
  have hO1 : ∀ v ∈ rest, fw_okV v := fun v hv => hO v (List.mem_append_right _ hv)
  have hO2 : ∀ v ∈ As, fw_okV v := fun v hv => hO v (List.mem_append_left _ (List.mem_reverse.mpr hv))
  have hM := hS hO2 hY.2.1 l D cA bb
  have hp := fw_pre (As := As) hw hz hZ hY
  have ht := hZ.2.2.2.2.2.1
  refine fw_back (rest := rest) hw kk hZ hO1 hY (va_runSN (rest := rest.map (fw_cv bb)) (As := As.map (fw_cv bb)) (index := idx) (n := n) (bytes := fw_mC j) (maxL := fw_mL j) (ret := fw_mT j) (nL := fw_mL y) (cc := fw_mC y) (Ts := fw_tbl) (own := fw_cn (fw_mO y)) (host := "FolderRows") ⟨hZ.1, hZ.2.1, hZ.2.2.2.1, hZ.2.2.2.2.1, ht⟩ hM ⟨va_cnB n ht (fw_good hj) rfl rfl rfl (hlk s hZ.2.2.2.2.2.2.2.2.1.2.1) (ht _ hj.2.1) hj.2.2.1 hrm, ht _ hj2, True.intro⟩ hp rfl (by simpa using hn) hY.2.2.2.2.2.1 ?_ (lv_room (by rw [fw_cats]; exact hcat)) hd hroom)
  show (As.reverse ++ rest).map (fw_cv bb) = (As.map (fw_cv bb)).reverse ++ rest.map (fw_cv bb)
  simp
theorem fw_callI {y : fw_M} {K0 pc K sl : Nat} {ls : List (Option fw_V)} {st rest : List fw_V} {R M : fw_F} {L : fw_G} {Q Qc : fw_Q} {idx n : Nat} {k : Int} (j : fw_M) (As : List fw_V) (hd : decode (fw_mC y) pc = .ok (.invokespecial idx, 3)) (hj : fw_mw j n) (hj2 : (fw_mN j).name = "<init>" ∧ fw_mT j = none ∧ Cond.instanceMethod (fw_mN j) ∈ fw_tbl)
    (hlk : Cond.methodLink (fw_cn (fw_mO y)) idx (fw_mN j) ∈ fw_tbl) (hrm : fw_mF j + 1 ≤ fw_mF y ∧ 8 + (fw_mL j + 11) + fw_mX j ≤ fw_mX y) (hw : fw_mW j = fw_mW y) (hz : 0 < fw_mc j → 0 < fw_mc y)
    (hst : st = As.reverse ++ fw_r k :: rest) (hn : As.length = n) (hcat : (rest.map fw_cat).sum ≤ 8) (hroom : K - K0 + fw_mc j ≤ fw_mc y ∧ sl + fw_ms j ≤ fw_ms y) (hS : fw_SP j (fw_r k :: As) K R M L Qc)
    (kk : ∀ (r : Option fw_V) (R' M' : fw_F) (L' : fw_G), Qc r (K + fw_mc j) R' M' L' → (∀ v, r = some v → fw_okV v) → (∀ k j, fw_ok (M' k j)) → fw_WP y K0 (pc + 3) ls (r.toList ++ rest) (K + fw_mc j) (sl + fw_ms j) R' M' L' Q) : fw_WP y K0 pc ls st K sl R M L Q := by
  subst hst
  intro l D cA p e s m args below meth c bb H locs la hZ hO hY
  have hO1 : ∀ v ∈ rest, fw_okV v := fun v hv => hO v (List.mem_append_right _ (List.mem_cons_of_mem _ hv))
  have hO2 : ∀ v ∈ fw_r k :: As, fw_okV v := fun v hv => by
    rcases List.mem_cons.mp hv with rfl | hv
    · exact fw_okr
    · exact hO v (List.mem_append_left _ (List.mem_reverse.mpr hv))
  have hM := hS hO2 hY.2.1 l D cA bb
  have hp := fw_pre (As := fw_r k :: As) hw hz hZ hY
  have ht := hZ.2.2.2.2.2.1
  refine fw_back (rest := rest) hw kk hZ hO1 hY (va_runI (rest := rest.map (fw_cv bb)) (As := As.map (fw_cv bb)) (b := bb + k.toNat) (index := idx) (n := n) (bytes := fw_mC j) (maxL := fw_mL j) (nL := fw_mL y) (cc := fw_mC y) (Ts := fw_tbl) (own := fw_cn (fw_mO y)) ⟨hZ.1, hZ.2.1, hZ.2.2.2.1, hZ.2.2.2.2.1, ht⟩ hM ⟨callB_of (ws' := fw_tbl) n ht (fw_good hj) (by unfold fw_ws; rw [hj2.2.1]) rfl rfl (ht _ hj.2.1) (ht _ hlk) hj.2.2.1 hrm, hj2.1, ht _ hj2.2.2⟩ hp rfl (by simpa using hn) hY.2.2.2.2.2.1 ?_ (lv_room (by rw [fw_cats]; exact hcat)) hd hroom)
  show (As.reverse ++ fw_r k :: rest).map (fw_cv bb) = (As.map (fw_cv bb)).reverse ++ .ref (bb + k.toNat) :: rest.map (fw_cv bb)
  simp [fw_cv]
theorem fw_callIN {y : fw_M} {K0 pc K sl : Nat} {ls : List (Option fw_V)} {st rest : List fw_V} {R M : fw_F} {L : fw_G} {Q Qc : fw_Q} {idx n : Nat} {k : Int} (j : fw_M) (As : List fw_V) (hd : decode (fw_mC y) pc = .ok (.invokespecial idx, 3)) (hj : fw_mw j n) (hj2 : (fw_mN j).name = "<init>" ∧ fw_mT j = none ∧ Cond.instanceMethod (fw_mN j) ∈ fw_tbl)
    (hlk : ∀ s, fw_nest s → va_Nw (.methodLinkNest (fw_cn (fw_mO y)) idx (fw_mN j) "FolderRows") s) (hrm : fw_mF j + 1 ≤ fw_mF y ∧ 8 + (fw_mL j + 11) + fw_mX j ≤ fw_mX y) (hw : fw_mW j = fw_mW y) (hz : 0 < fw_mc j → 0 < fw_mc y)
    (hst : st = As.reverse ++ fw_r k :: rest) (hn : As.length = n) (hcat : (rest.map fw_cat).sum ≤ 8) (hroom : K - K0 + fw_mc j ≤ fw_mc y ∧ sl + fw_ms j ≤ fw_ms y) (hS : fw_SP j (fw_r k :: As) K R M L Qc)
    (kk : ∀ (r : Option fw_V) (R' M' : fw_F) (L' : fw_G), Qc r (K + fw_mc j) R' M' L' → (∀ v, r = some v → fw_okV v) → (∀ k j, fw_ok (M' k j)) → fw_WP y K0 (pc + 3) ls (r.toList ++ rest) (K + fw_mc j) (sl + fw_ms j) R' M' L' Q) : fw_WP y K0 pc ls st K sl R M L Q := by
  subst hst
  intro l D cA p e s m args below meth c bb H locs la hZ hO hY
  have hO1 : ∀ v ∈ rest, fw_okV v := fun v hv => hO v (List.mem_append_right _ (List.mem_cons_of_mem _ hv))
  have hO2 : ∀ v ∈ fw_r k :: As, fw_okV v := fun v hv => by
    rcases List.mem_cons.mp hv with rfl | hv
    · exact fw_okr
    · exact hO v (List.mem_append_left _ (List.mem_reverse.mpr hv))
  have hM := hS hO2 hY.2.1 l D cA bb
  have hp := fw_pre (As := fw_r k :: As) hw hz hZ hY
  have ht := hZ.2.2.2.2.2.1
  refine fw_back (rest := rest) hw kk hZ hO1 hY (va_runIN (rest := rest.map (fw_cv bb)) (As := As.map (fw_cv bb)) (b := bb + k.toNat) (index := idx) (n := n) (bytes := fw_mC j) (maxL := fw_mL j) (nL := fw_mL y) (cc := fw_mC y) (Ts := fw_tbl) (own := fw_cn (fw_mO y)) (host := "FolderRows") ⟨hZ.1, hZ.2.1, hZ.2.2.2.1, hZ.2.2.2.2.1, ht⟩ hM ⟨va_cnB (ws' := fw_tbl) n ht (fw_good hj) (by unfold fw_ws; rw [hj2.2.1]) rfl rfl (hlk s hZ.2.2.2.2.2.2.2.2.1.2.1) (ht _ hj.2.1) hj.2.2.1 hrm, hj2.1, ht _ hj2.2.2⟩ hp rfl (by simpa using hn) hY.2.2.2.2.2.1 ?_ (lv_room (by rw [fw_cats]; exact hcat)) hd hroom)
  show (As.reverse ++ fw_r k :: rest).map (fw_cv bb) = (As.map (fw_cv bb)).reverse ++ .ref (bb + k.toNat) :: rest.map (fw_cv bb)
  simp [fw_cv]
