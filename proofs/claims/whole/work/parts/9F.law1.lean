theorem lw_cl {p : Program} {l : Launch} {e : Env} {s : State} {m : MethodId} {args : Array Value} {below : List Frame} {meth : Method} {c : Code} {H : Heap} {locs : List Loc} {cells slots : Nat} {Z : State → Prop} {la : Array Slot} {pc : Nat} {D : va_G} {cA : Nat → ClassId} {bb K : Nat} {R M : fw_F} {L : fw_G} {post : fw_P} {idx n N : Nat} {rest : List Value} (j : fw_M) (As : List fw_V)
    (S : CallFix p m c code 4 s args fw_tbl R_law) (hKK : fw_KK D cA s) (hd : decode code pc = .ok (.invokevirtual idx, 3)) (hv : fw_mv j n) (hlk : Cond.methodLink R_law idx (fw_mN j) ∈ fw_tbl) (hrm : fw_mF j + 1 ≤ 9 ∧ 8 + (fw_mL j + 11) + fw_mX j ≤ 344) (h0 : fw_mc j = 0 ∧ fw_ms j = 0) (hlay : fw_lay (fw_mW j) 0 = (fw_mO j, N)) (hKp : 0 < K) (hAs : ∀ v ∈ As, fw_okV v) (hMo : ∀ k j, fw_ok (M k j)) (hW : fw_Wd D cA bb (fw_mW j) K R M L H) (hsz : bb + K ≤ H.size) (hroom : cells ≤ 600000 ∧ slots ≤ 7302249) (hn : As.length = n) (hcat : (rest.map fun v => v.category).sum ≤ 8) (hla : la.size = 4) (hS : fw_SP j (fw_r 0 :: As) K R M L (fw_q post K R))
    (kk : ∀ (r : Option fw_V) (M2 : fw_F) (L2 : fw_G) (H2 : Heap) (locs2 : List Loc), post r M2 L2 → (∀ v, r = some v → fw_okV v) → (∀ k j, fw_ok (M2 k j)) → fw_Wd D cA bb (fw_mW j) K R M2 L2 H2 → H2.size = H.size → (∀ q, q < H.size → ¬ fw_A bb (fw_mW j) q → H2[q]? = H[q]?) → (∀ q ∈ locs2, q ∈ locs ∨ fw_A bb (fw_mW j) q.base) → W p l e room_1 s m args below meth c H2 locs2 cells slots Z (F0 m (pc + 3) la ((r.map (fw_cv bb)).toList ++ rest))) : W p l e room_1 s m args below meth c H locs cells slots Z (F0 m pc la ((As.map (fw_cv bb)).reverse ++ .ref bb :: rest)) := by
  have hO2 : ∀ v ∈ fw_r 0 :: As, fw_okV v := fun v hv => by
    rcases List.mem_cons.mp hv with rfl | hv
    · exact fw_okr
    · exact hAs v hv
  have hM := hS hO2 hMo l D cA bb
  obtain ⟨T, N9, ty, hcl⟩ := hv.2.2.1
  have hcell := (hW 0 hKp).1
  rw [show ((0 : Nat) : Int) = 0 from rfl, hlay] at hcell
  obtain ⟨cell, q1, q2, q3, q4⟩ := hcell hv.2.2.2
  have hKn := hKK.1.1 (fw_mO j) _ hcl.1
  have ht := S.2.2.2.2
  have hp : PreS s H (fw_PC j D cA bb K R M L (fw_r 0 :: As)) ((fw_r 0 :: As).map (fw_cv bb)) := ⟨fw_blind, fun U hU hWm => ⟨rfl, by rw [hU]; exact hW, hKK.moved hWm, by rw [hU]; exact hsz, fun h => by omega⟩⟩
  have hrun : va_Run p l e room_1 s m args below meth c H locs cells slots (fw_mc j) (fw_ms j) (F0 m pc la ((As.map (fw_cv bb)).reverse ++ .ref bb :: rest)) rest (fw_QC j D cA bb K (fw_q post K R) (Value.ref bb :: As.map (fw_cv bb)).toArray) (fw_A bb (fw_mW j)) := va_runV (rest := rest) (As := As.map (fw_cv bb)) (b := bb) (C := fw_cn (fw_mO j)) (index := idx) (n := n) (bytes := fw_mC j) (maxL := fw_mL j) (ret := fw_mT j) (nL := 4) (cc := code) (Ts := fw_tbl) (own := R_law) S hM ⟨callB_of n ht (fw_good hv.1) rfl rfl rfl (ht _ hv.1.2.1) (ht _ hlk) hv.1.2.2.1 hrm, ht _ hv.2.1.1, ht _ hv.2.1.2⟩ ⟨hp.1, ⟨cell, q1, by rw [q3]; rfl, by rw [q2]; exact hKn.2.1⟩, hp.2⟩ rfl (by simpa using hn) hla rfl (lv_room hcat) hd ⟨by rw [h0.1]; exact hroom.1, by rw [h0.2]; exact hroom.2⟩
  intro T hT X
  obtain ⟨v, st₀, t, T', L1, g0, X', hL, e1, e2, ⟨⟨r, K', R', M', L', hv, ⟨hq1, hq2, hq⟩, hrok, hMok, hK', hsz2, hW2⟩, hF⟩, st2⟩ := hrun T hT X
  have hv : v = r.map (fw_cv bb) := by injection hv
  subst hv
  subst hq1
  subst hq2
  rw [h0.1, h0.2] at X'
  rw [h0.1, g0] at hsz2
  obtain ⟨tt, a1, b1⟩ := kk r M' L' t.heap (locs ++ L1) hq hrok hMok hW2 hsz2 (fun q h1 h2 => by rw [hF.2 q (by rw [g0]; exact h1) h2, g0]) (fun q hq' => by
    rcases List.mem_append.mp hq' with h | h
    · exact Or.inl h
    · exact Or.inr (hL q h)) T' e1 X'
  exact ⟨tt, st2 tt a1, b1⟩

def lw_I (D : va_G) (cA : Nat → ClassId) (s : State) (H : Heap) (locs : List Loc) (M : fw_F) (L : fw_G) (N : fw_F) (K : fw_G) : Prop := fw_KK D cA s ∧ (∀ k j, fw_ok (M k j)) ∧ (∀ k j, fw_ok (N k j)) ∧ fw_Wd D cA s.heap.size 0 203 fw_RC M L H ∧ fw_Wd D cA (s.heap.size + 203) 1 30 fw_RD N K H ∧ H.size = s.heap.size + 233 ∧ va_S (fun q : Nat => s.heap.size ≤ q) s.heap H locs
theorem lw_Wd_kept {D : va_G} {cA : Nat → ClassId} {b w K : Nat} {R M : fw_F} {L : fw_G} {H H1 : Heap} (h : fw_Wd D cA b w K R M L H) (o1 : ∀ k, k < K → H1[b + k]? = H[b + k]?) : fw_Wd D cA b w K R M L H1 := fun k hk => fw_cell_kept (h k hk) (o1 k hk) (fun j => ⟨rfl, rfl, rfl⟩)
theorem lw_fix {p : Program} {s : State} {m : MethodId} {meth : Method} {c : Code} {b L : Nat} {xs : Nat → Int32} (C0 : lw_At p s m meth c b L xs) : CallFix p m c code 4 s #[Value.ref b] fw_tbl R_law := ⟨C0.1, C0.2.1, C0.2.2.2.1, C0.2.2.2.2.1, fun w hw => C0.2.2.2.2.2.1 w (fw_tbl_in hw)⟩
theorem lw_cC {p : Program} {l : Launch} {e : Env} {s : State} {m : MethodId} {below : List Frame} {meth : Method} {c : Code} {H : Heap} {locs : List Loc} {cells slots : Nat} {Z : State → Prop} {la : Array Slot} {pc : Nat} {D : va_G} {cA : Nat → ClassId} {M N : fw_F} {L K : fw_G} {post : fw_P} {idx n : Nat} {rest : List Value} {b Lx : Nat} {xs : Nat → Int32} (j : fw_M) (As : List fw_V)
    (C0 : lw_At p s m meth c b Lx xs) (hI : lw_I D cA s H locs M L N K) (hd : decode code pc = .ok (.invokevirtual idx, 3)) (hv : fw_mv j n) (hlk : Cond.methodLink R_law idx (fw_mN j) ∈ fw_tbl) (hrm : fw_mF j + 1 ≤ 9 ∧ 8 + (fw_mL j + 11) + fw_mX j ≤ 344) (h0 : fw_mc j = 0 ∧ fw_ms j = 0 ∧ fw_mO j = 5 ∧ fw_mW j = 0) (hAs : ∀ v ∈ As, fw_okV v) (hroom : cells ≤ 600000 ∧ slots ≤ 7302249) (hn : As.length = n) (hcat : (rest.map fun v => v.category).sum ≤ 8) (hla : la.size = 4) (hS : fw_SC j (fw_r 0 :: As) M L post)
    (kk : ∀ (r : Option fw_V) (M2 : fw_F) (L2 : fw_G) (H2 : Heap) (locs2 : List Loc), post r M2 L2 → lw_I D cA s H2 locs2 M2 L2 N K → W p l e room_1 s m #[Value.ref b] below meth c H2 locs2 cells slots Z (F0 m (pc + 3) la ((r.map (fw_cv s.heap.size)).toList ++ rest))) : W p l e room_1 s m #[Value.ref b] below meth c H locs cells slots Z (F0 m pc la ((As.map (fw_cv s.heap.size)).reverse ++ .ref s.heap.size :: rest)) := by
  obtain ⟨hKK, hMo, hNo, hW, hV, hz, hS9⟩ := hI
  obtain ⟨h1, h2, h3, h4⟩ := h0
  refine lw_cl (bb := s.heap.size) (K := 203) (R := fw_RC) (M := M) (L := L) (N := 10) j As (lw_fix C0) hKK hd hv hlk hrm ⟨h1, h2⟩ (by rw [h3, h4]; exact ly0_0) (by decide) hAs hMo (by rw [h4]; exact hW) (by omega) hroom hn hcat hla hS (fun r M2 L2 H2 locs2 g1 g2 g3 g4 g5 g6 g7 => kk r M2 L2 H2 locs2 g1 ?_)
  rw [h4] at g4 g6 g7
  refine ⟨hKK, g3, hNo, g4, lw_Wd_kept hV (fun k hk => g6 _ (by omega) (fun q => ?_)), by omega, by omega, fun q q1 q2 => ?_, fun q hq => ?_⟩
  · have := q.2
    simp only [fw_KW] at this
    omega
  · rw [g6 q (by omega) (fun h => by have := h.1; omega)]
    exact hS9.2.1 q q1 q2
  · rcases g7 q hq with h | h
    · exact hS9.2.2 q h
    · exact h.1
theorem lw_cM {p : Program} {l : Launch} {e : Env} {s : State} {m : MethodId} {below : List Frame} {meth : Method} {c : Code} {H : Heap} {locs : List Loc} {cells slots : Nat} {Z : State → Prop} {la : Array Slot} {pc : Nat} {D : va_G} {cA : Nat → ClassId} {M N : fw_F} {L K : fw_G} {post : fw_P} {idx n : Nat} {rest : List Value} {b Lx : Nat} {xs : Nat → Int32} (j : fw_M) (As : List fw_V)
    (C0 : lw_At p s m meth c b Lx xs) (hI : lw_I D cA s H locs M L N K) (hd : decode code pc = .ok (.invokevirtual idx, 3)) (hv : fw_mv j n) (hlk : Cond.methodLink R_law idx (fw_mN j) ∈ fw_tbl) (hrm : fw_mF j + 1 ≤ 9 ∧ 8 + (fw_mL j + 11) + fw_mX j ≤ 344) (h0 : fw_mc j = 0 ∧ fw_ms j = 0 ∧ fw_mO j = 6 ∧ fw_mW j = 1) (hAs : ∀ v ∈ As, fw_okV v) (hroom : cells ≤ 600000 ∧ slots ≤ 7302249) (hn : As.length = n) (hcat : (rest.map fun v => v.category).sum ≤ 8) (hla : la.size = 4) (hS : fw_SD j (fw_r 0 :: As) N K post)
    (kk : ∀ (r : Option fw_V) (N2 : fw_F) (K2 : fw_G) (H2 : Heap) (locs2 : List Loc), post r N2 K2 → lw_I D cA s H2 locs2 M L N2 K2 → W p l e room_1 s m #[Value.ref b] below meth c H2 locs2 cells slots Z (F0 m (pc + 3) la ((r.map (fw_cv (s.heap.size + 203))).toList ++ rest))) : W p l e room_1 s m #[Value.ref b] below meth c H locs cells slots Z (F0 m pc la ((As.map (fw_cv (s.heap.size + 203))).reverse ++ .ref (s.heap.size + 203) :: rest)) := by
  obtain ⟨hKK, hMo, hNo, hW, hV, hz, hS9⟩ := hI
  obtain ⟨h1, h2, h3, h4⟩ := h0
  refine lw_cl (bb := s.heap.size + 203) (K := 30) (R := fw_RD) (M := N) (L := K) (N := 36) j As (lw_fix C0) hKK hd hv hlk hrm ⟨h1, h2⟩ (by rw [h3, h4]; exact ly1_0) (by decide) hAs hNo (by rw [h4]; exact hV) (by omega) hroom hn hcat hla hS (fun r M2 L2 H2 locs2 g1 g2 g3 g4 g5 g6 g7 => kk r M2 L2 H2 locs2 g1 ?_)
  rw [h4] at g4 g6 g7
  refine ⟨hKK, hMo, g3, lw_Wd_kept hW (fun k hk => g6 _ (by omega) (fun q => ?_)), g4, by omega, by omega, fun q q1 q2 => ?_, fun q hq => ?_⟩
  · have := q.1
    omega
  · rw [g6 q (by omega) (fun h => by have := h.1; omega)]
    exact hS9.2.1 q q1 q2
  · rcases g7 q hq with h | h
    · exact hS9.2.2 q h
    · exact Nat.le_trans (Nat.le_add_right _ _) h.1
theorem lw_i32 (x : Int32) : Int32.ofInt x.toInt = x := Int32.ofInt_toInt x
theorem lw_ok (x : Int32) : fw_okV (fw_i x.toInt) := ⟨Int32.le_toInt x, by have := Int32.toInt_lt x; omega⟩
theorem lw_rd {p : Program} {l : Launch} {e : Env} {R : Room} {s : State} {m : MethodId} {args : Array Value} {below : List Frame} {meth : Method} {c : Code} {H : Heap} {locs : List Loc} {cells slots : Nat} {Z : State → Prop} {la : Array Slot} {pc : Nat} {rest : List Value} {b L : Nat} {xs : Nat → Int32} {i : Nat} (C0 : lw_At p s m meth c b L xs) (hS : va_S (fun q : Nat => s.heap.size ≤ q) s.heap H locs) (hb : la[0]? = some (.val (.ref b))) (hi : la[3]? = some (.val (.int (nI i)))) (hL : L ≤ 3072) (k : Nat) (hk : i + k < L) {n : Int} (hn : n = (k : Int)) (h0 : decode code pc = .ok (.aload_n 0, 1)) (h1 : decode code (pc + 1) = .ok (.iload_n 3, 1)) (h2 : decode code (pc + 2) = .ok (.iconst n, 1)) (h3 : decode code (pc + 3) = .ok (.iadd, 1)) (h4 : decode code (pc + 4) = .ok (.iaload, 1))
    (kk : W p l e R s m args below meth c H locs cells slots Z (F0 m (pc + 5) la (.int (Int32.ofInt (xs (i + k)).toInt) :: rest))) : W p l e R s m args below meth c H locs cells slots Z (F0 m pc la rest) := by
  refine lv_aload_n C0.1 C0.2.1 h0 rfl hb ?_
  refine lv_iload_n C0.1 C0.2.1 h1 rfl hi ?_
  refine lv_iconst (v := nI k) C0.1 C0.2.1 h2 (by rw [hn]; rfl) ?_
  refine lv_iadd C0.1 C0.2.1 h3 ?_
  rw [nI_add]
  refine va_sld C0.1 C0.2.1 C0.2.2.2.2.2.2.1 C0.2.2.2.2.2.2.2.1 (Nat.not_le.mpr C0.2.2.2.2.2.2.2.1) hS (vp_in_nI hk (by omega)) h4 ?_
  rw [nI_clamp (by omega)]
  rw [lw_i32] at kk
  exact kk
def lw_Ji (y j : fw_M) (As : List fw_V) : Prop := ∀ (M N : fw_F) (L K : fw_G), Rel M L N K → ∃ (v : Int) (P U : fw_P), fw_SC y (fw_r 0 :: As) M L P ∧ fw_SD j (fw_r 0 :: As) N K U ∧ (∀ r M2 L2, P r M2 L2 → r = some (fw_i v)) ∧ (∀ r N2 K2, U r N2 K2 → r = some (fw_i v)) ∧ ∀ r M2 L2 r2 N2 K2, P r M2 L2 → U r2 N2 K2 → Rel M2 L2 N2 K2
def lw_Jl (y j : fw_M) (As : List fw_V) : Prop := ∀ (M N : fw_F) (L K : fw_G), Rel M L N K → ∃ (v : Int64) (P U : fw_P), fw_SC y (fw_r 0 :: As) M L P ∧ fw_SD j (fw_r 0 :: As) N K U ∧ (∀ r M2 L2, P r M2 L2 → r = some (fw_l v)) ∧ (∀ r N2 K2, U r N2 K2 → r = some (fw_l v)) ∧ ∀ r M2 L2 r2 N2 K2, P r M2 L2 → U r2 N2 K2 → Rel M2 L2 N2 K2

theorem jn_thing (a0 : Int) (a1 : Int) (a2 : Int) (a3 : Int) : lw_Ji mX5_thing mX6_thing [fw_i a0, fw_i a1, fw_i a2, fw_i a3] := fun M N L K hR => ⟨_, _, _, sp_X5_thing M (fw_upd N 0 0 0) L K (rl_thr hR 0) a0 a1 a2 a3, sp_X6_thing M N L K (rl_thr hR 0) a0 a1 a2 a3, fun _ _ _ p => p.1, fun _ _ _ q => q.1, fun _ _ _ _ _ _ p q => rl_md p.2 q.2⟩
theorem jn_things (a0 : Int) (a1 : Int) : lw_Ji mX5_things mX6_things [fw_i a0, fw_i a1] := fun M N L K hR => ⟨_, _, _, sp_X5_things M (fw_upd N 0 0 0) L K (rl_thr hR 0) a0 a1, sp_X6_things M N L K (rl_thr hR 0) a0 a1, fun _ _ _ p => p.1, fun _ _ _ q => q.1, fun _ _ _ _ _ _ p q => rl_md p.2 q.2⟩
theorem jn_find (a0 : Int) (a1 : Int) (a2 : Int) : lw_Ji mX5_find mX6_find [fw_i a0, fw_i a1, fw_i a2] := fun M N L K hR => ⟨_, _, _, sp_X5_find M (fw_upd N 0 0 0) L K (rl_thr hR 0) a0 a1 a2, sp_X6_find M N L K (rl_thr hR 0) a0 a1 a2, fun _ _ _ p => p.1, fun _ _ _ q => q.1, fun _ _ _ _ _ _ p q => rl_md p.2 q.2⟩
theorem jn_change (a0 : Int) (a1 : Int) (a2 : Int) : lw_Ji mX5_change mX6_change [fw_i a0, fw_i a1, fw_i a2] := fun M N L K hR => ⟨_, _, _, sp_X5_change M (fw_upd N 0 0 0) L K (rl_thr hR 0) a0 a1 a2, sp_X6_change M N L K (rl_thr hR 0) a0 a1 a2, fun _ _ _ p => p.1, fun _ _ _ q => q.1, fun _ _ _ _ _ _ p q => rl_md p.2 q.2⟩
theorem jn_differ (a0 : Int) (a1 : Int) : lw_Ji mX5_differ mX6_differ [fw_i a0, fw_i a1] := fun M N L K hR => ⟨_, _, _, sp_X5_differ M (fw_upd N 0 0 0) L K (rl_thr hR 0) a0 a1, sp_X6_differ M N L K (rl_thr hR 0) a0 a1, fun _ _ _ p => p.1, fun _ _ _ q => q.1, fun _ _ _ _ _ _ p q => rl_md p.2 q.2⟩
theorem jn_taken (a0 : Int) : lw_Ji mX5_taken mX6_taken [fw_i a0] := fun M N L K hR => ⟨_, _, _, sp_X5_taken M (fw_upd N 0 0 0) L K (rl_thr hR 0) a0, sp_X6_taken M N L K (rl_thr hR 0) a0, fun _ _ _ p => p.1, fun _ _ _ q => q.1, fun _ _ _ _ _ _ p q => rl_md p.2 q.2⟩
theorem jn_trace  : lw_Jl mX5_trace mX6_trace [] := fun M N L K hR => ⟨_, _, _, sp_X5_trace M (fw_upd N 0 0 0) L K (rl_thr hR 0) , sp_X6_trace M N L K (rl_thr hR 0) , fun _ _ _ p => p.1, fun _ _ _ q => q.1, fun _ _ _ _ _ _ p q => rl_md p.2 q.2⟩
theorem jn_could (a0 : Int) (a1 : Int) (a2 : Int) (a3 : Int) : lw_Ji mX5_could mX6_could [fw_i a0, fw_i a1, fw_i a2, fw_i a3] := fun M N L K hR => ⟨_, _, _, sp_X5_could M (fw_upd N 0 0 0) L K (rl_thr hR 0) a0 a1 a2 a3, sp_X6_could M N L K (rl_thr hR 0) a0 a1 a2 a3, fun _ _ _ p => p.1, fun _ _ _ q => q.1, fun _ _ _ _ _ _ p q => rl_md p.2 q.2⟩
theorem jn_count (a0 : Int) : lw_Ji mX5_count mX6_count [fw_i a0] := fun M N L K hR => ⟨_, _, _, sp_X5_count M (fw_upd N 0 0 0) L K (rl_thr hR 0) a0, sp_X6_count M N L K (rl_thr hR 0) a0, fun _ _ _ p => p.1, fun _ _ _ q => q.1, fun _ _ _ _ _ _ p q => rl_md p.2 q.2⟩
theorem jn_odd (a0 : Int) (a1 : Int) (a2 : Int) : lw_Jl mX5_odd mX6_odd [fw_i a0, fw_i a1, fw_i a2] := fun M N L K hR => ⟨_, _, _, sp_X5_odd M (fw_upd N 0 0 0) L K (rl_thr hR 0) a0 a1 a2, sp_X6_odd M N L K (rl_thr hR 0) a0 a1 a2, fun _ _ _ p => p.1, fun _ _ _ q => q.1, fun _ _ _ _ _ _ p q => rl_md p.2 q.2⟩
theorem jn_bytes (a0 : Int) (a1 : Int) (a2 : Int) (a3 : Int) : lw_Ji mX5_bytes mX6_bytes [fw_i a0, fw_i a1, fw_i a2, fw_i a3] := fun M N L K hR => ⟨_, _, _, sp_X5_bytes M (fw_upd N 0 0 0) L K (rl_thr hR 0) a0 a1 a2 a3, sp_X6_bytes M N L K (rl_thr hR 0) a0 a1 a2 a3, fun _ _ _ p => p.1, fun _ _ _ q => q.1, fun _ _ _ _ _ _ p q => rl_md p.2 q.2⟩
theorem jn_sum (a0 : Int) (a1 : Int) : lw_Ji mX5_sum mX6_sum [fw_i a0, fw_i a1] := fun M N L K hR => ⟨_, _, _, sp_X5_sum M (fw_upd N 0 0 0) L K (rl_thr hR 0) a0 a1, sp_X6_sum M N L K (rl_thr hR 0) a0 a1, fun _ _ _ p => p.1, fun _ _ _ q => q.1, fun _ _ _ _ _ _ p q => rl_md p.2 q.2⟩
theorem jn_pieces (a0 : Int) (a1 : Int) (a2 : Int) : lw_Ji mX5_pieces mX6_pieces [fw_i a0, fw_i a1, fw_i a2] := fun M N L K hR => ⟨_, _, _, sp_X5_pieces M (fw_upd N 0 0 0) L K (rl_thr hR 0) a0 a1 a2, sp_X6_pieces M N L K (rl_thr hR 0) a0 a1 a2, fun _ _ _ p => p.1, fun _ _ _ q => q.1, fun _ _ _ _ _ _ p q => rl_md p.2 q.2⟩
theorem jn_bulk (a0 : Int) (a1 : Int) (a2 : Int) : lw_Ji mX5_bulk mX6_bulk [fw_i a0, fw_i a1, fw_i a2] := fun M N L K hR => ⟨_, _, _, sp_X5_bulk M (fw_upd N 0 0 0) L K (rl_thr hR 0) a0 a1 a2, sp_X6_bulk M N L K (rl_thr hR 0) a0 a1 a2, fun _ _ _ p => p.1, fun _ _ _ q => q.1, fun _ _ _ _ _ _ p q => p.2 _ _ q.2⟩
theorem jn_rules (a0 : Int) : lw_Ji mX5_rules mX6_rules [fw_i a0] := fun M N L K hR => ⟨_, _, _, sp_X5_rules M (fw_upd N 0 0 0) L K (rl_thr hR 0) a0, sp_X6_rules M N L K (rl_thr hR 0) a0, fun _ _ _ p => p.1, fun _ _ _ q => q.1, fun _ _ _ _ _ _ p q => p.2 _ _ q.2⟩
theorem jn_machines (a0 : Int) : lw_Ji mX5_machines mX6_machines [fw_i a0] := fun M N L K hR => ⟨_, _, _, sp_X5_machines M (fw_upd N 0 0 0) L K (rl_thr hR 0) a0, sp_X6_machines M N L K (rl_thr hR 0) a0, fun _ _ _ p => p.1, fun _ _ _ q => q.1, fun _ _ _ _ _ _ p q => p.2 _ _ q.2⟩
theorem jn_apart (a0 : Int) (a1 : Int) : lw_Ji mX5_apart mX6_apart [fw_i a0, fw_i a1] := fun M N L K hR => ⟨_, _, _, sp_X5_apart M (fw_upd N 0 0 0) L K (rl_thr hR 0) a0 a1, sp_X6_apart M N L K (rl_thr hR 0) a0 a1, fun _ _ _ p => p.1, fun _ _ _ q => q.1, fun _ _ _ _ _ _ p q => p.2 _ _ q.2⟩
theorem jn_let (a0 : Int) : lw_Ji mX5_let mX6_let [fw_i a0] := fun M N L K hR => ⟨_, _, _, sp_X5_let M (fw_upd N 0 0 0) L K (rl_thr hR 0) a0, sp_X6_let M N L K (rl_thr hR 0) a0, fun _ _ _ p => p.1, fun _ _ _ q => q.1, fun _ _ _ _ _ _ p q => p.2 _ _ q.2⟩
theorem jn_night  : lw_Ji mX5_night mX6_night [] := fun M N L K hR => ⟨_, _, _, sp_X5_night M (fw_upd N 0 0 0) L K (rl_thr hR 0) , sp_X6_night M N L K (rl_thr hR 0) , fun _ _ _ p => p.1, fun _ _ _ q => q.1, fun _ _ _ _ _ _ p q => p.2 _ _ q.2⟩
theorem jn_share (a0 : Int) (a1 : Int) : lw_Ji mX5_share mX6_share [fw_i a0, fw_i a1] := fun M N L K hR => ⟨_, _, _, sp_X5_share M (fw_upd N 0 0 0) L K (rl_thr hR 0) a0 a1, sp_X6_share M N L K (rl_thr hR 0) a0 a1, fun _ _ _ p => p.1, fun _ _ _ q => q.1, fun _ _ _ _ _ _ p q => p.2 _ _ q.2⟩
theorem jn_take (a0 : Int) : lw_Ji mX5_take mX6_take [fw_i a0] := fun M N L K hR => ⟨_, _, _, sp_X5_take M (fw_upd N 0 0 0) L K (rl_thr hR 0) a0, sp_X6_take M N L K (rl_thr hR 0) a0, fun _ _ _ p => p.1, fun _ _ _ q => q.1, fun _ _ _ _ _ _ p q => p.2 _ _ q.2⟩
theorem jn_room (a0 : Int) (a1 : Int) : lw_Ji mX5_room mX6_room [fw_i a0, fw_i a1] := fun M N L K hR => ⟨_, _, _, sp_X5_room M (fw_upd N 0 0 0) L K (rl_thr hR 0) a0 a1, sp_X6_room M N L K (rl_thr hR 0) a0 a1, fun _ _ _ p => p.1, fun _ _ _ q => q.1, fun _ _ _ _ _ _ p q => p.2 _ _ q.2⟩
theorem jn_send (a0 : Int) (a1 : Int) : lw_Ji mX5_send mX6_send [fw_i a0, fw_i a1] := fun M N L K hR => ⟨_, _, _, sp_X5_send M (fw_upd N 0 0 0) L K (rl_thr hR 0) a0 a1, sp_X6_send M N L K (rl_thr hR 0) a0 a1, fun _ _ _ p => p.1, fun _ _ _ q => q.1, fun _ _ _ _ _ _ p q => p.2 _ _ q.2⟩
theorem jn_sendSome (a0 : Int) (a1 : Int) (a2 : Int) : lw_Ji mX5_sendSome mX6_sendSome [fw_i a0, fw_i a1, fw_i a2] := fun M N L K hR => ⟨_, _, _, sp_X5_sendSome M (fw_upd N 0 0 0) L K (rl_thr hR 0) a0 a1 a2, sp_X6_sendSome M N L K (rl_thr hR 0) a0 a1 a2, fun _ _ _ p => p.1, fun _ _ _ q => q.1, fun _ _ _ _ _ _ p q => p.2 _ _ q.2⟩
theorem jn_fetch (a0 : Int) (a1 : Int) : lw_Ji mX5_fetch mX6_fetch [fw_i a0, fw_i a1] := fun M N L K hR => ⟨_, _, _, sp_X5_fetch M (fw_upd N 0 0 0) L K (rl_thr hR 0) a0 a1, sp_X6_fetch M N L K (rl_thr hR 0) a0 a1, fun _ _ _ p => p.1, fun _ _ _ q => q.1, fun _ _ _ _ _ _ p q => p.2 _ _ q.2⟩
theorem jn_away (a0 : Int) (a1 : Int) : lw_Ji mX5_away mX6_away [fw_i a0, fw_i a1] := fun M N L K hR => ⟨_, _, _, sp_X5_away M (fw_upd N 0 0 0) L K (rl_thr hR 0) a0 a1, sp_X6_away M N L K (rl_thr hR 0) a0 a1, fun _ _ _ p => p.1, fun _ _ _ q => q.1, fun _ _ _ _ _ _ p q => p.2 _ _ q.2⟩
theorem jn_gone (a0 : Int) (a1 : Int) : lw_Ji mX5_gone mX6_gone [fw_i a0, fw_i a1] := fun M N L K hR => ⟨_, _, _, sp_X5_gone M (fw_upd N 0 0 0) L K (rl_thr hR 0) a0 a1, sp_X6_gone M N L K (rl_thr hR 0) a0 a1, fun _ _ _ p => p.1, fun _ _ _ q => q.1, fun _ _ _ _ _ _ p q => p.2 _ _ q.2⟩
theorem jn_move (a0 : Int) (a1 : Int) (a2 : Int) (a3 : Int) : lw_Ji mX5_move mX6_move [fw_i a0, fw_i a1, fw_i a2, fw_i a3] := fun M N L K hR => ⟨_, _, _, sp_X5_move M (fw_upd N 0 0 0) L K (rl_thr hR 0) a0 a1 a2 a3, sp_X6_move M N L K (rl_thr hR 0) a0 a1 a2 a3, fun _ _ _ p => p.1, fun _ _ _ q => q.1, fun _ _ _ _ _ _ p q => p.2 _ _ q.2⟩
theorem jn_make (a0 : Int) (a1 : Int) (a2 : Int) (a3 : Int) : lw_Ji mX5_make mX6_make [fw_i a0, fw_i a1, fw_i a2, fw_i a3] := fun M N L K hR => ⟨_, _, _, sp_X5_make M (fw_upd N 0 0 0) L K (rl_thr hR 0) a0 a1 a2 a3, sp_X6_make M N L K (rl_thr hR 0) a0 a1 a2 a3, fun _ _ _ p => p.1, fun _ _ _ q => q.1, fun _ _ _ _ _ _ p q => p.2 _ _ q.2⟩
theorem jn_write (a0 : Int) (a1 : Int) (a2 : Int64) (a3 : Int) : lw_Ji mX5_write mX6_write [fw_i a0, fw_i a1, fw_l a2, fw_i a3] := fun M N L K hR => ⟨_, _, _, sp_X5_write M (fw_upd N 0 0 0) L K (rl_thr hR 0) a0 a1 a2 a3, sp_X6_write M N L K (rl_thr hR 0) a0 a1 a2 a3, fun _ _ _ p => p.1, fun _ _ _ q => q.1, fun _ _ _ _ _ _ p q => p.2 _ _ q.2⟩