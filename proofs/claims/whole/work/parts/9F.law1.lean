theorem lw_cl {p : Program} {l : Launch} {e : Env} {s : State} {m : MethodId} {args : Array Value} {below : List Frame} {meth : Method} {c : Code} {H : Heap} {locs : List Loc} {cells slots : Nat} {Z : State → Prop} {la : Array Slot} {pc : Nat} {D : va_G} {cA : Nat → ClassId} {bb K : Nat} {R M : fw_F} {L : fw_G} {post : fw_P} {idx n N : Nat} {rest : List Value} (j : fw_M) (As : List fw_V)
    (S : CallFix p m c code 4 s args fw_tbl R_law) (hKK : fw_KK D cA s) (hd : decode code pc = .ok (.invokevirtual idx, 3)) (hv : fw_mv j n) (hlk : Cond.methodLink R_law idx (fw_mN j) ∈ fw_tbl) (hrm : fw_mF j + 1 ≤ 9 ∧ 8 + (fw_mL j + 11) + fw_mX j ≤ 344) (h0 : fw_mc j = 0 ∧ fw_ms j = 0) (hlay : fw_lay (fw_mW j) 0 = (fw_mO j, N)) (hKp : 0 < K) (hAs : ∀ v ∈ As, fw_okV v) (hMo : ∀ k j, fw_ok (M k j)) (hW : fw_Wd D cA bb (fw_mW j) K R M L H) (hsz : bb + K ≤ H.size) (hroom : cells ≤ 600000 ∧ slots ≤ 7302249) (hn : As.length = n) (hcat : (rest.map fun v => v.category).sum ≤ 8) (hla : la.size = 4) (hS : fw_SP j (fw_r 0 :: As) K R M L (fw_q post K R))
    (kk : ∀ (r : Option fw_V) (M2 : fw_F) (L2 : fw_G) (H2 : Heap) (locs2 : List Loc), post r M2 L2 → (∀ v, r = some v → fw_okV v) → (∀ k j, fw_ok (M2 k j)) → fw_Wd D cA bb (fw_mW j) K R M2 L2 H2 → H2.size = H.size → (∀ q, q < H.size → ¬ fw_A bb (fw_mW j) q → H2[q]? = H[q]?) → (∀ q ∈ locs2, q ∈ locs ∨ fw_A bb (fw_mW j) q.base) → W p l e room_1 s m args below meth c H2 locs2 cells slots Z (F0 m (pc + 3) la ((r.map (fw_cv bb)).toList ++ rest))) : W p l e room_1 s m args below meth c H locs cells slots Z (F0 m pc la ((As.map (fw_cv bb)).reverse ++ .ref bb :: rest)) := by
  have hO2 : ∀ v ∈ fw_r 0 :: As, fw_okV v := fun v hv => by
    rcases List.mem_cons.mp hv with rfl | hv
    · exact fw_okr
    · exact hAs v hv
  have hM := hS hO2 hMo l D cA bb
  obtain ⟨T, N9, ty, hcl⟩ := hv.2.2.1
  have hcell := (hW 0 hKp).1
  rw [show ((0 : Nat) : Int) = 0 from rfl, hlay] at hcell
  obtain ⟨cell, q1, q2, q3, q4⟩ := hcell hv.2.2.2
  have hKn := hKK.1.1 (fw_mO j) _ hcl.1
  have ht := S.2.2.2.2
  have hp : PreS s H (fw_PC j D cA bb K R M L (fw_r 0 :: As)) ((fw_r 0 :: As).map (fw_cv bb)) := ⟨fw_blind, fun U hU hWm => ⟨rfl, by rw [hU]; exact hW, hKK.moved hWm, by rw [hU]; exact hsz, fun h => by omega⟩⟩
  have hrun : va_Run p l e room_1 s m args below meth c H locs cells slots (fw_mc j) (fw_ms j) (F0 m pc la ((As.map (fw_cv bb)).reverse ++ .ref bb :: rest)) rest (fw_QC j D cA bb K (fw_q post K R) (Value.ref bb :: As.map (fw_cv bb)).toArray) (fw_A bb (fw_mW j)) := va_runV (rest := rest) (As := As.map (fw_cv bb)) (b := bb) (C := fw_cn (fw_mO j)) (index := idx) (n := n) (bytes := fw_mC j) (maxL := fw_mL j) (ret := fw_mT j) (nL := 4) (cc := code) (Ts := fw_tbl) (own := R_law) S hM ⟨callB_of n ht (fw_good hv.1) rfl rfl rfl (ht _ hv.1.2.1) (ht _ hlk) hv.1.2.2.1 hrm, ht _ hv.2.1.1, ht _ hv.2.1.2⟩ ⟨hp.1, ⟨cell, q1, by rw [q3]; rfl, by rw [q2]; exact hKn.2.1⟩, hp.2⟩ rfl (by simpa using hn) hla rfl (lv_room hcat) hd ⟨by rw [h0.1]; exact hroom.1, by rw [h0.2]; exact hroom.2⟩
  intro T hT X
  obtain ⟨v, st₀, t, T', L1, g0, X', hL, e1, e2, ⟨⟨r, K', R', M', L', hv, ⟨hq1, hq2, hq⟩, hrok, hMok, hK', hsz2, hW2⟩, hF⟩, st2⟩ := hrun T hT X
  have hv : v = r.map (fw_cv bb) := by injection hv
  subst hv
  subst hq1
  subst hq2
  rw [h0.1, h0.2] at X'
  rw [h0.1, g0] at hsz2
  obtain ⟨tt, a1, b1⟩ := kk r M' L' t.heap (locs ++ L1) hq hrok hMok hW2 hsz2 (fun q h1 h2 => by rw [hF.2 q (by rw [g0]; exact h1) h2, g0]) (fun q hq' => by
    rcases List.mem_append.mp hq' with h | h
    · exact Or.inl h
    · exact Or.inr (hL q h)) T' e1 X'
  exact ⟨tt, st2 tt a1, b1⟩
