set_option maxRecDepth 20000 in
theorem lw_KK {s : State} {args : Array Value} (hts : ∀ w ∈ lw_tbl, w.before args s = true) : ∃ (D : va_G) (cA : Nat → ClassId), fw_KK D cA s := by
  have ht : ∀ w ∈ fw_tbl, w.before args s = true := fun w hw => hts w (fw_tbl_in hw)
  obtain ⟨c0, g0, h0⟩ := u_known (C := RX0) (T := TX0) (N := 12) (n := 12) ht fw_cls0.2.1 (ht (.instantiable RX0 12) (fw_mem 90 (by decide +kernel) rfl))
  obtain ⟨c1, g1, h1⟩ := u_known (C := RX1) (T := TX1) (N := 8) (n := 8) ht fw_cls1.2.1 (ht (.instantiable RX1 8) (fw_mem 83 (by decide +kernel) rfl))
  obtain ⟨c2, g2, h2⟩ := u_known (C := RX2) (T := TX2) (N := 4) (n := 4) ht fw_cls2.2.1 (ht (.instantiable RX2 4) (fw_mem 225 (by decide +kernel) rfl))
  obtain ⟨c3, g3, h3⟩ := u_known (C := RX3) (T := TX3) (N := 5) (n := 5) ht fw_cls3.2.1 (ht (.instantiable RX3 5) (fw_mem 252 (by decide +kernel) rfl))
  obtain ⟨c4, g4, h4⟩ := u_known (C := RX4) (T := TX4) (N := 10) (n := 10) ht fw_cls4.2.1 (ht (.instantiable RX4 10) (fw_mem 182 (by decide +kernel) rfl))
  obtain ⟨c5, g5, h5⟩ := u_known (C := RX5) (T := TX5) (N := 10) (n := 10) ht fw_cls5.2.1 (ht (.instantiable RX5 10) (fw_mem 75 (by decide +kernel) rfl))
  obtain ⟨c6, g6, h6⟩ := u_known (C := RX6) (T := TX6) (N := 36) (n := 36) ht fw_cls6.2.1 (ht (.instantiable RX6 36) (fw_mem 766 (by decide +kernel) rfl))
  obtain ⟨a0, k0, m0, x0, y0, z0⟩ := Cond.arrayClass_spec (hts (.arrayClass .int) (List.mem_of_getElem? (i := 148) (by decide +kernel)))
  obtain ⟨a1, k1, m1, x1, y1, z1⟩ := Cond.arrayClass_spec (hts (.arrayClass .boolean) (List.mem_of_getElem? (i := 222) (by decide +kernel)))
  obtain ⟨a2, k2, m2, x2, y2, z2⟩ := Cond.arrayClass_spec (hts (.arrayClass .long) (List.mem_of_getElem? (i := 250) (by decide +kernel)))
  have o3 := hts (.arrayOver (.object "FolderRows$Change")) (List.mem_of_getElem? (i := 89) (by decide +kernel))
  have o4 := hts (.arrayOver (.object "FolderRows$PieceSet")) (List.mem_of_getElem? (i := 224) (by decide +kernel))
  obtain ⟨m3, a3, k3, w3, v3, y3, z3, x3⟩ := Cond.arrayOver_spec o3
  obtain ⟨m4, a4, k4, w4, v4, y4, z4, x4⟩ := Cond.arrayOver_spec o4
  refine ⟨(fun k => match k with | 0 => c0 | 1 => c1 | 2 => c2 | 3 => c3 | 4 => c4 | 5 => c5 | _ => c6, fun k => match k with | 0 => g0 | 1 => g1 | 2 => g2 | 3 => g3 | 4 => g4 | 5 => g5 | _ => g6), (fun k => match k with | 0 => a0 | 1 => a1 | 2 => a2 | 3 => a3 | _ => a4), ⟨fun k q hq => ?_, fun k q hq => ?_⟩, ⟨va_Nw.of rfl (hts _ (List.mem_of_getElem? (i := 91) (by decide +kernel))), va_Nw.of rfl (hts _ (List.mem_of_getElem? (i := 253) (by decide +kernel))), va_Nw.of rfl (hts _ (List.mem_of_getElem? (i := 502) (by decide +kernel))), va_Nw.of rfl (hts _ (List.mem_of_getElem? (i := 623) (by decide +kernel)))⟩, va_AO.of o3, va_AO.of o4⟩
  · match k, hq with
    | 0, hq => cases hq; exact h0
    | 1, hq => cases hq; exact h1
    | 2, hq => cases hq; exact h2
    | 3, hq => cases hq; exact h3
    | 4, hq => cases hq; exact h4
    | 5, hq => cases hq; exact h5
    | 6, hq => cases hq; exact h6
    | k + 7, hq => simp [vwCl] at hq
  · match k, hq with
    | 0, hq => cases hq; exact ⟨fun n z => ⟨fun k h => (by cases h), k0, y0, m0, z0⟩, x0⟩
    | 1, hq => cases hq; exact ⟨fun n z => ⟨fun k h => (by cases h), k1, y1, m1, z1⟩, x1⟩
    | 2, hq => cases hq; exact ⟨fun n z => ⟨fun k h => (by cases h), k2, y2, m2, z2⟩, x2⟩
    | 3, hq => cases hq; exact ⟨fun n z => ⟨fun k h => (by cases h), k3, y3, m3, z3⟩, k3, m3, y3, z3, w3, x3⟩
    | 4, hq => cases hq; exact ⟨fun n z => ⟨fun k h => (by cases h), k4, y4, m4, z4⟩, k4, m4, y4, z4, w4, x4⟩
    | k + 5, hq => simp [fw_tys] at hq

theorem lw_new {p : Program} {l : Launch} {e : Env} {s : State} {m : MethodId} {args : Array Value} {below : List Frame} {meth : Method} {c : Code} {H : Heap} {locs : List Loc} {cells slots : Nat} {Z : State → Prop} {la : Array Slot} {pc : Nat} {D : va_G} {cA : Nat → ClassId} {bb w idx ci N : Nat} {C : String} {T : u_T} {ty : Nat → FieldType} {rest : List Value}
    (S : CallFix p m c code 4 s args fw_tbl R_law) (hKK : fw_KK D cA s) (hd : decode code pc = .ok (.new idx, 3)) (hc : fw_cls ci C T N ty) (hdf : fw_df ci N ty) (hw : Cond.classLink R_law idx C ∈ fw_tbl ∧ Cond.instantiable C N ∈ fw_tbl ∧ Cond.initialized C ∈ fw_tbl) (hl : fw_lay w 0 = (ci, N)) (hci : ci < 10) (hs : H.size = bb) (hroom : cells + 1 ≤ 600000 ∧ slots + N ≤ 7302249)
    (kk : ∀ H1 : Heap, fw_Wd D cA bb w 1 (fun _ _ => -1) (fun _ _ => 0) (fun _ _ => 0) H1 → H1.size = bb + 1 → (∀ q, q < bb → H1[q]? = H[q]?) → W p l e room_1 s m args below meth c H1 locs (cells + 1) (slots + N) Z (F0 m (pc + 3) la (.ref bb :: rest))) : W p l e room_1 s m args below meth c H locs cells slots Z (F0 m pc la rest) := by
  obtain ⟨hcl, hin, hty, hnm⟩ := hc
  have ht := S.2.2.2.2
  have hKn := hKK.1.1 ci _ hcl
  refine W.newcK S.1 S.2.1 S.2.2.2.1 (ht _ hw.1) (ht _ hw.2.1) (ht _ hw.2.2) rfl hd hroom.1 hroom.2 hKn.2.1 hs fun H1 kC hkC e1 z1 o1 => ?_
  refine kk H1 (fun k hk => ?_) z1 o1
  rw [show k = 0 by omega]
  refine ⟨fun _ => ?_, fun h => ?_⟩
  · rw [show ((0 : Nat) : Int) = 0 from rfl, hl]
    exact (u_born ty ht hin hKn hkC e1 hty).to fun f hf => hdf f hf bb
  · rw [show ((0 : Nat) : Int) = 0 from rfl, hl] at h
    exact absurd h (by show ¬ 10 ≤ ci; omega)
theorem lw_con {p : Program} {l : Launch} {e : Env} {s : State} {m : MethodId} {args : Array Value} {below : List Frame} {meth : Method} {c : Code} {H : Heap} {locs : List Loc} {cells slots : Nat} {Z : State → Prop} {la : Array Slot} {pc : Nat} {D : va_G} {cA : Nat → ClassId} {bb K2 : Nat} {R R2 M : fw_F} {L : fw_G} {post : fw_P} {idx : Nat} {rest : List Value} (j : fw_M)
    (S : CallFix p m c code 4 s args fw_tbl R_law) (hKK : fw_KK D cA s) (hd : decode code pc = .ok (.invokespecial idx, 3)) (hj : fw_mw j 0) (hj2 : (fw_mN j).name = "<init>" ∧ fw_mT j = none ∧ Cond.instanceMethod (fw_mN j) ∈ fw_tbl) (hlk : Cond.methodLink R_law idx (fw_mN j) ∈ fw_tbl) (hrm : fw_mF j + 1 ≤ 9 ∧ 8 + (fw_mL j + 11) + fw_mX j ≤ 344) (hMo : ∀ k j, fw_ok (M k j)) (hW : fw_Wd D cA bb (fw_mW j) 1 R M L H) (hsz : H.size = bb + 1) (hroom : cells + fw_mc j ≤ 600000 ∧ slots + fw_ms j ≤ 7302249) (hcat : (rest.map fun v => v.category).sum ≤ 8) (hla : la.size = 4) (hS : fw_SP j [fw_r 0] 1 R M L (fw_q post K2 R2))
    (kk : ∀ (r : Option fw_V) (M2 : fw_F) (L2 : fw_G) (H2 : Heap) (locs2 : List Loc), post r M2 L2 → (∀ k j, fw_ok (M2 k j)) → fw_Wd D cA bb (fw_mW j) K2 R2 M2 L2 H2 → H2.size = H.size + fw_mc j → (∀ q, q < H.size → ¬ fw_A bb (fw_mW j) q → H2[q]? = H[q]?) → (∀ q ∈ locs2, q ∈ locs ∨ fw_A bb (fw_mW j) q.base) → W p l e room_1 s m args below meth c H2 locs2 (cells + fw_mc j) (slots + fw_ms j) Z (F0 m (pc + 3) la ((r.map (fw_cv bb)).toList ++ rest))) : W p l e room_1 s m args below meth c H locs cells slots Z (F0 m pc la (.ref bb :: rest)) := by
  have hO2 : ∀ v ∈ [fw_r 0], fw_okV v := fun v hv => by
    rcases List.mem_cons.mp hv with rfl | hv
    · exact fw_okr
    · exact absurd hv List.not_mem_nil
  have hM := hS hO2 hMo l D cA bb
  have ht := S.2.2.2.2
  have hp : PreS s H (fw_PC j D cA bb 1 R M L [fw_r 0]) ([fw_r 0].map (fw_cv bb)) := ⟨fw_blind, fun U hU hWm => ⟨rfl, by rw [hU]; exact hW, hKK.moved hWm, by rw [hU]; omega, fun _ => by rw [hU]; exact hsz⟩⟩
  have hrun : va_Run p l e room_1 s m args below meth c H locs cells slots (fw_mc j) (fw_ms j) (F0 m pc la (.ref bb :: rest)) rest (fw_QC j D cA bb 1 (fw_q post K2 R2) (Value.ref bb :: ([] : List Value)).toArray) (fw_A bb (fw_mW j)) := va_runI (rest := rest) (As := []) (b := bb) (index := idx) (n := 0) (bytes := fw_mC j) (maxL := fw_mL j) (nL := 4) (cc := code) (Ts := fw_tbl) (own := R_law) S hM ⟨callB_of (ws' := fw_tbl) 0 ht (fw_good hj) (by unfold fw_ws; rw [hj2.2.1]) rfl rfl (ht _ hj.2.1) (ht _ hlk) hj.2.2.1 hrm, hj2.1, ht _ hj2.2.2⟩ hp rfl rfl hla rfl (lv_room hcat) hd hroom
  intro T hT X
  obtain ⟨v, st₀, t, T', L1, g0, X', hL, e1, e2, ⟨⟨r, K', R', M', L', hv, ⟨hq1, hq2, hq⟩, hrok, hMok, hK', hsz2, hW2⟩, hF⟩, st2⟩ := hrun T hT X
  have hv : v = r.map (fw_cv bb) := by injection hv
  subst hv
  subst hq1
  subst hq2
  rw [g0] at hsz2
  obtain ⟨tt, a1, b1⟩ := kk r M' L' t.heap (locs ++ L1) hq hMok hW2 hsz2 (fun q h1 h2 => by rw [hF.2 q (by rw [g0]; exact h1) h2, g0]) (fun q hq' => by
    rcases List.mem_append.mp hq' with h | h
    · exact Or.inl h
    · exact Or.inr (hL q h)) T' e1 X'
  exact ⟨tt, st2 tt a1, b1⟩
