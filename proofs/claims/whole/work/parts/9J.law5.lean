set_option maxHeartbeats 4000000 in
set_option maxRecDepth 100000 in
theorem whole_start {p : Program} {e : Env} {s : State} {m : MethodId} {below : List Frame} {meth : Method} {c : Code} (l : Launch) {b L : Nat} {xs : Nat → Int32} (hL : L ≤ 3072) (C0 : lw_At p s m meth c b L xs) : W p l e room_1 s m #[Value.ref b] below meth c s.heap [] 0 0 (lw_Z below #[Value.ref b] s) (entryFrame m ([Value.ref b] : List Value).toArray 4) := by
  have hx := C0.1
  have hb := C0.2.1
  obtain ⟨D, cA, hKK⟩ := lw_KK C0.2.2.2.2.2.1
  have hl := lv_entry ([.ref b]) (n := 4) (Nat.le_of_ble_eq_true rfl)
  rw [lg_entry_eq]
  generalize (lg_sl ([.ref b]) ++ List.replicate (4 - (lg_sl ([.ref b])).length) Slot.unset).toArray = la at hl ⊢
  have hl : lv_has la 4 [(0, .ref b)] := hl
  have z0 : ∀ k j : Int, fw_ok ((fun _ _ => 0 : fw_F) k j) := fun _ _ => fw_ok0
  have hnw : ∀ k : Nat, 1 ≤ k → fw_nw k (fun _ _ => -1) (fun _ _ => 0) (fun _ _ => 0) := fun _ _ _ => ⟨rfl, rfl, rfl⟩
  refine lw_new (bb := s.heap.size) (w := 0) (lw_fix C0) hKK dL_law_0 fw_cls5 df_5 ⟨fw_mem 74 (by decide +kernel) rfl, fw_mem 75 (by decide +kernel) rfl, fw_mem 65 (by decide +kernel) rfl⟩ ly0_0 (by decide) rfl ⟨by decide, by decide⟩ (fun H1 w1 z1 o1 => ?_)
  refine lv_dup hx hb dL_law_3 rfl ?_
  refine lw_con (rest := [.ref s.heap.size]) mX5_init (lw_fix C0) hKK dL_law_4 mv_X5_init.1 mv_X5_init.2 (fw_mem 76 (by decide +kernel) rfl) ⟨by decide, by decide⟩ z0 w1 z1 ⟨by decide, by decide⟩ (Nat.le_of_ble_eq_true rfl) hl.1 (sp_X5_init _ _ _ hnw) (fun r M L5 H2 locs2 p1 hMo w2 z2 o2 l2 => ?_)
  obtain ⟨rfl, eL, hp⟩ := p1
  have z2 : H2.size = H1.size + 202 := z2
  have w2 : fw_Wd D cA s.heap.size 0 203 fw_RC M L5 H2 := w2
  refine lv_astore_n (lv' := [(1, .ref s.heap.size), (0, .ref b)]) hx hb dL_law_7 rfl hl (by decide) rfl (fun la hl => ?_)
  refine lw_new (bb := s.heap.size + 203) (w := 1) (lw_fix C0) hKK dL_law_8 fw_cls6 df_6 ⟨fw_mem 765 (by decide +kernel) rfl, fw_mem 766 (by decide +kernel) rfl, fw_mem 72 (by decide +kernel) rfl⟩ ly1_0 (by decide) (by omega) ⟨by decide, by decide⟩ (fun H3 w3 z3 o3 => ?_)
  refine lv_dup hx hb dL_law_11 rfl ?_
  refine lw_con (rest := [.ref (s.heap.size + 203)]) mX6_init (lw_fix C0) hKK dL_law_12 mv_X6_init.1 mv_X6_init.2 (fw_mem 767 (by decide +kernel) rfl) ⟨by decide, by decide⟩ z0 w3 z3 ⟨by decide, by decide⟩ (Nat.le_of_ble_eq_true rfl) hl.1 (sp_X6_init _ _ _ hnw) (fun r N K6 H4 locs4 q1 hNo w4 z4 o4 l4 => ?_)
  obtain ⟨rfl, eK, hq⟩ := q1
  have z4 : H4.size = H3.size + 29 := z4
  have w4 : fw_Wd D cA (s.heap.size + 203) 1 30 fw_RD N K6 H4 := w4
  refine lv_astore_n (lv' := [(2, .ref (s.heap.size + 203)), (1, .ref s.heap.size), (0, .ref b)]) hx hb dL_law_15 rfl hl (by decide) rfl (fun la hl => ?_)
  refine lv_iconst (v := nI 0) hx hb dL_law_16 rfl ?_
  refine lv_istore_n (lv' := [(3, .int (nI 0)), (2, .ref (s.heap.size + 203)), (1, .ref s.heap.size), (0, .ref b)]) hx hb dL_law_17 rfl hl (by decide) rfl (fun la hl => ?_)
  refine W.widen (k := 233) (n := 9641) (by decide) (by decide) ?_
  refine lw_loop hL C0 (L + 7) 0 (by omega) (by omega) H4 locs4 M N L5 K6 ⟨hKK, hMo, hNo, ?_, w4, by omega, by omega, fun q q1 q2 => ?_, fun q hq9 => ?_⟩ ?_ la (lv_sub hl [3, 2, 1, 0] rfl)
  · refine lw_Wd_kept w2 (fun k hk => ?_)
    rw [o4 _ (by omega) (fun h => by have := h.1; omega), o3 _ (by omega)]
  · rw [o4 _ (by omega) (fun h => by have := h.1; omega), o3 _ (by omega), o2 _ (by omega) (fun h => by have := h.1; omega), o1 _ (by omega)]
  · show s.heap.size ≤ q.base
    rcases l4 q hq9 with h | h
    · rcases l2 q h with h | h
      · exact absurd h List.not_mem_nil
      · exact h.1
    · exact Nat.le_trans (Nat.le_add_right _ _) h.1
  · obtain ⟨p1, p2, p3, p4, p5, p6, p7, p8⟩ := hp
    obtain ⟨q1, q2, q3, q4⟩ := hq
    refine rl_begin (M := fun _ _ => 0) (N := fun _ _ => 0) (v := 2) ⟨by decide, by decide⟩ ?_ (by rw [eL, eK]) ⟨p1, p2, p3, p4, p5, p6, p7⟩ p8 ⟨fun k a1 a2 a3 a4 a5 a6 => ?_, q2, q3, q4⟩
    · rw [p3.2 8 (by decide), q2.2.2 3 (by decide) (by decide)]
      exact ⟨rfl, by decide, by decide⟩
    · rw [q1 k a1 a2 a3 a4 a5 a6, fw_updne a1]
