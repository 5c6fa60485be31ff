set_option maxRecDepth 20000 in
set_option maxHeartbeats 4000000 in
theorem lp_X6_pieceAt (m : Int) (hm : 0 ≤ m ∧ m < 4) (l : List pc_P) (M : fw_F) (L : fw_G) (hl : pm_at M L m l) (hn : l.length ≤ 200) (x : Int64) (v : Int) : ∀ (q : Nat) (i e : Int), (l.length : Int) - i < q → 0 ≤ i → i ≤ l.length → ((e = -9 ∧ ∀ j : Nat, (j : Int) < i → ¬ l[j]? = some (x, v)) ∨ (0 ≤ e ∧ l[e.toNat]? = some (x, v))) → fw_D mX6_pieceAt 7 [some (fw_r 0), some (fw_i m), some (fw_l x), none, some (fw_i v), some (fw_i e), some (fw_i i)] [] M L (fun r M2 L2 => M2 = M ∧ L2 = L ∧ ∃ q, r = some (fw_i q) ∧ ((q = -9 ∧ ¬ (x, v) ∈ l) ∨ (0 ≤ q ∧ l[q.toNat]? = some (x, v)))) := by
  intro q
  induction q with
  | zero => intro i e h0 h1 h2; omega
  | succ q ih =>
    intro i e h0 h1 h2 hs
    have e1 := hl.1
    refine fw_iload dX6_pieceAt_7 rfl ?_
    refine fw_aload_n dX6_pieceAt_9 rfl rfl ?_
    refine fw_getr 25 21 rfl dX6_pieceAt_10 ff_6_76 ly1_0 ⟨by decide, by decide⟩ rfl rfl (by decide) ?_
    refine fw_iload_n dX6_pieceAt_13 rfl rfl ?_
    refine fw_iaload dX6_pieceAt_14 ly1_21 ⟨by decide, by decide⟩ ⟨by omega, by omega⟩ ?_
    refine fw_icmp_ge 69 dX6_pieceAt_15 (by decide) (fun h15 => ?_) (fun h15 => ?_)
    · skip
      refine fw_iload dX6_pieceAt_69 rfl ?_
      refine fw_iret dX6_pieceAt_71 ⟨rfl, rfl, rfl⟩ ?_
      refine ⟨rfl, rfl, e, rfl, ?_⟩
      rcases hs with ⟨hs1, hs2⟩ | hs
      · refine Or.inl ⟨hs1, fun h => ?_⟩
        obtain ⟨j, hj⟩ := List.getElem?_of_mem h
        have := (List.getElem?_eq_some_iff.mp hj).1
        exact hs2 j (by omega) hj
      · exact Or.inr hs
    · skip
      obtain ⟨a, ha, a1, a2⟩ := pm_at_get hl h1 (by omega)
      refine fw_aload_n dX6_pieceAt_18 rfl rfl ?_
      refine fw_getr 26 22 rfl dX6_pieceAt_19 ff_6_79 ly1_0 ⟨by decide, by decide⟩ rfl rfl (by decide) ?_
      refine fw_sipush dX6_pieceAt_22 ⟨by decide, by decide⟩ (by decide) ?_
      refine fw_iload_n dX6_pieceAt_25 rfl rfl ?_
      refine fw_imul dX6_pieceAt_26 ⟨by omega, by omega⟩ ?_
      refine fw_iload dX6_pieceAt_27 rfl ?_
      refine fw_iadd dX6_pieceAt_29 ⟨by omega, by omega⟩ ?_
      refine fw_laload dX6_pieceAt_30 ly1_22 ⟨by decide, by decide⟩ ⟨by omega, by omega⟩ ?_
      refine fw_lload_n dX6_pieceAt_31 rfl rfl ?_
      refine fw_lcmp dX6_pieceAt_32 ?_
      refine fw_if_ne 59 dX6_pieceAt_33 (by decide) (fun h33 => ?_) (fun h33 => ?_)
      · skip
        refine fw_iload dX6_pieceAt_59 rfl ?_
        refine fw_istore (ls2 := [_, _, _, _, _, _, _]) dX6_pieceAt_61 (by decide) rfl ?_
        refine fw_iinc (ls2 := [_, _, _, _, _, _, _]) dX6_pieceAt_63 rfl ⟨by omega, by omega⟩ (by decide) rfl ?_
        refine fw_goto 7 dX6_pieceAt_66 (by decide) ?_
        refine ih (i + 1) e (by omega) (by omega) (by omega) ?_
        rcases hs with ⟨hs1, hs2⟩ | hs
        · refine Or.inl ⟨hs1, fun j hj ej => ?_⟩
          rcases (show (j : Int) < i ∨ j = i.toNat by omega) with hji | hji
          · exact hs2 j hji ej
          · rw [hji, ha] at ej; injection ej with ej; rw [ej] at a1 a2
            exact h33 (fw_cmp_0.mpr a1)
        · exact Or.inr hs
      · skip
        refine fw_aload_n dX6_pieceAt_36 rfl rfl ?_
        refine fw_getr 27 23 rfl dX6_pieceAt_37 ff_6_82 ly1_0 ⟨by decide, by decide⟩ rfl rfl (by decide) ?_
        refine fw_sipush dX6_pieceAt_40 ⟨by decide, by decide⟩ (by decide) ?_
        refine fw_iload_n dX6_pieceAt_43 rfl rfl ?_
        refine fw_imul dX6_pieceAt_44 ⟨by omega, by omega⟩ ?_
        refine fw_iload dX6_pieceAt_45 rfl ?_
        refine fw_iadd dX6_pieceAt_47 ⟨by omega, by omega⟩ ?_
        refine fw_iaload dX6_pieceAt_48 ly1_23 ⟨by decide, by decide⟩ ⟨by omega, by omega⟩ ?_
        refine fw_iload dX6_pieceAt_49 rfl ?_
        refine fw_icmp_ne 59 dX6_pieceAt_51 (by decide) (fun h51 => ?_) (fun h51 => ?_)
        · skip
          refine fw_iload dX6_pieceAt_59 rfl ?_
          refine fw_istore (ls2 := [_, _, _, _, _, _, _]) dX6_pieceAt_61 (by decide) rfl ?_
          refine fw_iinc (ls2 := [_, _, _, _, _, _, _]) dX6_pieceAt_63 rfl ⟨by omega, by omega⟩ (by decide) rfl ?_
          refine fw_goto 7 dX6_pieceAt_66 (by decide) ?_
          refine ih (i + 1) e (by omega) (by omega) (by omega) ?_
          rcases hs with ⟨hs1, hs2⟩ | hs
          · refine Or.inl ⟨hs1, fun j hj ej => ?_⟩
            rcases (show (j : Int) < i ∨ j = i.toNat by omega) with hji | hji
            · exact hs2 j hji ej
            · rw [hji, ha] at ej; injection ej with ej; rw [ej] at a1 a2
              exact h51 a2
          · exact Or.inr hs
        · skip
          refine fw_iload dX6_pieceAt_54 rfl ?_
          refine fw_goto 61 dX6_pieceAt_56 (by decide) ?_
          refine fw_istore (ls2 := [_, _, _, _, _, _, _]) dX6_pieceAt_61 (by decide) rfl ?_
          refine fw_iinc (ls2 := [_, _, _, _, _, _, _]) dX6_pieceAt_63 rfl ⟨by omega, by omega⟩ (by decide) rfl ?_
          refine fw_goto 7 dX6_pieceAt_66 (by decide) ?_
          refine ih (i + 1) i (by omega) (by omega) (by omega) (Or.inr ⟨h1, ?_⟩)
          rw [ha, show a = (x, v) from Prod.ext (a1.symm.trans (fw_cmp_0.mp h33)) (a2.symm.trans h51)]

set_option maxRecDepth 20000 in
set_option maxHeartbeats 4000000 in
theorem sp_X6_pieceAt (m : Int) (hm : 0 ≤ m ∧ m < 4) (l : List pc_P) (M : fw_F) (L : fw_G) (hl : pm_at M L m l) (hn : l.length ≤ 200) (x : Int64) (v : Int) : fw_SD mX6_pieceAt [fw_r 0, fw_i m, fw_l x, fw_i v] M L (fun r M2 L2 => M2 = M ∧ L2 = L ∧ ∃ q, r = some (fw_i q) ∧ ((q = -9 ∧ ¬ (x, v) ∈ l) ∨ (0 ≤ q ∧ l[q.toNat]? = some (x, v)))) := by
  refine fw_SP_of pl_X6_pieceAt (ls := [_, _, _, _, _]) rfl (Nat.le_of_ble_eq_true rfl) fun hA hM => ?_
  refine fw_bipush dX6_pieceAt_0 ⟨by decide, by decide⟩ (by decide) ?_
  refine fw_istore (ls2 := [_, _, _, _, _, _]) dX6_pieceAt_2 (by decide) rfl ?_
  refine fw_iconst dX6_pieceAt_4 ⟨by decide, by decide⟩ ?_
  refine fw_istore (ls2 := [_, _, _, _, _, _, _]) dX6_pieceAt_5 (by decide) rfl ?_
  exact lp_X6_pieceAt m hm l M L hl hn x v 201 0 (-9) (by omega) (by decide) (by omega) (Or.inl ⟨rfl, fun j hj => by omega⟩)

set_option maxRecDepth 20000 in
set_option maxHeartbeats 4000000 in
theorem lp_X6_bytesAt (m : Int) (hm : 0 ≤ m ∧ m < 4) (l : List pc_P) (M : fw_F) (L : fw_G) (hl : pm_at M L m l) (hn : l.length ≤ 200) (hok : pc_ok l) : ∀ (q : Nat) (c i : Int), (l.length : Int) - i < q → 0 ≤ i → i ≤ l.length → c = pc_sz (l.take i.toNat) → fw_D mX6_bytesAt 4 [some (fw_r 0), some (fw_i m), some (fw_i c), some (fw_i i)] [] M L (fw_pure (some (fw_i (pc_sz l))) M L) := by
  intro q
  induction q with
  | zero => intro c i h0 h1 h2; omega
  | succ q ih =>
    intro c i h0 h1 h2 h3
    have e1 := hl.1
    refine fw_iload_n dX6_bytesAt_4 rfl rfl ?_
    refine fw_aload_n dX6_bytesAt_5 rfl rfl ?_
    refine fw_getr 25 21 rfl dX6_bytesAt_6 ff_6_76 ly1_0 ⟨by decide, by decide⟩ rfl rfl (by decide) ?_
    refine fw_iload_n dX6_bytesAt_9 rfl rfl ?_
    refine fw_iaload dX6_bytesAt_10 ly1_21 ⟨by decide, by decide⟩ ⟨by omega, by omega⟩ ?_
    refine fw_icmp_ge 35 dX6_bytesAt_11 (by decide) (fun h11 => ?_) (fun h11 => ?_)
    · skip
      refine fw_iload_n dX6_bytesAt_35 rfl rfl ?_
      exact fw_iret dX6_bytesAt_36 ⟨rfl, rfl, rfl⟩ (⟨by rw [h3, show i.toNat = l.length by omega, List.take_length], rfl, rfl⟩)
    · skip
      obtain ⟨a, ha, a1, a2⟩ := pm_at_get hl h1 (by omega)
      have hs : pc_sz (l.take (i + 1).toNat) = pc_sz (l.take i.toNat) + a.2 := by
        rw [show (i + 1).toNat = i.toNat + 1 by omega, List.take_add_one, ha, pc_sz_app]; simp [pc_sz]
      have hm2 := hok a (List.mem_of_getElem? ha)
      have hf := pc_sz_len (l := l.take i.toNat) (fun b hb => hok b (List.mem_of_mem_take hb))
      rw [List.length_take] at hf
      refine fw_iload_n dX6_bytesAt_14 rfl rfl ?_
      refine fw_aload_n dX6_bytesAt_15 rfl rfl ?_
      refine fw_getr 27 23 rfl dX6_bytesAt_16 ff_6_82 ly1_0 ⟨by decide, by decide⟩ rfl rfl (by decide) ?_
      refine fw_sipush dX6_bytesAt_19 ⟨by decide, by decide⟩ (by decide) ?_
      refine fw_iload_n dX6_bytesAt_22 rfl rfl ?_
      refine fw_imul dX6_bytesAt_23 ⟨by omega, by omega⟩ ?_
      refine fw_iload_n dX6_bytesAt_24 rfl rfl ?_
      refine fw_iadd dX6_bytesAt_25 ⟨by omega, by omega⟩ ?_
      refine fw_iaload dX6_bytesAt_26 ly1_23 ⟨by decide, by decide⟩ ⟨by omega, by omega⟩ ?_
      refine fw_iadd dX6_bytesAt_27 ⟨by omega, by omega⟩ ?_
      refine fw_istore_n (ls2 := [_, _, _, _]) dX6_bytesAt_28 rfl (by decide) rfl ?_
      refine fw_iinc (ls2 := [_, _, _, _]) dX6_bytesAt_29 rfl ⟨by omega, by omega⟩ (by decide) rfl ?_
      refine fw_goto 4 dX6_bytesAt_32 (by decide) ?_
      exact ih _ (i + 1) (by omega) (by omega) (by omega) (by rw [hs, a2, h3])

set_option maxRecDepth 20000 in
set_option maxHeartbeats 4000000 in
theorem sp_X6_bytesAt (m : Int) (hm : 0 ≤ m ∧ m < 4) (l : List pc_P) (M : fw_F) (L : fw_G) (hl : pm_at M L m l) (hn : l.length ≤ 200) (hok : pc_ok l) : fw_SD mX6_bytesAt [fw_r 0, fw_i m] M L (fw_pure (some (fw_i (pc_sz l))) M L) := by
  refine fw_SP_of pl_X6_bytesAt (ls := [_, _]) rfl (Nat.le_of_ble_eq_true rfl) fun hA hM => ?_
  refine fw_iconst dX6_bytesAt_0 ⟨by decide, by decide⟩ ?_
  refine fw_istore_n (ls2 := [_, _, _]) dX6_bytesAt_1 rfl (by decide) rfl ?_
  refine fw_iconst dX6_bytesAt_2 ⟨by decide, by decide⟩ ?_
  refine fw_istore_n (ls2 := [_, _, _, _]) dX6_bytesAt_3 rfl (by decide) rfl ?_
  exact lp_X6_bytesAt m hm l M L hl hn hok 201 0 0 (by omega) (by decide) (by omega) rfl

set_option maxRecDepth 20000 in
set_option maxHeartbeats 4000000 in
theorem lp_X6_lacking (m : Int) (hm : 0 ≤ m ∧ m < 4) (l : List pc_P) (M : fw_F) (L : fw_G) (hl : pm_at M L m l) (hn : l.length ≤ 200) (c : List pc_P) (hc : ct_at M L c) (hcn : c.length ≤ 704) (hok : pc_ok c) : ∀ (q : Nat) (s i : Int), (c.length : Int) - i < q → 0 ≤ i → i ≤ c.length → s = pc_sz ((c.take i.toNat).filter (pc_no l)) → fw_D mX6_lacking 4 [some (fw_r 0), some (fw_i m), some (fw_i s), some (fw_i i)] [] M L (fw_pure (some (fw_i (pc_sz (c.filter (pc_no l))))) M L) := by
  intro q
  induction q with
  | zero => intro s i h0 h1 h2; omega
  | succ q ih =>
    intro s i h0 h1 h2 h3
    have e1 := hc.1
    refine fw_iload_n dX6_lacking_4 rfl rfl ?_
    refine fw_aload_n dX6_lacking_5 rfl rfl ?_
    refine fw_geti 28 rfl dX6_lacking_6 ff_6_200 ly1_0 ⟨by decide, by decide⟩ rfl ?_
    refine fw_icmp_ge 53 dX6_lacking_9 (by decide) (fun h9 => ?_) (fun h9 => ?_)
    · skip
      refine fw_iload_n dX6_lacking_53 rfl rfl ?_
      exact fw_iret dX6_lacking_54 ⟨rfl, rfl, rfl⟩ (⟨by rw [h3, show i.toNat = c.length by omega, List.take_length], rfl, rfl⟩)
    · skip
      obtain ⟨a, ha, a1, a2⟩ := ct_at_get hc h1 (by omega)
      have hs : (c.take (i + 1).toNat).filter (pc_no l) = (c.take i.toNat).filter (pc_no l) ++ [a].filter (pc_no l) := by
        rw [show (i + 1).toNat = i.toNat + 1 by omega, List.take_add_one, ha, List.filter_append]; rfl
      have hm2 := hok a (List.mem_of_getElem? ha)
      have hf := pc_sz_len (l := (c.take i.toNat).filter (pc_no l)) (fun b hb => hok b (List.mem_of_mem_take (List.mem_filter.mp hb).1))
      have hf2 := List.length_filter_le (pc_no l) (c.take i.toNat)
      rw [List.length_take] at hf2
      refine fw_iload_n dX6_lacking_12 rfl rfl ?_
      refine fw_aload_n dX6_lacking_13 rfl rfl ?_
      refine fw_iload_n dX6_lacking_14 rfl rfl ?_
      refine fw_aload_n dX6_lacking_15 rfl rfl ?_
      refine fw_getr 29 24 rfl dX6_lacking_16 ff_6_85 ly1_0 ⟨by decide, by decide⟩ rfl rfl (by decide) ?_
      refine fw_iload_n dX6_lacking_19 rfl rfl ?_
      refine fw_laload dX6_lacking_20 ly1_24 ⟨by decide, by decide⟩ ⟨by omega, by omega⟩ ?_
      refine fw_aload_n dX6_lacking_21 rfl rfl ?_
      refine fw_getr 30 25 rfl dX6_lacking_22 ff_6_88 ly1_0 ⟨by decide, by decide⟩ rfl rfl (by decide) ?_
      refine fw_iload_n dX6_lacking_25 rfl rfl ?_
      refine fw_iaload dX6_lacking_26 ly1_25 ⟨by decide, by decide⟩ ⟨by omega, by omega⟩ ?_
      refine fw_cV mX6_pieceAt [_, _, _] dX6_lacking_27 mv_X6_pieceAt lk_6_203 ⟨⟨by decide, by decide⟩, rfl, rfl, rfl, by decide, by decide⟩ ly1_0 ⟨by decide, by decide⟩ rfl rfl (Nat.le_of_ble_eq_true rfl) (sp_X6_pieceAt m hm l M L hl hn _ _) (fun r M1 L1 hp hM1 => ?_)
      obtain ⟨rfl, rfl, z, rfl, hz⟩ := hp
      have hmz : z = -9 ↔ ¬ a ∈ l := by
        rw [show (L1 24 i, M1 25 i) = a from Prod.ext a1 a2] at hz
        rcases hz with hz | hz
        · exact ⟨fun _ => hz.2, fun _ => hz.1⟩
        · exact ⟨fun q => by omega, fun q => absurd (List.mem_of_getElem? hz.2) q⟩
      refine fw_bipush dX6_lacking_30 ⟨by decide, by decide⟩ (by decide) ?_
      refine fw_icmp_ne 44 dX6_lacking_32 (by decide) (fun h32 => ?_) (fun h32 => ?_)
      · skip
        refine fw_iconst dX6_lacking_44 ⟨by decide, by decide⟩ ?_
        refine fw_iadd dX6_lacking_45 ⟨by omega, by omega⟩ ?_
        refine fw_istore_n (ls2 := [_, _, _, _]) dX6_lacking_46 rfl (by decide) rfl ?_
        refine fw_iinc (ls2 := [_, _, _, _]) dX6_lacking_47 rfl ⟨by omega, by omega⟩ (by decide) rfl ?_
        refine fw_goto 4 dX6_lacking_50 (by decide) ?_
        exact ih _ (i + 1) (by omega) (by omega) (by omega) (by rw [hs, List.filter_cons_of_neg (by simp [pc_no]; exact Classical.byContradiction fun q => h32 (hmz.mpr q)), List.filter_nil, List.append_nil, Int.add_zero]; exact h3)
      · skip
        refine fw_aload_n dX6_lacking_35 rfl rfl ?_
        refine fw_getr 30 25 rfl dX6_lacking_36 ff_6_88 ly1_0 ⟨by decide, by decide⟩ rfl rfl (by decide) ?_
        refine fw_iload_n dX6_lacking_39 rfl rfl ?_
        refine fw_iaload dX6_lacking_40 ly1_25 ⟨by decide, by decide⟩ ⟨by omega, by omega⟩ ?_
        refine fw_goto 45 dX6_lacking_41 (by decide) ?_
        refine fw_iadd dX6_lacking_45 ⟨by omega, by omega⟩ ?_
        refine fw_istore_n (ls2 := [_, _, _, _]) dX6_lacking_46 rfl (by decide) rfl ?_
        refine fw_iinc (ls2 := [_, _, _, _]) dX6_lacking_47 rfl ⟨by omega, by omega⟩ (by decide) rfl ?_
        refine fw_goto 4 dX6_lacking_50 (by decide) ?_
        exact ih _ (i + 1) (by omega) (by omega) (by omega) (by rw [hs, List.filter_cons_of_pos (by simp [pc_no]; exact hmz.mp h32), List.filter_nil, pc_sz_app, a2, h3]; simp [pc_sz])

set_option maxRecDepth 20000 in
set_option maxHeartbeats 4000000 in
theorem sp_X6_lacking (m : Int) (hm : 0 ≤ m ∧ m < 4) (l : List pc_P) (M : fw_F) (L : fw_G) (hl : pm_at M L m l) (hn : l.length ≤ 200) (c : List pc_P) (hc : ct_at M L c) (hcn : c.length ≤ 704) (hok : pc_ok c) : fw_SD mX6_lacking [fw_r 0, fw_i m] M L (fw_pure (some (fw_i (pc_sz (c.filter (pc_no l))))) M L) := by
  refine fw_SP_of pl_X6_lacking (ls := [_, _]) rfl (Nat.le_of_ble_eq_true rfl) fun hA hM => ?_
  refine fw_iconst dX6_lacking_0 ⟨by decide, by decide⟩ ?_
  refine fw_istore_n (ls2 := [_, _, _]) dX6_lacking_1 rfl (by decide) rfl ?_
  refine fw_iconst dX6_lacking_2 ⟨by decide, by decide⟩ ?_
  refine fw_istore_n (ls2 := [_, _, _, _]) dX6_lacking_3 rfl (by decide) rfl ?_
  exact lp_X6_lacking m hm l M L hl hn c hc hcn hok 705 0 0 (by omega) (by decide) (by omega) rfl

set_option maxRecDepth 20000 in
set_option maxHeartbeats 4000000 in
theorem lp_X6_takes (m : Int) (hm : 0 ≤ m ∧ m < 4) (l : List pc_P) (N : fw_F) (K : fw_G) (hl : pm_at N K m l) (c : List pc_P) (hc : ct_at N K c) (hcn : c.length ≤ 704) (hokl : pc_ok l) (hok : pc_ok c) (hsz : pc_sz (pc_all l c) ≤ 200) : ∀ (q : Nat) (i : Int) (M : fw_F) (L : fw_G), (c.length : Int) - i < q → 0 ≤ i → i ≤ c.length → pm_at M L m (pc_all l (c.take i.toNat)) → ((∀ k, ¬ k = 21 → ¬ k = 23 → M k = N k) ∧ (∀ k, ¬ k = 22 → L k = K k) ∧ (∀ u, ¬ u = m → M 21 u = N 21 u) ∧ (∀ j, j < 200 * m ∨ 200 * m + 200 ≤ j → L 22 j = K 22 j ∧ M 23 j = N 23 j)) → fw_D mX6_takes 2 [some (fw_r 0), some (fw_i m), some (fw_i i)] [] M L (fun r M2 L2 => r = none ∧ pm_at M2 L2 m (pc_all l c) ∧ (∀ k, ¬ k = 21 → ¬ k = 23 → M2 k = N k) ∧ (∀ k, ¬ k = 22 → L2 k = K k) ∧ (∀ u, ¬ u = m → M2 21 u = N 21 u) ∧ (∀ j, j < 200 * m ∨ 200 * m + 200 ≤ j → L2 22 j = K 22 j ∧ M2 23 j = N 23 j)) := by
  intro q
  induction q with
  | zero => intro i M L h0 h1 h2; omega
  | succ q ih =>
    intro i M L h0 h1 h2 hl2 hf
    obtain ⟨f1, f2, f3, f4⟩ := hf
    have hc2 := ct_at_fr (M := M) (L := L) hc (by rw [f1 0 (by decide) (by decide)]) (f1 25 (by decide) (by decide)) (f2 24 (by decide))
    have e1 := hc2.1
    have e2 := hl2.1
    refine fw_iload_n dX6_takes_2 rfl rfl ?_
    refine fw_aload_n dX6_takes_3 rfl rfl ?_
    refine fw_geti 28 rfl dX6_takes_4 ff_6_200 ly1_0 ⟨by decide, by decide⟩ rfl ?_
    refine fw_icmp_ge 85 dX6_takes_7 (by decide) (fun h7 => ?_) (fun h7 => ?_)
    · skip
      refine fw_vret dX6_takes_85 ⟨rfl, rfl, rfl⟩ ?_
      rw [show i.toNat = c.length by omega, List.take_length] at hl2
      exact ⟨rfl, hl2, f1, f2, f3, f4⟩
    · skip
      obtain ⟨a, ha, a1, a2⟩ := ct_at_get hc2 h1 (by omega)
      have hs : pc_all l (c.take (i + 1).toNat) = pc_ins (pc_all l (c.take i.toNat)) a := by
        rw [show (i + 1).toNat = i.toNat + 1 by omega, List.take_add_one, ha, pc_all_app]; rfl
      have hm2 := hok a (List.mem_of_getElem? ha)
      have hk1 := pc_all_ok hokl (fun b hb => hok b (List.mem_of_mem_take hb)) (c := c.take i.toNat)
      have hln := pc_sz_len hk1
      have hsz1 : pc_sz (pc_all l (c.take (i + 1).toNat)) ≤ pc_sz (pc_all l c) := by
        have hh : pc_all l c = pc_all (pc_all l (c.take (i + 1).toNat)) (c.drop (i + 1).toNat) := by rw [← pc_all_app, List.take_append_drop]
        rw [hh]
        exact pc_all_sz (fun b hb => hok b (List.mem_of_mem_drop hb))
      have hsz0 : pc_sz (pc_all l (c.take i.toNat)) ≤ pc_sz (pc_all l c) := by
        have hh : pc_all l c = pc_all (pc_all l (c.take i.toNat)) (c.drop i.toNat) := by rw [← pc_all_app, List.take_append_drop]
        rw [hh]
        exact pc_all_sz (fun b hb => hok b (List.mem_of_mem_drop hb))
      refine fw_aload_n dX6_takes_10 rfl rfl ?_
      refine fw_iload_n dX6_takes_11 rfl rfl ?_
      refine fw_aload_n dX6_takes_12 rfl rfl ?_
      refine fw_getr 29 24 rfl dX6_takes_13 ff_6_85 ly1_0 ⟨by decide, by decide⟩ rfl rfl (by decide) ?_
      refine fw_iload_n dX6_takes_16 rfl rfl ?_
      refine fw_laload dX6_takes_17 ly1_24 ⟨by decide, by decide⟩ ⟨by omega, by omega⟩ ?_
      refine fw_aload_n dX6_takes_18 rfl rfl ?_
      refine fw_getr 30 25 rfl dX6_takes_19 ff_6_88 ly1_0 ⟨by decide, by decide⟩ rfl rfl (by decide) ?_
      refine fw_iload_n dX6_takes_22 rfl rfl ?_
      refine fw_iaload dX6_takes_23 ly1_25 ⟨by decide, by decide⟩ ⟨by omega, by omega⟩ ?_
      refine fw_cV mX6_pieceAt [_, _, _] dX6_takes_24 mv_X6_pieceAt lk_6_203 ⟨⟨by decide, by decide⟩, rfl, rfl, rfl, by decide, by decide⟩ ly1_0 ⟨by decide, by decide⟩ rfl rfl (Nat.le_of_ble_eq_true rfl) (sp_X6_pieceAt m hm _ M L hl2 (by omega) _ _) (fun r M1 L1 hp hM1 => ?_)
      obtain ⟨rfl, rfl, z, rfl, hz⟩ := hp
      have hmz : z = -9 ↔ ¬ a ∈ pc_all l (c.take i.toNat) := by
        rw [show (L1 24 i, M1 25 i) = a from Prod.ext a1 a2] at hz
        rcases hz with hz | hz
        · exact ⟨fun _ => hz.2, fun _ => hz.1⟩
        · exact ⟨fun q => by omega, fun q => absurd (List.mem_of_getElem? hz.2) q⟩
      refine fw_bipush dX6_takes_27 ⟨by decide, by decide⟩ (by decide) ?_
      refine fw_icmp_ne 79 dX6_takes_29 (by decide) (fun h29 => ?_) (fun h29 => ?_)
      · skip
        refine fw_iinc (ls2 := [_, _, _]) dX6_takes_79 rfl ⟨by omega, by omega⟩ (by decide) rfl ?_
        refine fw_goto 2 dX6_takes_82 (by decide) ?_
        refine ih (i + 1) _ _ (by omega) (by omega) (by omega) ?_ ⟨f1, f2, f3, f4⟩
        rw [hs, pc_ins, if_pos (Classical.byContradiction fun q => h29 (hmz.mpr q))]; exact hl2
      · skip
        have hx : ¬ a ∈ pc_all l (c.take i.toNat) := hmz.mp h29
        have hlt : (pc_all l (c.take i.toNat)).length < 200 := by
          rw [hs, pc_ins, if_neg hx, pc_sz_app] at hsz1
          simp only [pc_sz] at hsz1
          omega
        refine fw_sipush dX6_takes_32 ⟨by decide, by decide⟩ (by decide) ?_
        refine fw_iload_n dX6_takes_35 rfl rfl ?_
        refine fw_imul dX6_takes_36 ⟨by omega, by omega⟩ ?_
        refine fw_aload_n dX6_takes_37 rfl rfl ?_
        refine fw_getr 25 21 rfl dX6_takes_38 ff_6_76 ly1_0 ⟨by decide, by decide⟩ rfl rfl (by decide) ?_
        refine fw_iload_n dX6_takes_41 rfl rfl ?_
        refine fw_iaload dX6_takes_42 ly1_21 ⟨by decide, by decide⟩ ⟨by omega, by omega⟩ ?_
        refine fw_iadd dX6_takes_43 ⟨by omega, by omega⟩ ?_
        refine fw_istore_n (ls2 := [_, _, _, _]) dX6_takes_44 rfl (by decide) rfl ?_
        refine fw_aload_n dX6_takes_45 rfl rfl ?_
        refine fw_getr 26 22 rfl dX6_takes_46 ff_6_79 ly1_0 ⟨by decide, by decide⟩ rfl rfl (by decide) ?_
        refine fw_iload_n dX6_takes_49 rfl rfl ?_
        refine fw_aload_n dX6_takes_50 rfl rfl ?_
        refine fw_getr 29 24 rfl dX6_takes_51 ff_6_85 ly1_0 ⟨by decide, by decide⟩ rfl rfl (by decide) ?_
        refine fw_iload_n dX6_takes_54 rfl rfl ?_
        refine fw_laload dX6_takes_55 ly1_24 ⟨by decide, by decide⟩ ⟨by omega, by omega⟩ ?_
        refine fw_lastore dX6_takes_56 ly1_22 (by decide) ⟨by decide, by decide⟩ ⟨by omega, by omega⟩ ?_
        refine fw_aload_n dX6_takes_57 rfl rfl ?_
        refine fw_getr 27 23 rfl dX6_takes_58 ff_6_82 ly1_0 ⟨by decide, by decide⟩ rfl rfl (by decide) ?_
        refine fw_iload_n dX6_takes_61 rfl rfl ?_
        refine fw_aload_n dX6_takes_62 rfl rfl ?_
        refine fw_getr 30 25 rfl dX6_takes_63 ff_6_88 ly1_0 ⟨by decide, by decide⟩ rfl rfl (by decide) ?_
        refine fw_iload_n dX6_takes_66 rfl rfl ?_
        refine fw_iaload dX6_takes_67 ly1_25 ⟨by decide, by decide⟩ ⟨by omega, by omega⟩ ?_
        refine fw_iastore dX6_takes_68 ly1_23 (by decide) ⟨by decide, by decide⟩ ⟨by omega, by omega⟩ ?_
        refine fw_aload_n dX6_takes_69 rfl rfl ?_
        refine fw_getr 25 21 rfl dX6_takes_70 ff_6_76 ly1_0 ⟨by decide, by decide⟩ rfl rfl (by decide) ?_
        refine fw_iload_n dX6_takes_73 rfl rfl ?_
        refine fw_dup2 dX6_takes_74 rfl rfl ?_
        refine fw_iaload dX6_takes_75 ly1_21 ⟨by decide, by decide⟩ ⟨by omega, by omega⟩ ?_
        simp (disch := decide) only [fw_updne, fw_uplne]
        refine fw_iconst dX6_takes_76 ⟨by decide, by decide⟩ ?_
        refine fw_iadd dX6_takes_77 ⟨by omega, by omega⟩ ?_
        refine fw_iastore dX6_takes_78 ly1_21 (by decide) ⟨by decide, by decide⟩ ⟨by omega, by omega⟩ ?_
        refine fw_iinc (ls2 := [_, _, _, _]) dX6_takes_79 rfl ⟨by omega, by omega⟩ (by decide) rfl ?_
        refine fw_goto 2 dX6_takes_82 (by decide) ?_
        refine fw_take 3 ?_
        refine ih (i + 1) _ _ (by omega) (by omega) (by omega) ?_ ⟨fun k a b => ?_, fun k a => ?_, fun u a => ?_, fun j a => ?_⟩
        · rw [hs, pc_ins, if_neg hx, show a = (L1 24 i, M1 25 i) from (Prod.ext a1 a2).symm]
          refine pm_at_add hl2 ?_ (fun j => ?_) (fun j => ?_)
          · rw [fw_updj]
          · rw [fw_upleq]
          · rw [fw_updne (by decide), fw_updeq]
        · rw [fw_updne a, fw_updne b]; exact f1 k a b
        · rw [fw_uplne a]; exact f2 k a
        · rw [fw_updjn a, fw_updne (by decide)]; exact f3 u a
        · rw [fw_upleq, fw_updne (by decide), fw_updeq, if_neg (by omega), if_neg (by omega)]; exact f4 j a

set_option maxRecDepth 20000 in
set_option maxHeartbeats 4000000 in
theorem sp_X6_takes (m : Int) (hm : 0 ≤ m ∧ m < 4) (l : List pc_P) (N : fw_F) (K : fw_G) (hl : pm_at N K m l) (c : List pc_P) (hc : ct_at N K c) (hcn : c.length ≤ 704) (hokl : pc_ok l) (hok : pc_ok c) (hsz : pc_sz (pc_all l c) ≤ 200) : fw_SD mX6_takes [fw_r 0, fw_i m] N K (fun r M2 L2 => r = none ∧ pm_at M2 L2 m (pc_all l c) ∧ (∀ k, ¬ k = 21 → ¬ k = 23 → M2 k = N k) ∧ (∀ k, ¬ k = 22 → L2 k = K k) ∧ (∀ u, ¬ u = m → M2 21 u = N 21 u) ∧ (∀ j, j < 200 * m ∨ 200 * m + 200 ≤ j → L2 22 j = K 22 j ∧ M2 23 j = N 23 j)) := by
  refine fw_SP_of pl_X6_takes (ls := [_, _]) rfl (Nat.le_of_ble_eq_true rfl) fun hA hM => ?_
  refine fw_iconst dX6_takes_0 ⟨by decide, by decide⟩ ?_
  refine fw_istore_n (ls2 := [_, _, _]) dX6_takes_1 rfl (by decide) rfl ?_
  exact lp_X6_takes m hm l N K hl c hc hcn hokl hok hsz 705 0 N K (by omega) (by decide) (by omega) hl ⟨fun _ _ _ => rfl, fun _ _ => rfl, fun _ _ => rfl, fun _ _ => ⟨rfl, rfl⟩⟩

set_option maxRecDepth 20000 in
set_option maxHeartbeats 4000000 in
theorem lp_X6_isElsewhere (P : Int → List pc_P) (M : fw_F) (L : fw_G) (hP : ∀ q, 0 ≤ q → q < 4 → pm_at M L q (P q) ∧ (P q).length ≤ 200) (m : Int) (hn : 1 ≤ M 0 2 ∧ M 0 2 ≤ 4) (x : Int64) (v : Int) : ∀ (q : Nat) (j f : Int), M 0 2 - j < q → 0 ≤ j → j ≤ M 0 2 → (f = 0 ∨ f = 1) → (f = 1 ↔ pc_el P j m (x, v)) → fw_D mX6_isElsewhere 6 [some (fw_r 0), some (fw_i m), some (fw_l x), none, some (fw_i v), some (fw_i f), some (fw_i j)] [] M L (fun r M2 L2 => M2 = M ∧ L2 = L ∧ ∃ z, r = some (fw_i z) ∧ (z = 0 ∨ z = 1) ∧ (z = 1 ↔ pc_el P (M 0 2) m (x, v))) := by
  intro q
  induction q with
  | zero => intro j f h0 h1 h2; omega
  | succ q ih =>
    intro j f h0 h1 h2 h3 h4
    refine fw_iload dX6_isElsewhere_6 rfl ?_
    refine fw_aload_n dX6_isElsewhere_8 rfl rfl ?_
    refine fw_geti 2 rfl dX6_isElsewhere_9 ff_6_7 ly1_0 ⟨by decide, by decide⟩ rfl ?_
    refine fw_icmp_ge 51 dX6_isElsewhere_12 (by decide) (fun h12 => ?_) (fun h12 => ?_)
    · skip
      refine fw_iload dX6_isElsewhere_51 rfl ?_
      refine fw_zret dX6_isElsewhere_53 ⟨rfl, rfl, rfl⟩ h3 ?_
      rw [show j = M 0 2 by omega] at h4
      exact ⟨rfl, rfl, f, rfl, h3, h4⟩
    · skip
      refine fw_iload dX6_isElsewhere_15 rfl ?_
      refine fw_iload dX6_isElsewhere_17 rfl ?_
      refine fw_iload_n dX6_isElsewhere_19 rfl rfl ?_
      refine fw_icmp_eq 41 dX6_isElsewhere_20 (by decide) (fun h20 => ?_) (fun h20 => ?_)
      · skip
        refine fw_iconst dX6_isElsewhere_41 ⟨by decide, by decide⟩ ?_
        refine fw_ior dX6_isElsewhere_42 ?_
        refine fw_istore (ls2 := [_, _, _, _, _, _, _]) dX6_isElsewhere_43 (by decide) rfl ?_
        refine fw_iinc (ls2 := [_, _, _, _, _, _, _]) dX6_isElsewhere_45 rfl ⟨by omega, by omega⟩ (by decide) rfl ?_
        refine fw_goto 6 dX6_isElsewhere_48 (by decide) ?_
        rw [fw_or01 h3 (by first | exact Or.inl rfl | exact Or.inr rfl)]
        rw [if_pos (show (0 : Int) = 0 from rfl)]
        refine ih (j + 1) f (by omega) (by omega) (by omega) h3 (h4.trans ⟨fun ⟨u, u1, u2, u3⟩ => ⟨u, u1, by omega, u3⟩, fun ⟨u, u1, u2, u3, u4⟩ => ?_⟩)
        rcases (show u < j ∨ u = j by omega) with u5 | u5
        · exact ⟨u, u1, u5, u3, u4⟩
        · rw [u5] at u3 u4; exact absurd h20 u3
      · skip
        obtain ⟨p1, p2⟩ := hP j h1 (by omega)
        refine fw_aload_n dX6_isElsewhere_23 rfl rfl ?_
        refine fw_iload dX6_isElsewhere_24 rfl ?_
        refine fw_lload_n dX6_isElsewhere_26 rfl rfl ?_
        refine fw_iload dX6_isElsewhere_27 rfl ?_
        refine fw_cV mX6_pieceAt [_, _, _] dX6_isElsewhere_29 mv_X6_pieceAt lk_6_203 ⟨⟨by decide, by decide⟩, rfl, rfl, rfl, by decide, by decide⟩ ly1_0 ⟨by decide, by decide⟩ rfl rfl (Nat.le_of_ble_eq_true rfl) (sp_X6_pieceAt j (by omega) (P j) M L p1 p2 x v) (fun r M1 L1 hp hM1 => ?_)
        obtain ⟨rfl, rfl, z, rfl, hz⟩ := hp
        have hmz : z = -9 ↔ ¬ (x, v) ∈ P j := by
          rcases hz with hz | hz
          · exact ⟨fun _ => hz.2, fun _ => hz.1⟩
          · exact ⟨fun q => by omega, fun q => absurd (List.mem_of_getElem? hz.2) q⟩
        refine fw_bipush dX6_isElsewhere_32 ⟨by decide, by decide⟩ (by decide) ?_
        refine fw_icmp_eq 41 dX6_isElsewhere_34 (by decide) (fun h34 => ?_) (fun h34 => ?_)
        · skip
          refine fw_iconst dX6_isElsewhere_41 ⟨by decide, by decide⟩ ?_
          refine fw_ior dX6_isElsewhere_42 ?_
          refine fw_istore (ls2 := [_, _, _, _, _, _, _]) dX6_isElsewhere_43 (by decide) rfl ?_
          refine fw_iinc (ls2 := [_, _, _, _, _, _, _]) dX6_isElsewhere_45 rfl ⟨by omega, by omega⟩ (by decide) rfl ?_
          refine fw_goto 6 dX6_isElsewhere_48 (by decide) ?_
          rw [fw_or01 h3 (by first | exact Or.inl rfl | exact Or.inr rfl)]
          rw [if_pos (show (0 : Int) = 0 from rfl)]
          refine ih (j + 1) f (by omega) (by omega) (by omega) h3 (h4.trans ⟨fun ⟨u, u1, u2, u3⟩ => ⟨u, u1, by omega, u3⟩, fun ⟨u, u1, u2, u3, u4⟩ => ?_⟩)
          rcases (show u < j ∨ u = j by omega) with u5 | u5
          · exact ⟨u, u1, u5, u3, u4⟩
          · rw [u5] at u3 u4; exact absurd u4 (hmz.mp h34)
        · skip
          refine fw_iconst dX6_isElsewhere_37 ⟨by decide, by decide⟩ ?_
          refine fw_goto 42 dX6_isElsewhere_38 (by decide) ?_
          refine fw_ior dX6_isElsewhere_42 ?_
          refine fw_istore (ls2 := [_, _, _, _, _, _, _]) dX6_isElsewhere_43 (by decide) rfl ?_
          refine fw_iinc (ls2 := [_, _, _, _, _, _, _]) dX6_isElsewhere_45 rfl ⟨by omega, by omega⟩ (by decide) rfl ?_
          refine fw_goto 6 dX6_isElsewhere_48 (by decide) ?_
          rw [fw_or01 h3 (by first | exact Or.inl rfl | exact Or.inr rfl)]
          rw [if_neg (show ¬ (1 : Int) = 0 by decide)]
          exact ih (j + 1) 1 (by omega) (by omega) (by omega) (Or.inr rfl) ⟨fun _ => ⟨j, h1, by omega, h20, Classical.byContradiction fun q => h34 (hmz.mpr q)⟩, fun _ => rfl⟩

set_option maxRecDepth 20000 in
set_option maxHeartbeats 4000000 in
theorem sp_X6_isElsewhere (P : Int → List pc_P) (M : fw_F) (L : fw_G) (hP : ∀ q, 0 ≤ q → q < 4 → pm_at M L q (P q) ∧ (P q).length ≤ 200) (m : Int) (hn : 1 ≤ M 0 2 ∧ M 0 2 ≤ 4) (x : Int64) (v : Int) : fw_SD mX6_isElsewhere [fw_r 0, fw_i m, fw_l x, fw_i v] M L (fun r M2 L2 => M2 = M ∧ L2 = L ∧ ∃ z, r = some (fw_i z) ∧ (z = 0 ∨ z = 1) ∧ (z = 1 ↔ pc_el P (M 0 2) m (x, v))) := by
  refine fw_SP_of pl_X6_isElsewhere (ls := [_, _, _, _, _]) rfl (Nat.le_of_ble_eq_true rfl) fun hA hM => ?_
  refine fw_iconst dX6_isElsewhere_0 ⟨by decide, by decide⟩ ?_
  refine fw_istore (ls2 := [_, _, _, _, _, _]) dX6_isElsewhere_1 (by decide) rfl ?_
  refine fw_iconst dX6_isElsewhere_3 ⟨by decide, by decide⟩ ?_
  refine fw_istore (ls2 := [_, _, _, _, _, _, _]) dX6_isElsewhere_4 (by decide) rfl ?_
  exact lp_X6_isElsewhere P M L hP m hn x v 5 0 0 (by omega) (by decide) (by omega) (Or.inl rfl) ⟨fun z => by omega, fun ⟨u, u1, u2, _⟩ => by omega⟩

set_option maxRecDepth 20000 in
set_option maxHeartbeats 4000000 in
theorem sp_X6_sizeOf (y : Int) (M : fw_F) (L : fw_G) (h : 0 ≤ y ∧ y < 80) : fw_SD mX6_sizeOf [fw_r 0, fw_i y] M L (fw_pure (some (fw_i (M 2 (12 * y + 3)))) M L) := by
  refine fw_SP_of pl_X6_sizeOf (ls := [_, _]) rfl (Nat.le_of_ble_eq_true rfl) fun hA hM => ?_
  refine fw_aload_n dX6_sizeOf_0 rfl rfl ?_
  refine fw_getr 6 2 rfl dX6_sizeOf_1 ff_6_17 ly1_0 ⟨by decide, by decide⟩ rfl rfl (by decide) ?_
  refine fw_bipush dX6_sizeOf_4 ⟨by decide, by decide⟩ (by decide) ?_
  refine fw_iload_n dX6_sizeOf_6 rfl rfl ?_
  refine fw_imul dX6_sizeOf_7 ⟨by omega, by omega⟩ ?_
  refine fw_iconst dX6_sizeOf_8 ⟨by decide, by decide⟩ ?_
  refine fw_iadd dX6_sizeOf_9 ⟨by omega, by omega⟩ ?_
  refine fw_iaload dX6_sizeOf_10 ly1_2 ⟨by decide, by decide⟩ ⟨by omega, by omega⟩ ?_
  exact fw_iret dX6_sizeOf_11 ⟨rfl, rfl, rfl⟩ (⟨rfl, rfl, rfl⟩)

def md_rw (N : fw_F) (t : Int) : Prop := (0 ≤ t ∧ t < 12) ∧ (0 ≤ N 17 t ∧ N 17 t ≤ 4) ∧ ∀ r, 0 ≤ r → r < N 17 t → (0 ≤ N 18 (16 * t + r) ∧ N 18 (16 * t + r) < 80) ∧ 0 ≤ N 2 (12 * N 18 (16 * t + r) + 3) ∧ N 2 (12 * N 18 (16 * t + r) + 3) ≤ 8
def md_bc (N : fw_F) (t : Int) : Int := ab_sm (fun r => N 2 (12 * N 18 (16 * t + r) + 3)) (N 17 t).toNat
def md_fs (N : fw_F) (K : fw_G) (t : Int) : List pc_P := pc_fr (fun y => K 3 y) (fun y => N 2 (12 * y + 3)) (fun r => N 18 (16 * t + r)) (N 17 t).toNat
theorem md_fs_ok {N : fw_F} {K : fw_G} {t : Int} (h : md_rw N t) : pc_ok (md_fs N K t) ∧ (md_fs N K t).length ≤ 32 := by
  have := pc_fr_ok (C := fun y => K 3 y) (Z := fun y => N 2 (12 * y + 3)) (R := fun r => N 18 (16 * t + r)) (N 17 t).toNat (fun i a b => (h.2.2 i a (by have := h.2.1; omega)).2.2)
  refine ⟨this.1, ?_⟩
  have h2 := this.2
  have h3 := h.2.1
  show (pc_fr _ _ _ _).length ≤ _
  omega

set_option maxRecDepth 20000 in
set_option maxHeartbeats 4000000 in
theorem lp_X6_held (t : Int) (M : fw_F) (L : fw_G) (hw : md_rw M t) : ∀ (q : Nat) (c i : Int), M 17 t - i < q → 0 ≤ i → i ≤ M 17 t → c = ab_sm (fun r => M 2 (12 * M 18 (16 * t + r) + 3)) i.toNat → fw_D mX6_held 4 [some (fw_r 0), some (fw_i t), some (fw_i c), some (fw_i i)] [] M L (fw_pure (some (fw_i (md_bc M t))) M L) := by
  intro q
  induction q with
  | zero => intro c i h0 h1 h2; omega
  | succ q ih =>
    intro c i h0 h1 h2 h3
    obtain ⟨w1, w2, w3⟩ := hw
    have hr := ab_sm_rng (f := (fun r => M 2 (12 * M 18 (16 * t + r) + 3))) (a := 0) (b := 8) i.toNat (fun j a b => (w3 j a (by omega)).2)
    refine fw_iload_n dX6_held_4 rfl rfl ?_
    refine fw_aload_n dX6_held_5 rfl rfl ?_
    refine fw_getr 21 17 rfl dX6_held_6 ff_6_64 ly1_0 ⟨by decide, by decide⟩ rfl rfl (by decide) ?_
    refine fw_iload_n dX6_held_9 rfl rfl ?_
    refine fw_iaload dX6_held_10 ly1_17 ⟨by decide, by decide⟩ ⟨by omega, by omega⟩ ?_
    refine fw_icmp_ge 38 dX6_held_11 (by decide) (fun h11 => ?_) (fun h11 => ?_)
    · skip
      refine fw_iload_n dX6_held_38 rfl rfl ?_
      exact fw_iret dX6_held_39 ⟨rfl, rfl, rfl⟩ (⟨by rw [h3, show i.toNat = (M 17 t).toNat by omega]; rfl, rfl, rfl⟩)
    · skip
      obtain ⟨w4, w5⟩ := w3 i h1 (by omega)
      refine fw_iload_n dX6_held_14 rfl rfl ?_
      refine fw_aload_n dX6_held_15 rfl rfl ?_
      refine fw_aload_n dX6_held_16 rfl rfl ?_
      refine fw_getr 22 18 rfl dX6_held_17 ff_6_67 ly1_0 ⟨by decide, by decide⟩ rfl rfl (by decide) ?_
      refine fw_bipush dX6_held_20 ⟨by decide, by decide⟩ (by decide) ?_
      refine fw_iload_n dX6_held_22 rfl rfl ?_
      refine fw_imul dX6_held_23 ⟨by omega, by omega⟩ ?_
      refine fw_iload_n dX6_held_24 rfl rfl ?_
      refine fw_iadd dX6_held_25 ⟨by omega, by omega⟩ ?_
      refine fw_iaload dX6_held_26 ly1_18 ⟨by decide, by decide⟩ ⟨by omega, by omega⟩ ?_
      refine fw_pV mX6_sizeOf [_] dX6_held_27 mv_X6_sizeOf lk_6_230 ⟨⟨by decide, by decide⟩, rfl, rfl, rfl, by decide, by decide⟩ ly1_0 ⟨by decide, by decide⟩ rfl rfl (Nat.le_of_ble_eq_true rfl) (sp_X6_sizeOf _ _ _ (by omega)) ?_
      refine fw_iadd dX6_held_30 ⟨by omega, by omega⟩ ?_
      refine fw_istore_n (ls2 := [_, _, _, _]) dX6_held_31 rfl (by decide) rfl ?_
      refine fw_iinc (ls2 := [_, _, _, _]) dX6_held_32 rfl ⟨by omega, by omega⟩ (by decide) rfl ?_
      refine fw_goto 4 dX6_held_35 (by decide) ?_
      exact ih _ (i + 1) (by omega) (by omega) (by omega) (by rw [ab_sm_s _ h1, h3])

set_option maxRecDepth 20000 in
set_option maxHeartbeats 4000000 in
theorem sp_X6_held (t : Int) (M : fw_F) (L : fw_G) (hw : md_rw M t) : fw_SD mX6_held [fw_r 0, fw_i t] M L (fw_pure (some (fw_i (md_bc M t))) M L) := by
  refine fw_SP_of pl_X6_held (ls := [_, _]) rfl (Nat.le_of_ble_eq_true rfl) fun hA hM => ?_
  refine fw_iconst dX6_held_0 ⟨by decide, by decide⟩ ?_
  refine fw_istore_n (ls2 := [_, _, _]) dX6_held_1 rfl (by decide) rfl ?_
  refine fw_iconst dX6_held_2 ⟨by decide, by decide⟩ ?_
  refine fw_istore_n (ls2 := [_, _, _, _]) dX6_held_3 rfl (by decide) rfl ?_
  exact lp_X6_held t M L hw 5 0 0 (by have := hw.2.1; omega) (by decide) (by have := hw.2.1; omega) rfl

set_option maxRecDepth 20000 in
set_option maxHeartbeats 4000000 in
theorem lp_X6_inside (t : Int) (M : fw_F) (L : fw_G) : ∀ (q : Nat) (c i : Int), 12 - i < q → 1 ≤ i → i ≤ 12 → c = ab_sm (fun i => if ¬ M 11 (i + 1) = 0 ∧ M 13 (i + 1) = t then 1 else 0) (i - 1).toNat → fw_D mX6_inside 4 [some (fw_r 0), some (fw_i t), some (fw_i c), some (fw_i i)] [] M L (fw_pure (some (fw_i (ab_sm (fun i => if ¬ M 11 (i + 1) = 0 ∧ M 13 (i + 1) = t then 1 else 0) 11))) M L) := by
  intro q
  induction q with
  | zero => intro c i h0 h1 h2; omega
  | succ q ih =>
    intro c i h0 h1 h2 h3
    have hr := ab_sm_rng (f := (fun i => if ¬ M 11 (i + 1) = 0 ∧ M 13 (i + 1) = t then 1 else 0)) (a := 0) (b := 1) (i - 1).toNat (fun i _ _ => by split <;> omega)
    refine fw_iload_n dX6_inside_4 rfl rfl ?_
    refine fw_bipush dX6_inside_5 ⟨by decide, by decide⟩ (by decide) ?_
    refine fw_icmp_ge 43 dX6_inside_7 (by decide) (fun h7 => ?_) (fun h7 => ?_)
    · skip
      refine fw_iload_n dX6_inside_43 rfl rfl ?_
      exact fw_iret dX6_inside_44 ⟨rfl, rfl, rfl⟩ (⟨by rw [h3, show (i - 1).toNat = 11 by omega], rfl, rfl⟩)
    · skip
      refine fw_iload_n dX6_inside_10 rfl rfl ?_
      refine fw_aload_n dX6_inside_11 rfl rfl ?_
      refine fw_getr 15 11 rfl dX6_inside_12 ff_6_46 ly1_0 ⟨by decide, by decide⟩ rfl rfl (by decide) ?_
      refine fw_iload_n dX6_inside_15 rfl rfl ?_
      refine fw_baload dX6_inside_16 ly1_11 ⟨by decide, by decide⟩ ⟨by omega, by omega⟩ ?_
      refine fw_if_eq 34 dX6_inside_17 (by decide) (fun h17 => ?_) (fun h17 => ?_)
      · skip
        refine fw_iconst dX6_inside_34 ⟨by decide, by decide⟩ ?_
        refine fw_iadd dX6_inside_35 ⟨by omega, by omega⟩ ?_
        refine fw_istore_n (ls2 := [_, _, _, _]) dX6_inside_36 rfl (by decide) rfl ?_
        refine fw_iinc (ls2 := [_, _, _, _]) dX6_inside_37 rfl ⟨by omega, by omega⟩ (by decide) rfl ?_
        refine fw_goto 4 dX6_inside_40 (by decide) ?_
        exact ih _ (i + 1) (by omega) (by omega) (by omega) (by rw [show i + 1 - 1 = (i - 1) + 1 by omega, ab_sm_s _ (show 0 ≤ i - 1 by omega), show i - 1 + 1 = i by omega, if_neg (fun z => z.1 h17), h3])
      · skip
        refine fw_aload_n dX6_inside_20 rfl rfl ?_
        refine fw_getr 17 13 rfl dX6_inside_21 ff_6_52 ly1_0 ⟨by decide, by decide⟩ rfl rfl (by decide) ?_
        refine fw_iload_n dX6_inside_24 rfl rfl ?_
        refine fw_iaload dX6_inside_25 ly1_13 ⟨by decide, by decide⟩ ⟨by omega, by omega⟩ ?_
        refine fw_iload_n dX6_inside_26 rfl rfl ?_
        refine fw_icmp_ne 34 dX6_inside_27 (by decide) (fun h27 => ?_) (fun h27 => ?_)
        · skip
          refine fw_iconst dX6_inside_34 ⟨by decide, by decide⟩ ?_
          refine fw_iadd dX6_inside_35 ⟨by omega, by omega⟩ ?_
          refine fw_istore_n (ls2 := [_, _, _, _]) dX6_inside_36 rfl (by decide) rfl ?_
          refine fw_iinc (ls2 := [_, _, _, _]) dX6_inside_37 rfl ⟨by omega, by omega⟩ (by decide) rfl ?_
          refine fw_goto 4 dX6_inside_40 (by decide) ?_
          exact ih _ (i + 1) (by omega) (by omega) (by omega) (by rw [show i + 1 - 1 = (i - 1) + 1 by omega, ab_sm_s _ (show 0 ≤ i - 1 by omega), show i - 1 + 1 = i by omega, if_neg (fun z => h27 z.2), h3])
        · skip
          refine fw_iconst dX6_inside_30 ⟨by decide, by decide⟩ ?_
          refine fw_goto 35 dX6_inside_31 (by decide) ?_
          refine fw_iadd dX6_inside_35 ⟨by omega, by omega⟩ ?_
          refine fw_istore_n (ls2 := [_, _, _, _]) dX6_inside_36 rfl (by decide) rfl ?_
          refine fw_iinc (ls2 := [_, _, _, _]) dX6_inside_37 rfl ⟨by omega, by omega⟩ (by decide) rfl ?_
          refine fw_goto 4 dX6_inside_40 (by decide) ?_
          exact ih _ (i + 1) (by omega) (by omega) (by omega) (by rw [show i + 1 - 1 = (i - 1) + 1 by omega, ab_sm_s _ (show 0 ≤ i - 1 by omega), show i - 1 + 1 = i by omega, if_pos ⟨h17, h27⟩, h3])

set_option maxRecDepth 20000 in
set_option maxHeartbeats 4000000 in
theorem sp_X6_inside (t : Int) (M : fw_F) (L : fw_G) : fw_SD mX6_inside [fw_r 0, fw_i t] M L (fw_pure (some (fw_i (ab_sm (fun i => if ¬ M 11 (i + 1) = 0 ∧ M 13 (i + 1) = t then 1 else 0) 11))) M L) := by
  refine fw_SP_of pl_X6_inside (ls := [_, _]) rfl (Nat.le_of_ble_eq_true rfl) fun hA hM => ?_
  refine fw_iconst dX6_inside_0 ⟨by decide, by decide⟩ ?_
  refine fw_istore_n (ls2 := [_, _, _]) dX6_inside_1 rfl (by decide) rfl ?_
  refine fw_iconst dX6_inside_2 ⟨by decide, by decide⟩ ?_
  refine fw_istore_n (ls2 := [_, _, _, _]) dX6_inside_3 rfl (by decide) rfl ?_
  exact lp_X6_inside t M L 12 0 1 (by decide) (by decide) (by decide) rfl

set_option maxRecDepth 20000 in
set_option maxHeartbeats 4000000 in
theorem lp_X6_cutsFile (c : List pc_P) (N : fw_F) (K : fw_G) (hl : ct_at N K c) (hok : pc_ok c) (t : Int) (hw : md_rw N t) (hc : c.length + 32 ≤ 704) : ∀ (q : Nat) (i : Int) (M : fw_F) (L : fw_G), N 17 t - i < q → 0 ≤ i → i ≤ N 17 t → ct_at M L (pc_all c (pc_fr (fun y => K 3 y) (fun y => N 2 (12 * y + 3)) (fun r => N 18 (16 * t + r)) i.toNat)) → md_fc N K M L → fw_D mX6_cutsFile 2 [some (fw_r 0), some (fw_i t), some (fw_i i)] [] M L (fun r M2 L2 => r = none ∧ md_fc N K M2 L2 ∧ ct_at M2 L2 (pc_all c (md_fs N K t))) := by
  intro q
  induction q with
  | zero => intro i M L h0 h1 h2; omega
  | succ q ih =>
    intro i M L h0 h1 h2 hl2 hfc
    obtain ⟨w1, w2, w3⟩ := hw
    have e17 := hfc.1 17 (by decide) (by decide)
    have e18 := hfc.1 18 (by decide) (by decide)
    have e2 := hfc.1 2 (by decide) (by decide)
    have e3 := hfc.2.2 3 (by decide)
    refine fw_iload_n dX6_cutsFile_2 rfl rfl ?_
    refine fw_aload_n dX6_cutsFile_3 rfl rfl ?_
    refine fw_getr 21 17 rfl dX6_cutsFile_4 ff_6_64 ly1_0 ⟨by decide, by decide⟩ rfl rfl (by decide) ?_
    refine fw_iload_n dX6_cutsFile_7 rfl rfl ?_
    refine fw_iaload dX6_cutsFile_8 ly1_17 ⟨by decide, by decide⟩ ⟨by omega, by omega⟩ ?_
    rw [e17]
    refine fw_icmp_ge 45 dX6_cutsFile_9 (by decide) (fun h9 => ?_) (fun h9 => ?_)
    · skip
      refine fw_vret dX6_cutsFile_45 ⟨rfl, rfl, rfl⟩ ?_
      rw [show i.toNat = (N 17 t).toNat by omega] at hl2
      exact ⟨rfl, hfc, hl2⟩
    · skip
      obtain ⟨w4, w5⟩ := w3 i h1 (by omega)
      have hs := pc_fr_s (fun y => K 3 y) (fun y => N 2 (12 * y + 3)) (fun r => N 18 (16 * t + r)) h1
      have hk := pc_fr_ok (C := fun y => K 3 y) (Z := fun y => N 2 (12 * y + 3)) (R := fun r => N 18 (16 * t + r)) i.toNat (fun j a b => (w3 j a (by omega)).2.2)
      have hln := pc_all_len (pc_fr (fun y => K 3 y) (fun y => N 2 (12 * y + 3)) (fun r => N 18 (16 * t + r)) i.toNat) c
      refine fw_aload_n dX6_cutsFile_12 rfl rfl ?_
      refine fw_getr 22 18 rfl dX6_cutsFile_13 ff_6_67 ly1_0 ⟨by decide, by decide⟩ rfl rfl (by decide) ?_
      refine fw_bipush dX6_cutsFile_16 ⟨by decide, by decide⟩ (by decide) ?_
      refine fw_iload_n dX6_cutsFile_18 rfl rfl ?_
      refine fw_imul dX6_cutsFile_19 ⟨by omega, by omega⟩ ?_
      refine fw_iload_n dX6_cutsFile_20 rfl rfl ?_
      refine fw_iadd dX6_cutsFile_21 ⟨by omega, by omega⟩ ?_
      refine fw_iaload dX6_cutsFile_22 ly1_18 ⟨by decide, by decide⟩ ⟨by omega, by omega⟩ ?_
      rw [e18]
      refine fw_istore_n (ls2 := [_, _, _, _]) dX6_cutsFile_23 rfl (by decide) rfl ?_
      refine fw_aload_n dX6_cutsFile_24 rfl rfl ?_
      refine fw_aload_n dX6_cutsFile_25 rfl rfl ?_
      refine fw_getr 7 3 rfl dX6_cutsFile_26 ff_6_20 ly1_0 ⟨by decide, by decide⟩ rfl rfl (by decide) ?_
      refine fw_iload_n dX6_cutsFile_29 rfl rfl ?_
      refine fw_laload dX6_cutsFile_30 ly1_3 ⟨by decide, by decide⟩ ⟨by omega, by omega⟩ ?_
      refine fw_aload_n dX6_cutsFile_31 rfl rfl ?_
      refine fw_iload_n dX6_cutsFile_32 rfl rfl ?_
      refine fw_pV mX6_sizeOf [_] dX6_cutsFile_33 mv_X6_sizeOf lk_6_230 ⟨⟨by decide, by decide⟩, rfl, rfl, rfl, by decide, by decide⟩ ly1_0 ⟨by decide, by decide⟩ rfl rfl (Nat.le_of_ble_eq_true rfl) (sp_X6_sizeOf _ _ _ (by omega)) ?_
      rw [e2, e3]
      refine fw_cV mX6_cuts [_, _] dX6_cutsFile_36 mv_X6_cuts lk_6_207 ⟨⟨by decide, by decide⟩, rfl, rfl, rfl, by decide, by decide⟩ ly1_0 ⟨by decide, by decide⟩ rfl rfl (Nat.le_of_ble_eq_true rfl) (sp_X6_cuts _ M L hl2 (pc_all_ok hok hk.1) _ _ (by omega) (by omega)) (fun r M1 L1 hp hM1 => ?_)
      obtain ⟨rfl, g1, g3⟩ := hp
      rw [← pc_all_app] at g3
      refine fw_iinc (ls2 := [_, _, _, _]) dX6_cutsFile_39 rfl ⟨by omega, by omega⟩ (by decide) rfl ?_
      refine fw_goto 2 dX6_cutsFile_42 (by decide) ?_
      refine fw_take 3 ?_
      exact ih (i + 1) _ _ (by omega) (by omega) (by omega) (by rw [hs]; exact g3) (hfc.tr g1)

set_option maxRecDepth 20000 in
set_option maxHeartbeats 4000000 in
theorem sp_X6_cutsFile (c : List pc_P) (N : fw_F) (K : fw_G) (hl : ct_at N K c) (hok : pc_ok c) (t : Int) (hw : md_rw N t) (hc : c.length + 32 ≤ 704) : fw_SD mX6_cutsFile [fw_r 0, fw_i t] N K (fun r M2 L2 => r = none ∧ md_fc N K M2 L2 ∧ ct_at M2 L2 (pc_all c (md_fs N K t))) := by
  refine fw_SP_of pl_X6_cutsFile (ls := [_, _]) rfl (Nat.le_of_ble_eq_true rfl) fun hA hM => ?_
  refine fw_iconst dX6_cutsFile_0 ⟨by decide, by decide⟩ ?_
  refine fw_istore_n (ls2 := [_, _, _]) dX6_cutsFile_1 rfl (by decide) rfl ?_
  exact lp_X6_cutsFile c N K hl hok t hw hc 5 0 N K (by have := hw.2.1; omega) (by decide) (by have := hw.2.1; omega) hl (md_fc.rfl' N K)
