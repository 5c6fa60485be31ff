set_option maxRecDepth 20000 in
set_option maxHeartbeats 4000000 in
theorem sp_X2_empty (p : Int) (n : Nat) (hps : fw_ps p n) (M : fw_F) (L : fw_G) : fw_SC mX2_empty [fw_r p] M L (fun r M2 L2 => r = none ∧ L2 = L ∧ (∀ k, ¬ k = p → M2 k = M k) ∧ ps_at M2 L2 p []) := by
  refine fw_SP_of pl_X2_empty (ls := [_]) rfl (Nat.le_of_ble_eq_true rfl) fun hA hM => ?_
  refine fw_aload_n dX2_empty_0 rfl rfl ?_
  refine fw_iconst dX2_empty_1 ⟨by decide, by decide⟩ ?_
  refine fw_puti 2 rfl dX2_empty_2 fp_2_25 hps.1 (by decide) ⟨by have := hps.2.2.2.2.2; omega, by have := hps.2.2.2.2.2; omega⟩ rfl ?_
  refine fw_aload_n dX2_empty_5 rfl rfl ?_
  refine fw_iconst dX2_empty_6 ⟨by decide, by decide⟩ ?_
  refine fw_puti 3 rfl dX2_empty_7 fp_2_29 hps.1 (by decide) ⟨by have := hps.2.2.2.2.2; omega, by have := hps.2.2.2.2.2; omega⟩ rfl ?_
  refine fw_vret dX2_empty_10 ⟨rfl, rfl, rfl⟩ ?_
  refine ⟨rfl, rfl, fun k a => ?_, ?_, ?_, fun i a h => ?_⟩
  · simp (disch := omega) only [fw_updne]
  · rw [fw_updjn (by decide), fw_updj]; rfl
  · rw [fw_updj]; rfl
  · simp at h

set_option maxRecDepth 20000 in
set_option maxHeartbeats 4000000 in
theorem lp_X2_placeOf (p : Int) (n : Nat) (hps : fw_ps p n) (l : List pc_P) (M : fw_F) (L : fw_G) (hl : ps_at M L p l) (hn : l.length ≤ n) (hn4 : n ≤ 400) (x : Int64) (v : Int) : ∀ (q : Nat) (i : Int), (l.length : Int) - i < q → 0 ≤ i → i ≤ l.length → (∀ j : Nat, (j : Int) < i → ¬ l[j]? = some (x, v)) → fw_C mX2_placeOf 3 [some (fw_r p), some (fw_l x), none, some (fw_i v), some (fw_i i)] [] M L (fun r M2 L2 => M2 = M ∧ L2 = L ∧ ∃ q, r = some (fw_i q) ∧ ((q = -9 ∧ ¬ (x, v) ∈ l) ∨ (0 ≤ q ∧ l[q.toNat]? = some (x, v)))) := by
  intro q
  induction q with
  | zero => intro i h0 h1 h2; omega
  | succ q ih =>
    intro i h0 h1 h2 hs
    have e1 := hl.1
    refine fw_iload dX2_placeOf_3 rfl ?_
    refine fw_aload_n dX2_placeOf_5 rfl rfl ?_
    refine fw_geti 2 rfl dX2_placeOf_6 ff_2_25 hps.1 ⟨by have := hps.2.2.2.2.2; omega, by have := hps.2.2.2.2.2; omega⟩ rfl ?_
    refine fw_icmp_ge 44 dX2_placeOf_9 (by decide) (fun h9 => ?_) (fun h9 => ?_)
    · skip
      refine fw_bipush dX2_placeOf_44 ⟨by decide, by decide⟩ (by decide) ?_
      refine fw_iret dX2_placeOf_46 ⟨rfl, rfl, rfl⟩ ?_
      refine ⟨rfl, rfl, -9, rfl, Or.inl ⟨rfl, fun h => ?_⟩⟩
      obtain ⟨j, hj⟩ := List.getElem?_of_mem h
      have := (List.getElem?_eq_some_iff.mp hj).1
      exact hs j (by omega) hj
    · skip
      obtain ⟨a, ha, a1, a2⟩ := ps_at_get hl h1 (by omega)
      refine fw_aload_n dX2_placeOf_12 rfl rfl ?_
      refine fw_getr 0 (_ + 1) rfl dX2_placeOf_13 ff_2_15 hps.1 ⟨by have := hps.2.2.2.2.2; omega, by have := hps.2.2.2.2.2; omega⟩ rfl hps.2.2.2.1 (by have := hps.2.2.2.2.2; omega) ?_
      refine fw_iload dX2_placeOf_16 rfl ?_
      refine fw_laload dX2_placeOf_18 hps.2.1 ⟨by have := hps.2.2.2.2.2; omega, by have := hps.2.2.2.2.2; omega⟩ ⟨by omega, by omega⟩ ?_
      refine fw_lload_n dX2_placeOf_19 rfl rfl ?_
      refine fw_lcmp dX2_placeOf_20 ?_
      refine fw_if_ne 38 dX2_placeOf_21 (by decide) (fun h21 => ?_) (fun h21 => ?_)
      · skip
        refine fw_iinc (ls2 := [_, _, _, _, _]) dX2_placeOf_38 rfl ⟨by omega, by omega⟩ (by decide) rfl ?_
        refine fw_goto 3 dX2_placeOf_41 (by decide) ?_
        refine ih (i + 1) (by omega) (by omega) (by omega) (fun j hj e => ?_)
        rcases (show (j : Int) < i ∨ j = i.toNat by omega) with hji | hji
        · exact hs j hji e
        · rw [hji, ha] at e
          injection e with e
          rw [e] at a1 a2
          exact h21 (fw_cmp_0.mpr a1)
      · skip
        refine fw_aload_n dX2_placeOf_24 rfl rfl ?_
        refine fw_getr 1 (_ + 2) rfl dX2_placeOf_25 ff_2_21 hps.1 ⟨by have := hps.2.2.2.2.2; omega, by have := hps.2.2.2.2.2; omega⟩ rfl hps.2.2.2.2.1 (by have := hps.2.2.2.2.2; omega) ?_
        refine fw_iload dX2_placeOf_28 rfl ?_
        refine fw_iaload dX2_placeOf_30 hps.2.2.1 ⟨by have := hps.2.2.2.2.2; omega, by have := hps.2.2.2.2.2; omega⟩ ⟨by omega, by omega⟩ ?_
        refine fw_iload_n dX2_placeOf_31 rfl rfl ?_
        refine fw_icmp_ne 38 dX2_placeOf_32 (by decide) (fun h32 => ?_) (fun h32 => ?_)
        · skip
          refine fw_iinc (ls2 := [_, _, _, _, _]) dX2_placeOf_38 rfl ⟨by omega, by omega⟩ (by decide) rfl ?_
          refine fw_goto 3 dX2_placeOf_41 (by decide) ?_
          refine ih (i + 1) (by omega) (by omega) (by omega) (fun j hj e => ?_)
          rcases (show (j : Int) < i ∨ j = i.toNat by omega) with hji | hji
          · exact hs j hji e
          · rw [hji, ha] at e
            injection e with e
            rw [e] at a1 a2
            exact h32 a2
        · skip
          refine fw_iload dX2_placeOf_35 rfl ?_
          refine fw_iret dX2_placeOf_37 ⟨rfl, rfl, rfl⟩ ?_
          refine ⟨rfl, rfl, i, rfl, Or.inr ⟨h1, ?_⟩⟩
          rw [ha, show a = (x, v) from Prod.ext (a1.symm.trans (fw_cmp_0.mp h21)) (a2.symm.trans h32)]

set_option maxRecDepth 20000 in
set_option maxHeartbeats 4000000 in
theorem sp_X2_placeOf (p : Int) (n : Nat) (hps : fw_ps p n) (l : List pc_P) (M : fw_F) (L : fw_G) (hl : ps_at M L p l) (hn : l.length ≤ n) (hn4 : n ≤ 400) (x : Int64) (v : Int) : fw_SC mX2_placeOf [fw_r p, fw_l x, fw_i v] M L (fun r M2 L2 => M2 = M ∧ L2 = L ∧ ∃ q, r = some (fw_i q) ∧ ((q = -9 ∧ ¬ (x, v) ∈ l) ∨ (0 ≤ q ∧ l[q.toNat]? = some (x, v)))) := by
  refine fw_SP_of pl_X2_placeOf (ls := [_, _, _, _]) rfl (Nat.le_of_ble_eq_true rfl) fun hA hM => ?_
  refine fw_iconst dX2_placeOf_0 ⟨by decide, by decide⟩ ?_
  refine fw_istore (ls2 := [_, _, _, _, _]) dX2_placeOf_1 (by decide) rfl ?_
  exact lp_X2_placeOf p n hps l M L hl hn hn4 x v (l.length + 1) 0 (by omega) (by decide) (by omega) (fun j hj => by omega)

set_option maxRecDepth 20000 in
set_option maxHeartbeats 4000000 in
theorem sp_X2_has (p : Int) (n : Nat) (hps : fw_ps p n) (l : List pc_P) (M : fw_F) (L : fw_G) (hl : ps_at M L p l) (hn : l.length ≤ n) (hn4 : n ≤ 400) (x : Int64) (v : Int) : fw_SC mX2_has [fw_r p, fw_l x, fw_i v] M L (fw_pure (some (fw_i (fw_b ((x, v) ∈ l)))) M L) := by
  refine fw_SP_of pl_X2_has (ls := [_, _, _, _]) rfl (Nat.le_of_ble_eq_true rfl) fun hA hM => ?_
  refine fw_aload_n dX2_has_0 rfl rfl ?_
  refine fw_lload_n dX2_has_1 rfl rfl ?_
  refine fw_iload_n dX2_has_2 rfl rfl ?_
  refine fw_cV mX2_placeOf [_, _] dX2_has_3 mv_X2_placeOf lk_2_32 ⟨⟨by decide, by decide⟩, rfl, rfl, rfl, by decide, by decide⟩ hps.1 ⟨by have := hps.2.2.2.2.2; omega, by have := hps.2.2.2.2.2; omega⟩ rfl rfl (Nat.le_of_ble_eq_true rfl) (sp_X2_placeOf p n hps l M L hl hn hn4 x v) (fun r M1 L1 hp hM1 => ?_)
  obtain ⟨rfl, rfl, q, rfl, hq⟩ := hp
  refine fw_bipush dX2_has_6 ⟨by decide, by decide⟩ (by decide) ?_
  refine fw_icmp_eq 15 dX2_has_8 (by decide) (fun h8 => ?_) (fun h8 => ?_)
  · skip
    refine fw_iconst dX2_has_15 ⟨by decide, by decide⟩ ?_
    exact fw_zret dX2_has_16 ⟨rfl, rfl, rfl⟩ (by first | decide | exact fw_b_01 _ | omega) (⟨fw_zF (by rcases hq with hq | hq; exact hq.2; omega), rfl, rfl⟩)
  · skip
    refine fw_iconst dX2_has_11 ⟨by decide, by decide⟩ ?_
    refine fw_goto 16 dX2_has_12 (by decide) ?_
    exact fw_zret dX2_has_16 ⟨rfl, rfl, rfl⟩ (by first | decide | exact fw_b_01 _ | omega) (⟨fw_zT (by rcases hq with hq | hq; exact absurd hq.1 h8; exact List.mem_of_getElem? hq.2), rfl, rfl⟩)

set_option maxRecDepth 20000 in
set_option maxHeartbeats 4000000 in
theorem sp_X2_add (p : Int) (n : Nat) (hps : fw_ps p n) (l : List pc_P) (M : fw_F) (L : fw_G) (hl : ps_at M L p l) (hn : l.length ≤ n) (hn4 : n ≤ 400) (x : Int64) (v : Int) (hok : pc_ok l) (hv : 1 ≤ v ∧ v ≤ 8) (hc : ¬ (x, v) ∈ l → l.length < n) : fw_SC mX2_add [fw_r p, fw_l x, fw_i v] M L (fun r M2 L2 => r = none ∧ (∀ k, ¬ k = p → ¬ k = p + 2 → M2 k = M k) ∧ (∀ k, ¬ k = p + 1 → L2 k = L k) ∧ ps_at M2 L2 p (pc_ins l (x, v))) := by
  refine fw_SP_of pl_X2_add (ls := [_, _, _, _]) rfl (Nat.le_of_ble_eq_true rfl) fun hA hM => ?_
  have e1 := hl.1
  have e2 := hl.2.1
  have e3 := pc_sz_len hok
  refine fw_aload_n dX2_add_0 rfl rfl ?_
  refine fw_lload_n dX2_add_1 rfl rfl ?_
  refine fw_iload_n dX2_add_2 rfl rfl ?_
  refine fw_pV mX2_has [_, _] dX2_add_3 mv_X2_has lk_2_36 ⟨⟨by decide, by decide⟩, rfl, rfl, rfl, by decide, by decide⟩ hps.1 ⟨by have := hps.2.2.2.2.2; omega, by have := hps.2.2.2.2.2; omega⟩ rfl rfl (Nat.le_of_ble_eq_true rfl) (sp_X2_has p n hps l M L hl hn hn4 x v) ?_
  refine fw_bifne 61 dX2_add_6 (by decide) (fun h6 => ?_) (fun h6 => ?_)
  · skip
    refine fw_vret dX2_add_61 ⟨rfl, rfl, rfl⟩ ?_
    exact ⟨rfl, fun k _ _ => rfl, fun k _ => rfl, by rw [pc_ins, if_pos h6]; exact hl⟩
  · skip
    refine fw_aload_n dX2_add_9 rfl rfl ?_
    refine fw_geti 2 rfl dX2_add_10 ff_2_25 hps.1 ⟨by have := hps.2.2.2.2.2; omega, by have := hps.2.2.2.2.2; omega⟩ rfl ?_
    refine fw_aload_n dX2_add_13 rfl rfl ?_
    refine fw_getr 0 (_ + 1) rfl dX2_add_14 ff_2_15 hps.1 ⟨by have := hps.2.2.2.2.2; omega, by have := hps.2.2.2.2.2; omega⟩ rfl hps.2.2.2.1 (by have := hps.2.2.2.2.2; omega) ?_
    refine fw_alen (n : Int) rfl dX2_add_17 hps.2.1 (Or.inr rfl) ⟨by have := hps.2.2.2.2.2; omega, by have := hps.2.2.2.2.2; omega⟩ ⟨by omega, by omega⟩  ?_
    refine fw_icmp_ge 61 dX2_add_18 (by decide) (fun h18 => ?_) (fun h18 => ?_)
    · skip
      exfalso; have := hc h6; omega
    · skip
      refine fw_aload_n dX2_add_21 rfl rfl ?_
      refine fw_getr 0 (_ + 1) rfl dX2_add_22 ff_2_15 hps.1 ⟨by have := hps.2.2.2.2.2; omega, by have := hps.2.2.2.2.2; omega⟩ rfl hps.2.2.2.1 (by have := hps.2.2.2.2.2; omega) ?_
      refine fw_aload_n dX2_add_25 rfl rfl ?_
      refine fw_geti 2 rfl dX2_add_26 ff_2_25 hps.1 ⟨by have := hps.2.2.2.2.2; omega, by have := hps.2.2.2.2.2; omega⟩ rfl ?_
      refine fw_lload_n dX2_add_29 rfl rfl ?_
      refine fw_lastore dX2_add_30 hps.2.1 (by decide) ⟨by have := hps.2.2.2.2.2; omega, by have := hps.2.2.2.2.2; omega⟩ ⟨by omega, by omega⟩ ?_
      refine fw_aload_n dX2_add_31 rfl rfl ?_
      refine fw_getr 1 (_ + 2) rfl dX2_add_32 ff_2_21 hps.1 ⟨by have := hps.2.2.2.2.2; omega, by have := hps.2.2.2.2.2; omega⟩ rfl hps.2.2.2.2.1 (by have := hps.2.2.2.2.2; omega) ?_
      refine fw_aload_n dX2_add_35 rfl rfl ?_
      refine fw_geti 2 rfl dX2_add_36 ff_2_25 hps.1 ⟨by have := hps.2.2.2.2.2; omega, by have := hps.2.2.2.2.2; omega⟩ rfl ?_
      refine fw_iload_n dX2_add_39 rfl rfl ?_
      refine fw_iastore dX2_add_40 hps.2.2.1 (by decide) ⟨by have := hps.2.2.2.2.2; omega, by have := hps.2.2.2.2.2; omega⟩ ⟨by omega, by omega⟩ ?_
      refine fw_aload_n dX2_add_41 rfl rfl ?_
      refine fw_dup dX2_add_42 rfl ?_
      refine fw_geti 2 rfl dX2_add_43 ff_2_25 hps.1 ⟨by have := hps.2.2.2.2.2; omega, by have := hps.2.2.2.2.2; omega⟩ rfl ?_
      simp (disch := omega) only [fw_updne, fw_updjn, fw_updj]
      refine fw_iconst dX2_add_46 ⟨by decide, by decide⟩ ?_
      refine fw_iadd dX2_add_47 ⟨by omega, by omega⟩ ?_
      refine fw_puti 2 rfl dX2_add_48 fp_2_25 hps.1 (by decide) ⟨by have := hps.2.2.2.2.2; omega, by have := hps.2.2.2.2.2; omega⟩ rfl ?_
      refine fw_aload_n dX2_add_51 rfl rfl ?_
      refine fw_dup dX2_add_52 rfl ?_
      refine fw_geti 3 rfl dX2_add_53 ff_2_29 hps.1 ⟨by have := hps.2.2.2.2.2; omega, by have := hps.2.2.2.2.2; omega⟩ rfl ?_
      simp (disch := omega) only [fw_updne, fw_updjn, fw_updj]
      refine fw_iload_n dX2_add_56 rfl rfl ?_
      refine fw_iadd dX2_add_57 ⟨by omega, by omega⟩ ?_
      refine fw_puti 3 rfl dX2_add_58 fp_2_29 hps.1 (by decide) ⟨by have := hps.2.2.2.2.2; omega, by have := hps.2.2.2.2.2; omega⟩ rfl ?_
      refine fw_vret dX2_add_61 ⟨rfl, rfl, rfl⟩ ?_
      refine ⟨rfl, fun k a b => ?_, fun k a => fw_uplne a, ?_⟩
      · simp (disch := omega) only [fw_updne]
      · rw [pc_ins, if_neg h6]
        refine ps_at_add hl ?_ ?_ (fun j => fw_upleq j) (fun j => ?_)
        · simp (disch := omega) only [fw_updne, fw_updjn, fw_updj]
        · simp (disch := omega) only [fw_updne, fw_updjn, fw_updj]
        · simp (disch := omega) only [fw_updne, fw_updeq]

set_option maxRecDepth 20000 in
set_option maxHeartbeats 4000000 in
theorem sp_X2_removeAt (p : Int) (n : Nat) (hps : fw_ps p n) (l : List pc_P) (M : fw_F) (L : fw_G) (hl : ps_at M L p l) (hn : l.length ≤ n) (hn4 : n ≤ 400) (i : Int) (z : pc_P) (hok : pc_ok l) (h0 : 0 ≤ i) (h1 : i < M p 2) (hz : l[l.length - 1]? = some z) : fw_SC mX2_removeAt [fw_r p, fw_i i] M L (fun r M2 L2 => r = none ∧ (∀ k, ¬ k = p → ¬ k = p + 2 → M2 k = M k) ∧ (∀ k, ¬ k = p + 1 → L2 k = L k) ∧ ps_at M2 L2 p (pc_rm l i.toNat z)) := by
  refine fw_SP_of pl_X2_removeAt (ls := [_, _]) rfl (Nat.le_of_ble_eq_true rfl) fun hA hM => ?_
  have e1 := hl.1
  have e2 := hl.2.1
  have e3 := pc_sz_len hok
  obtain ⟨a, ha, a1, a2⟩ := ps_at_get hl h0 h1
  have e4 := hok a (List.mem_of_getElem? ha)
  refine fw_aload_n dX2_removeAt_0 rfl rfl ?_
  refine fw_dup dX2_removeAt_1 rfl ?_
  refine fw_geti 3 rfl dX2_removeAt_2 ff_2_29 hps.1 ⟨by have := hps.2.2.2.2.2; omega, by have := hps.2.2.2.2.2; omega⟩ rfl ?_
  refine fw_aload_n dX2_removeAt_5 rfl rfl ?_
  refine fw_getr 1 (_ + 2) rfl dX2_removeAt_6 ff_2_21 hps.1 ⟨by have := hps.2.2.2.2.2; omega, by have := hps.2.2.2.2.2; omega⟩ rfl hps.2.2.2.2.1 (by have := hps.2.2.2.2.2; omega) ?_
  refine fw_iload_n dX2_removeAt_9 rfl rfl ?_
  refine fw_iaload dX2_removeAt_10 hps.2.2.1 ⟨by have := hps.2.2.2.2.2; omega, by have := hps.2.2.2.2.2; omega⟩ ⟨by omega, by omega⟩ ?_
  refine fw_isub dX2_removeAt_11 ⟨by omega, by omega⟩ ?_
  refine fw_puti 3 rfl dX2_removeAt_12 fp_2_29 hps.1 (by decide) ⟨by have := hps.2.2.2.2.2; omega, by have := hps.2.2.2.2.2; omega⟩ rfl ?_
  refine fw_aload_n dX2_removeAt_15 rfl rfl ?_
  refine fw_dup dX2_removeAt_16 rfl ?_
  refine fw_geti 2 rfl dX2_removeAt_17 ff_2_25 hps.1 ⟨by have := hps.2.2.2.2.2; omega, by have := hps.2.2.2.2.2; omega⟩ rfl ?_
  simp (disch := omega) only [fw_updne, fw_updjn, fw_updj]
  refine fw_iconst dX2_removeAt_20 ⟨by decide, by decide⟩ ?_
  refine fw_isub dX2_removeAt_21 ⟨by omega, by omega⟩ ?_
  refine fw_puti 2 rfl dX2_removeAt_22 fp_2_25 hps.1 (by decide) ⟨by have := hps.2.2.2.2.2; omega, by have := hps.2.2.2.2.2; omega⟩ rfl ?_
  refine fw_aload_n dX2_removeAt_25 rfl rfl ?_
  refine fw_getr 0 (_ + 1) rfl dX2_removeAt_26 ff_2_15 hps.1 ⟨by have := hps.2.2.2.2.2; omega, by have := hps.2.2.2.2.2; omega⟩ rfl hps.2.2.2.1 (by have := hps.2.2.2.2.2; omega) ?_
  refine fw_iload_n dX2_removeAt_29 rfl rfl ?_
  refine fw_aload_n dX2_removeAt_30 rfl rfl ?_
  refine fw_getr 0 (_ + 1) rfl dX2_removeAt_31 ff_2_15 hps.1 ⟨by have := hps.2.2.2.2.2; omega, by have := hps.2.2.2.2.2; omega⟩ rfl hps.2.2.2.1 (by have := hps.2.2.2.2.2; omega) ?_
  refine fw_aload_n dX2_removeAt_34 rfl rfl ?_
  refine fw_geti 2 rfl dX2_removeAt_35 ff_2_25 hps.1 ⟨by have := hps.2.2.2.2.2; omega, by have := hps.2.2.2.2.2; omega⟩ rfl ?_
  simp (disch := omega) only [fw_updne, fw_updjn, fw_updj]
  refine fw_laload dX2_removeAt_38 hps.2.1 ⟨by have := hps.2.2.2.2.2; omega, by have := hps.2.2.2.2.2; omega⟩ ⟨by omega, by omega⟩ ?_
  refine fw_lastore dX2_removeAt_39 hps.2.1 (by decide) ⟨by have := hps.2.2.2.2.2; omega, by have := hps.2.2.2.2.2; omega⟩ ⟨by omega, by omega⟩ ?_
  refine fw_aload_n dX2_removeAt_40 rfl rfl ?_
  refine fw_getr 1 (_ + 2) rfl dX2_removeAt_41 ff_2_21 hps.1 ⟨by have := hps.2.2.2.2.2; omega, by have := hps.2.2.2.2.2; omega⟩ rfl hps.2.2.2.2.1 (by have := hps.2.2.2.2.2; omega) ?_
  refine fw_iload_n dX2_removeAt_44 rfl rfl ?_
  refine fw_aload_n dX2_removeAt_45 rfl rfl ?_
  refine fw_getr 1 (_ + 2) rfl dX2_removeAt_46 ff_2_21 hps.1 ⟨by have := hps.2.2.2.2.2; omega, by have := hps.2.2.2.2.2; omega⟩ rfl hps.2.2.2.2.1 (by have := hps.2.2.2.2.2; omega) ?_
  refine fw_aload_n dX2_removeAt_49 rfl rfl ?_
  refine fw_geti 2 rfl dX2_removeAt_50 ff_2_25 hps.1 ⟨by have := hps.2.2.2.2.2; omega, by have := hps.2.2.2.2.2; omega⟩ rfl ?_
  simp (disch := omega) only [fw_updne, fw_updjn, fw_updj]
  refine fw_iaload dX2_removeAt_53 hps.2.2.1 ⟨by have := hps.2.2.2.2.2; omega, by have := hps.2.2.2.2.2; omega⟩ ⟨by omega, by omega⟩ ?_
  refine fw_iastore dX2_removeAt_54 hps.2.2.1 (by decide) ⟨by have := hps.2.2.2.2.2; omega, by have := hps.2.2.2.2.2; omega⟩ ⟨by omega, by omega⟩ ?_
  refine fw_vret dX2_removeAt_55 ⟨rfl, rfl, rfl⟩ ?_
  refine ⟨rfl, fun k a b => ?_, fun k a => fw_uplne a, ps_at_rm hl h0 h1 hz ?_ ?_ (fun j => fw_upleq j) (fun j => ?_)⟩
  · simp (disch := omega) only [fw_updne]
  · simp (disch := omega) only [fw_updne, fw_updjn, fw_updj]
  · simp (disch := omega) only [fw_updne, fw_updjn, fw_updj]
  · simp (disch := omega) only [fw_updne, fw_updeq]

set_option maxRecDepth 20000 in
set_option maxHeartbeats 4000000 in
theorem lp_X2_addAll (p o : Int) (n n2 : Nat) (hps : fw_ps p n) (hos : fw_ps o n2) (l lo : List pc_P) (N : fw_F) (K : fw_G) (hl : ps_at N K p l) (ho : ps_at N K o lo) (hn : l.length ≤ n) (hn4 : n ≤ 400) (hno : lo.length ≤ n2) (hn5 : n2 ≤ 400) (hd : p + 2 < o ∨ o + 2 < p) (hok : pc_ok l) (hok2 : pc_ok lo) (hc : pc_sz (pc_all l lo) ≤ n) : ∀ (q : Nat) (i : Int) (M : fw_F) (L : fw_G), (lo.length : Int) - i < q → 0 ≤ i → i ≤ lo.length → ps_at M L p (pc_all l (lo.take i.toNat)) → (∀ k, ¬ k = p → ¬ k = p + 2 → M k = N k) → (∀ k, ¬ k = p + 1 → L k = K k) → fw_C mX2_addAll 2 [some (fw_r p), some (fw_r o), some (fw_i i)] [] M L (fun r M2 L2 => r = none ∧ (∀ k, ¬ k = p → ¬ k = p + 2 → M2 k = N k) ∧ (∀ k, ¬ k = p + 1 → L2 k = K k) ∧ ps_at M2 L2 p (pc_all l lo)) := by
  intro q
  induction q with
  | zero => intro i M L h0 h1 h2; omega
  | succ q ih =>
    intro i M L h0 h1 h2 hl2 hfM hfL
    have ho2 := ps_at_fr (M2 := M) (L2 := L) ho (hfM o (by omega) (by omega)) (hfM (o + 2) (by omega) (by omega)) (hfL (o + 1) (by omega))
    have e1 := ho2.1
    refine fw_iload_n dX2_addAll_2 rfl rfl ?_
    refine fw_aload_n dX2_addAll_3 rfl rfl ?_
    refine fw_geti 2 rfl dX2_addAll_4 ff_2_25 hos.1 ⟨by have := hos.2.2.2.2.2; omega, by have := hos.2.2.2.2.2; omega⟩ rfl ?_
    refine fw_icmp_ge 32 dX2_addAll_7 (by decide) (fun h7 => ?_) (fun h7 => ?_)
    · skip
      refine fw_vret dX2_addAll_32 ⟨rfl, rfl, rfl⟩ ?_
      rw [show i.toNat = lo.length by omega, List.take_length] at hl2
      exact ⟨rfl, hfM, hfL, hl2⟩
    · skip
      obtain ⟨a, ha, a1, a2⟩ := ps_at_get ho2 h1 (by omega)
      have hs : pc_all l (lo.take (i + 1).toNat) = pc_ins (pc_all l (lo.take i.toNat)) a := by
        rw [show (i + 1).toNat = i.toNat + 1 by omega, List.take_add_one, ha, pc_all_app]; rfl
      have hm := List.mem_of_getElem? ha
      have hk1 := pc_all_ok hok (fun b hb => hok2 b (List.mem_of_mem_take hb)) (c := lo.take i.toNat)
      have hsz1 : pc_sz (pc_all l (lo.take (i + 1).toNat)) ≤ pc_sz (pc_all l lo) := by
        have hh : pc_all l lo = pc_all (pc_all l (lo.take (i + 1).toNat)) (lo.drop (i + 1).toNat) := by rw [← pc_all_app, List.take_append_drop]
        rw [hh]
        exact pc_all_sz (fun b hb => hok2 b (List.mem_of_mem_drop hb))
      have hln := pc_sz_len hk1
      have hsz0 : pc_sz (pc_all l (lo.take i.toNat)) ≤ pc_sz (pc_all l lo) := by
        have hh : pc_all l lo = pc_all (pc_all l (lo.take i.toNat)) (lo.drop i.toNat) := by rw [← pc_all_app, List.take_append_drop]
        rw [hh]
        exact pc_all_sz (fun b hb => hok2 b (List.mem_of_mem_drop hb))
      refine fw_aload_n dX2_addAll_10 rfl rfl ?_
      refine fw_aload_n dX2_addAll_11 rfl rfl ?_
      refine fw_getr 0 (_ + 1) rfl dX2_addAll_12 ff_2_15 hos.1 ⟨by have := hos.2.2.2.2.2; omega, by have := hos.2.2.2.2.2; omega⟩ rfl hos.2.2.2.1 (by have := hos.2.2.2.2.2; omega) ?_
      refine fw_iload_n dX2_addAll_15 rfl rfl ?_
      refine fw_laload dX2_addAll_16 hos.2.1 ⟨by have := hos.2.2.2.2.2; omega, by have := hos.2.2.2.2.2; omega⟩ ⟨by omega, by omega⟩ ?_
      refine fw_aload_n dX2_addAll_17 rfl rfl ?_
      refine fw_getr 1 (_ + 2) rfl dX2_addAll_18 ff_2_21 hos.1 ⟨by have := hos.2.2.2.2.2; omega, by have := hos.2.2.2.2.2; omega⟩ rfl hos.2.2.2.2.1 (by have := hos.2.2.2.2.2; omega) ?_
      refine fw_iload_n dX2_addAll_21 rfl rfl ?_
      refine fw_iaload dX2_addAll_22 hos.2.2.1 ⟨by have := hos.2.2.2.2.2; omega, by have := hos.2.2.2.2.2; omega⟩ ⟨by omega, by omega⟩ ?_
      refine fw_cV mX2_add [_, _] dX2_addAll_23 mv_X2_add lk_2_44 ⟨⟨by decide, by decide⟩, rfl, rfl, rfl, by decide, by decide⟩ hps.1 ⟨by have := hps.2.2.2.2.2; omega, by have := hps.2.2.2.2.2; omega⟩ rfl rfl (Nat.le_of_ble_eq_true rfl) (sp_X2_add p n hps _ M L hl2 (by omega) hn4 _ _ hk1 (by rw [a2]; exact hok2 a hm) (fun hx => by rw [show (L (o + 1) i, M (o + 2) i) = a from Prod.ext a1 a2] at hx; rw [hs, pc_ins, if_neg hx, pc_sz_app] at hsz1; have h9 := (hok2 a hm).1; simp only [pc_sz] at hsz1; omega)) (fun r M1 L1 hp hM1 => ?_)
      obtain ⟨rfl, g1, g2, g3⟩ := hp
      rw [show (L (o + 1) i, M (o + 2) i) = a from Prod.ext a1 a2, ← hs] at g3
      refine fw_iinc (ls2 := [_, _, _]) dX2_addAll_26 rfl ⟨by omega, by omega⟩ (by decide) rfl ?_
      refine fw_goto 2 dX2_addAll_29 (by decide) ?_
      exact ih (i + 1) _ _ (by omega) (by omega) (by omega) g3 (fun k a b => (g1 k a b).trans (hfM k a b)) (fun k a => (g2 k a).trans (hfL k a))

set_option maxRecDepth 20000 in
set_option maxHeartbeats 4000000 in
theorem sp_X2_addAll (p o : Int) (n n2 : Nat) (hps : fw_ps p n) (hos : fw_ps o n2) (l lo : List pc_P) (N : fw_F) (K : fw_G) (hl : ps_at N K p l) (ho : ps_at N K o lo) (hn : l.length ≤ n) (hn4 : n ≤ 400) (hno : lo.length ≤ n2) (hn5 : n2 ≤ 400) (hd : p + 2 < o ∨ o + 2 < p) (hok : pc_ok l) (hok2 : pc_ok lo) (hc : pc_sz (pc_all l lo) ≤ n) : fw_SC mX2_addAll [fw_r p, fw_r o] N K (fun r M2 L2 => r = none ∧ (∀ k, ¬ k = p → ¬ k = p + 2 → M2 k = N k) ∧ (∀ k, ¬ k = p + 1 → L2 k = K k) ∧ ps_at M2 L2 p (pc_all l lo)) := by
  refine fw_SP_of pl_X2_addAll (ls := [_, _]) rfl (Nat.le_of_ble_eq_true rfl) fun hA hM => ?_
  refine fw_iconst dX2_addAll_0 ⟨by decide, by decide⟩ ?_
  refine fw_istore_n (ls2 := [_, _, _]) dX2_addAll_1 rfl (by decide) rfl ?_
  exact lp_X2_addAll p o n n2 hps hos l lo N K hl ho hn hn4 hno hn5 hd hok hok2 hc (lo.length + 1) 0 N K (by omega) (by decide) (by omega) hl (fun _ _ _ => rfl) (fun _ _ => rfl)

set_option maxRecDepth 20000 in
set_option maxHeartbeats 4000000 in
theorem lp_X2_removeAll (p o : Int) (n n2 : Nat) (hps : fw_ps p n) (hos : fw_ps o n2) (l lo : List pc_P) (N : fw_F) (K : fw_G) (hl : ps_at N K p l) (ho : ps_at N K o lo) (hn : l.length ≤ n) (hn4 : n ≤ 400) (hno : lo.length ≤ n2) (hn5 : n2 ≤ 400) (hd : p + 2 < o ∨ o + 2 < p) (hok : pc_ok l) : ∀ (q : Nat) (i : Int) (c : List pc_P) (M : fw_F) (L : fw_G), i + 1 < q → -1 ≤ i → ps_at M L p c → c.take (i + 1).toNat = l.take (i + 1).toNat → (i + 1).toNat ≤ c.length → c.Perm (l.take (i + 1).toNat ++ (l.drop (i + 1).toNat).filter (pc_no lo)) → (∀ k, ¬ k = p → ¬ k = p + 2 → M k = N k) → (∀ k, ¬ k = p + 1 → L k = K k) → fw_C mX2_removeAll 7 [some (fw_r p), some (fw_r o), some (fw_i i)] [] M L (fun r M2 L2 => r = none ∧ (∀ k, ¬ k = p → ¬ k = p + 2 → M2 k = N k) ∧ (∀ k, ¬ k = p + 1 → L2 k = K k) ∧ ∃ c, ps_at M2 L2 p c ∧ c.Perm (l.filter (pc_no lo))) := by
  intro q
  induction q with
  | zero => intro i c M L h0 h1; omega
  | succ q ih =>
    intro i c M L h0 h1 hl2 htk hle hpm hfM hfL
    have ho2 := ps_at_fr (M2 := M) (L2 := L) ho (hfM o (by omega) (by omega)) (hfM (o + 2) (by omega) (by omega)) (hfL (o + 1) (by omega))
    have e1 := hl2.1
    have hcn : c.length ≤ n := by
      have h9 := hpm.length_eq
      have h8 := List.length_filter_le (pc_no lo) (l.drop (i + 1).toNat)
      rw [List.length_append, List.length_take] at h9
      rw [List.length_drop] at h8
      omega
    refine fw_iload_n dX2_removeAll_7 rfl rfl ?_
    refine fw_if_lt 41 dX2_removeAll_8 (by decide) (fun h8 => ?_) (fun h8 => ?_)
    · skip
      refine fw_vret dX2_removeAll_41 ⟨rfl, rfl, rfl⟩ ?_
      have hi0 : (i + 1).toNat = 0 := by omega
      rw [hi0, List.take_zero, List.drop_zero, List.nil_append] at hpm
      exact ⟨rfl, hfM, hfL, c, hl2, hpm⟩
    · skip
      obtain ⟨a, ha, a1, a2⟩ := ps_at_get hl2 (show 0 ≤ i by omega) (by omega)
      have ht1 : (i + 1).toNat = i.toNat + 1 := by omega
      rw [ht1] at htk hpm hle
      have hla : l[i.toNat]? = some a := by
        have h9 := congrArg (fun w => w[i.toNat]?) htk
        simp only [List.getElem?_take, if_pos (Nat.lt_succ_self i.toNat)] at h9
        rw [← h9]; exact ha
      have hli : i.toNat < l.length := (List.getElem?_eq_some_iff.mp hla).1
      have hdr : l.drop i.toNat = a :: l.drop (i.toNat + 1) := by
        rw [← (List.getElem?_eq_some_iff.mp hla).2]; exact (List.getElem_cons_drop hli).symm
      have htl : l.take (i.toNat + 1) = l.take i.toNat ++ [a] := by rw [List.take_add_one, hla]; rfl
      have hmem : ∀ b ∈ c, b ∈ l := fun b hb => by
        have h9 := hpm.subset hb
        rcases List.mem_append.mp h9 with h9 | h9
        · exact List.mem_of_mem_take h9
        · exact List.mem_of_mem_drop (List.mem_filter.mp h9).1
      have hoc : pc_ok c := fun b hb => hok b (hmem b hb)
      refine fw_aload_n dX2_removeAll_11 rfl rfl ?_
      refine fw_aload_n dX2_removeAll_12 rfl rfl ?_
      refine fw_getr 0 (_ + 1) rfl dX2_removeAll_13 ff_2_15 hps.1 ⟨by have := hps.2.2.2.2.2; omega, by have := hps.2.2.2.2.2; omega⟩ rfl hps.2.2.2.1 (by have := hps.2.2.2.2.2; omega) ?_
      refine fw_iload_n dX2_removeAll_16 rfl rfl ?_
      refine fw_laload dX2_removeAll_17 hps.2.1 ⟨by have := hps.2.2.2.2.2; omega, by have := hps.2.2.2.2.2; omega⟩ ⟨by omega, by omega⟩ ?_
      refine fw_aload_n dX2_removeAll_18 rfl rfl ?_
      refine fw_getr 1 (_ + 2) rfl dX2_removeAll_19 ff_2_21 hps.1 ⟨by have := hps.2.2.2.2.2; omega, by have := hps.2.2.2.2.2; omega⟩ rfl hps.2.2.2.2.1 (by have := hps.2.2.2.2.2; omega) ?_
      refine fw_iload_n dX2_removeAll_22 rfl rfl ?_
      refine fw_iaload dX2_removeAll_23 hps.2.2.1 ⟨by have := hps.2.2.2.2.2; omega, by have := hps.2.2.2.2.2; omega⟩ ⟨by omega, by omega⟩ ?_
      refine fw_pV mX2_has [_, _] dX2_removeAll_24 mv_X2_has lk_2_36 ⟨⟨by decide, by decide⟩, rfl, rfl, rfl, by decide, by decide⟩ hos.1 ⟨by have := hos.2.2.2.2.2; omega, by have := hos.2.2.2.2.2; omega⟩ rfl rfl (Nat.le_of_ble_eq_true rfl) (sp_X2_has o n2 hos lo M L ho2 hno hn5 _ _) ?_
      refine fw_bifeq 35 dX2_removeAll_27 (by decide) (fun h27 => ?_) (fun h27 => ?_)
      · skip
        refine fw_iinc (ls2 := [_, _, _]) dX2_removeAll_35 rfl ⟨by omega, by omega⟩ (by decide) rfl ?_
        refine fw_goto 7 dX2_removeAll_38 (by decide) ?_
        rw [show (L (p + 1) i, M (p + 2) i) = a from Prod.ext a1 a2] at h27
        refine ih (i - 1) c M L (by omega) (by omega) hl2 ?_ ?_ ?_ hfM hfL
        · rw [show (i - 1 + 1).toNat = i.toNat by omega]; have h9 := congrArg (List.take i.toNat) htk; rwa [List.take_take, List.take_take, Nat.min_eq_left (by omega)] at h9
        · rw [show (i - 1 + 1).toNat = i.toNat by omega]; omega
        · rw [show (i - 1 + 1).toNat = i.toNat by omega, hdr, List.filter_cons_of_pos (by simp [pc_no, h27])]
          rw [htl, List.append_assoc] at hpm
          exact hpm
      · skip
        have hic : i.toNat < c.length := by omega
        obtain ⟨z, hz⟩ : ∃ z, c[c.length - 1]? = some z := ⟨_, List.getElem?_eq_getElem (by omega)⟩
        refine fw_aload_n dX2_removeAll_30 rfl rfl ?_
        refine fw_iload_n dX2_removeAll_31 rfl rfl ?_
        refine fw_cV mX2_removeAt [_] dX2_removeAll_32 mv_X2_removeAt lk_2_48 ⟨⟨by decide, by decide⟩, rfl, rfl, rfl, by decide, by decide⟩ hps.1 ⟨by have := hps.2.2.2.2.2; omega, by have := hps.2.2.2.2.2; omega⟩ rfl rfl (Nat.le_of_ble_eq_true rfl) (sp_X2_removeAt p n hps c M L hl2 hcn hn4 i z hoc (by omega) (by omega) hz) (fun r M1 L1 hp hM1 => ?_)
        obtain ⟨rfl, g1, g2, g3⟩ := hp
        refine fw_iinc (ls2 := [_, _, _]) dX2_removeAll_35 rfl ⟨by omega, by omega⟩ (by decide) rfl ?_
        refine fw_goto 7 dX2_removeAll_38 (by decide) ?_
        rw [show (L (p + 1) i, M (p + 2) i) = a from Prod.ext a1 a2] at h27
        refine ih (i - 1) _ _ _ (by omega) (by omega) g3 ?_ ?_ ?_ (fun k a b => (g1 k a b).trans (hfM k a b)) (fun k a => (g2 k a).trans (hfL k a))
        · rw [show (i - 1 + 1).toNat = i.toNat by omega, pc_rm_take hic]; have h9 := congrArg (List.take i.toNat) htk; rwa [List.take_take, List.take_take, Nat.min_eq_left (by omega)] at h9
        · rw [show (i - 1 + 1).toNat = i.toNat by omega, pc_rm_len]; omega
        · rw [show (i - 1 + 1).toNat = i.toNat by omega, hdr, List.filter_cons_of_neg (by simp [pc_no, h27])]
          rw [htl, List.append_assoc] at hpm
          have h9 := (pc_rm_perm ha hz).symm.trans hpm
          rw [List.singleton_append] at h9
          exact (h9.trans List.perm_middle).cons_inv

set_option maxRecDepth 20000 in
set_option maxHeartbeats 4000000 in
theorem sp_X2_removeAll (p o : Int) (n n2 : Nat) (hps : fw_ps p n) (hos : fw_ps o n2) (l lo : List pc_P) (N : fw_F) (K : fw_G) (hl : ps_at N K p l) (ho : ps_at N K o lo) (hn : l.length ≤ n) (hn4 : n ≤ 400) (hno : lo.length ≤ n2) (hn5 : n2 ≤ 400) (hd : p + 2 < o ∨ o + 2 < p) (hok : pc_ok l) : fw_SC mX2_removeAll [fw_r p, fw_r o] N K (fun r M2 L2 => r = none ∧ (∀ k, ¬ k = p → ¬ k = p + 2 → M2 k = N k) ∧ (∀ k, ¬ k = p + 1 → L2 k = K k) ∧ ∃ c, ps_at M2 L2 p c ∧ c.Perm (l.filter (pc_no lo))) := by
  refine fw_SP_of pl_X2_removeAll (ls := [_, _]) rfl (Nat.le_of_ble_eq_true rfl) fun hA hM => ?_
  have e1 := hl.1
  refine fw_aload_n dX2_removeAll_0 rfl rfl ?_
  refine fw_geti 2 rfl dX2_removeAll_1 ff_2_25 hps.1 ⟨by have := hps.2.2.2.2.2; omega, by have := hps.2.2.2.2.2; omega⟩ rfl ?_
  refine fw_iconst dX2_removeAll_4 ⟨by decide, by decide⟩ ?_
  refine fw_isub dX2_removeAll_5 ⟨by omega, by omega⟩ ?_
  refine fw_istore_n (ls2 := [_, _, _]) dX2_removeAll_6 rfl (by decide) rfl ?_
  rw [e1]
  have ht : ((l.length : Int) - 1 + 1).toNat = l.length := by omega
  refine lp_X2_removeAll p o n n2 hps hos l lo N K hl ho hn hn4 hno hn5 hd hok (l.length + 1) ((l.length : Int) - 1) l N K (by omega) (by omega) hl ?_ ?_ ?_ (fun _ _ _ => rfl) (fun _ _ => rfl)
  · rfl
  · omega
  · rw [ht, List.take_length, List.drop_length]; simp

set_option maxRecDepth 20000 in
set_option maxHeartbeats 4000000 in
theorem lp_X2_keepOnly (p o : Int) (n n2 : Nat) (hps : fw_ps p n) (hos : fw_ps o n2) (l lo : List pc_P) (N : fw_F) (K : fw_G) (hl : ps_at N K p l) (ho : ps_at N K o lo) (hn : l.length ≤ n) (hn4 : n ≤ 400) (hno : lo.length ≤ n2) (hn5 : n2 ≤ 400) (hd : p + 2 < o ∨ o + 2 < p) (hok : pc_ok l) : ∀ (q : Nat) (i : Int) (c : List pc_P) (M : fw_F) (L : fw_G), i + 1 < q → -1 ≤ i → ps_at M L p c → c.take (i + 1).toNat = l.take (i + 1).toNat → (i + 1).toNat ≤ c.length → c.Perm (l.take (i + 1).toNat ++ (l.drop (i + 1).toNat).filter (fun a => decide (a ∈ lo))) → (∀ k, ¬ k = p → ¬ k = p + 2 → M k = N k) → (∀ k, ¬ k = p + 1 → L k = K k) → fw_C mX2_keepOnly 7 [some (fw_r p), some (fw_r o), some (fw_i i)] [] M L (fun r M2 L2 => r = none ∧ (∀ k, ¬ k = p → ¬ k = p + 2 → M2 k = N k) ∧ (∀ k, ¬ k = p + 1 → L2 k = K k) ∧ ∃ c, ps_at M2 L2 p c ∧ c.Perm (l.filter (fun a => decide (a ∈ lo)))) := by
  intro q
  induction q with
  | zero => intro i c M L h0 h1; omega
  | succ q ih =>
    intro i c M L h0 h1 hl2 htk hle hpm hfM hfL
    have ho2 := ps_at_fr (M2 := M) (L2 := L) ho (hfM o (by omega) (by omega)) (hfM (o + 2) (by omega) (by omega)) (hfL (o + 1) (by omega))
    have e1 := hl2.1
    have hcn : c.length ≤ n := by
      have h9 := hpm.length_eq
      have h8 := List.length_filter_le (fun a => decide (a ∈ lo)) (l.drop (i + 1).toNat)
      rw [List.length_append, List.length_take] at h9
      rw [List.length_drop] at h8
      omega
    refine fw_iload_n dX2_keepOnly_7 rfl rfl ?_
    refine fw_if_lt 41 dX2_keepOnly_8 (by decide) (fun h8 => ?_) (fun h8 => ?_)
    · skip
      refine fw_vret dX2_keepOnly_41 ⟨rfl, rfl, rfl⟩ ?_
      have hi0 : (i + 1).toNat = 0 := by omega
      rw [hi0, List.take_zero, List.drop_zero, List.nil_append] at hpm
      exact ⟨rfl, hfM, hfL, c, hl2, hpm⟩
    · skip
      obtain ⟨a, ha, a1, a2⟩ := ps_at_get hl2 (show 0 ≤ i by omega) (by omega)
      have ht1 : (i + 1).toNat = i.toNat + 1 := by omega
      rw [ht1] at htk hpm hle
      have hla : l[i.toNat]? = some a := by
        have h9 := congrArg (fun w => w[i.toNat]?) htk
        simp only [List.getElem?_take, if_pos (Nat.lt_succ_self i.toNat)] at h9
        rw [← h9]; exact ha
      have hli : i.toNat < l.length := (List.getElem?_eq_some_iff.mp hla).1
      have hdr : l.drop i.toNat = a :: l.drop (i.toNat + 1) := by
        rw [← (List.getElem?_eq_some_iff.mp hla).2]; exact (List.getElem_cons_drop hli).symm
      have htl : l.take (i.toNat + 1) = l.take i.toNat ++ [a] := by rw [List.take_add_one, hla]; rfl
      have hmem : ∀ b ∈ c, b ∈ l := fun b hb => by
        have h9 := hpm.subset hb
        rcases List.mem_append.mp h9 with h9 | h9
        · exact List.mem_of_mem_take h9
        · exact List.mem_of_mem_drop (List.mem_filter.mp h9).1
      have hoc : pc_ok c := fun b hb => hok b (hmem b hb)
      refine fw_aload_n dX2_keepOnly_11 rfl rfl ?_
      refine fw_aload_n dX2_keepOnly_12 rfl rfl ?_
      refine fw_getr 0 (_ + 1) rfl dX2_keepOnly_13 ff_2_15 hps.1 ⟨by have := hps.2.2.2.2.2; omega, by have := hps.2.2.2.2.2; omega⟩ rfl hps.2.2.2.1 (by have := hps.2.2.2.2.2; omega) ?_
      refine fw_iload_n dX2_keepOnly_16 rfl rfl ?_
      refine fw_laload dX2_keepOnly_17 hps.2.1 ⟨by have := hps.2.2.2.2.2; omega, by have := hps.2.2.2.2.2; omega⟩ ⟨by omega, by omega⟩ ?_
      refine fw_aload_n dX2_keepOnly_18 rfl rfl ?_
      refine fw_getr 1 (_ + 2) rfl dX2_keepOnly_19 ff_2_21 hps.1 ⟨by have := hps.2.2.2.2.2; omega, by have := hps.2.2.2.2.2; omega⟩ rfl hps.2.2.2.2.1 (by have := hps.2.2.2.2.2; omega) ?_
      refine fw_iload_n dX2_keepOnly_22 rfl rfl ?_
      refine fw_iaload dX2_keepOnly_23 hps.2.2.1 ⟨by have := hps.2.2.2.2.2; omega, by have := hps.2.2.2.2.2; omega⟩ ⟨by omega, by omega⟩ ?_
      refine fw_pV mX2_has [_, _] dX2_keepOnly_24 mv_X2_has lk_2_36 ⟨⟨by decide, by decide⟩, rfl, rfl, rfl, by decide, by decide⟩ hos.1 ⟨by have := hos.2.2.2.2.2; omega, by have := hos.2.2.2.2.2; omega⟩ rfl rfl (Nat.le_of_ble_eq_true rfl) (sp_X2_has o n2 hos lo M L ho2 hno hn5 _ _) ?_
      refine fw_bifne 35 dX2_keepOnly_27 (by decide) (fun h27 => ?_) (fun h27 => ?_)
      · skip
        refine fw_iinc (ls2 := [_, _, _]) dX2_keepOnly_35 rfl ⟨by omega, by omega⟩ (by decide) rfl ?_
        refine fw_goto 7 dX2_keepOnly_38 (by decide) ?_
        rw [show (L (p + 1) i, M (p + 2) i) = a from Prod.ext a1 a2] at h27
        refine ih (i - 1) c M L (by omega) (by omega) hl2 ?_ ?_ ?_ hfM hfL
        · rw [show (i - 1 + 1).toNat = i.toNat by omega]; have h9 := congrArg (List.take i.toNat) htk; rwa [List.take_take, List.take_take, Nat.min_eq_left (by omega)] at h9
        · rw [show (i - 1 + 1).toNat = i.toNat by omega]; omega
        · rw [show (i - 1 + 1).toNat = i.toNat by omega, hdr, List.filter_cons_of_pos (by simp [h27])]
          rw [htl, List.append_assoc] at hpm
          exact hpm
      · skip
        have hic : i.toNat < c.length := by omega
        obtain ⟨z, hz⟩ : ∃ z, c[c.length - 1]? = some z := ⟨_, List.getElem?_eq_getElem (by omega)⟩
        refine fw_aload_n dX2_keepOnly_30 rfl rfl ?_
        refine fw_iload_n dX2_keepOnly_31 rfl rfl ?_
        refine fw_cV mX2_removeAt [_] dX2_keepOnly_32 mv_X2_removeAt lk_2_48 ⟨⟨by decide, by decide⟩, rfl, rfl, rfl, by decide, by decide⟩ hps.1 ⟨by have := hps.2.2.2.2.2; omega, by have := hps.2.2.2.2.2; omega⟩ rfl rfl (Nat.le_of_ble_eq_true rfl) (sp_X2_removeAt p n hps c M L hl2 hcn hn4 i z hoc (by omega) (by omega) hz) (fun r M1 L1 hp hM1 => ?_)
        obtain ⟨rfl, g1, g2, g3⟩ := hp
        refine fw_iinc (ls2 := [_, _, _]) dX2_keepOnly_35 rfl ⟨by omega, by omega⟩ (by decide) rfl ?_
        refine fw_goto 7 dX2_keepOnly_38 (by decide) ?_
        rw [show (L (p + 1) i, M (p + 2) i) = a from Prod.ext a1 a2] at h27
        refine ih (i - 1) _ _ _ (by omega) (by omega) g3 ?_ ?_ ?_ (fun k a b => (g1 k a b).trans (hfM k a b)) (fun k a => (g2 k a).trans (hfL k a))
        · rw [show (i - 1 + 1).toNat = i.toNat by omega, pc_rm_take hic]; have h9 := congrArg (List.take i.toNat) htk; rwa [List.take_take, List.take_take, Nat.min_eq_left (by omega)] at h9
        · rw [show (i - 1 + 1).toNat = i.toNat by omega, pc_rm_len]; omega
        · rw [show (i - 1 + 1).toNat = i.toNat by omega, hdr, List.filter_cons_of_neg (by simp [h27])]
          rw [htl, List.append_assoc] at hpm
          have h9 := (pc_rm_perm ha hz).symm.trans hpm
          rw [List.singleton_append] at h9
          exact (h9.trans List.perm_middle).cons_inv

set_option maxRecDepth 20000 in
set_option maxHeartbeats 4000000 in
theorem sp_X2_keepOnly (p o : Int) (n n2 : Nat) (hps : fw_ps p n) (hos : fw_ps o n2) (l lo : List pc_P) (N : fw_F) (K : fw_G) (hl : ps_at N K p l) (ho : ps_at N K o lo) (hn : l.length ≤ n) (hn4 : n ≤ 400) (hno : lo.length ≤ n2) (hn5 : n2 ≤ 400) (hd : p + 2 < o ∨ o + 2 < p) (hok : pc_ok l) : fw_SC mX2_keepOnly [fw_r p, fw_r o] N K (fun r M2 L2 => r = none ∧ (∀ k, ¬ k = p → ¬ k = p + 2 → M2 k = N k) ∧ (∀ k, ¬ k = p + 1 → L2 k = K k) ∧ ∃ c, ps_at M2 L2 p c ∧ c.Perm (l.filter (fun a => decide (a ∈ lo)))) := by
  refine fw_SP_of pl_X2_keepOnly (ls := [_, _]) rfl (Nat.le_of_ble_eq_true rfl) fun hA hM => ?_
  have e1 := hl.1
  refine fw_aload_n dX2_keepOnly_0 rfl rfl ?_
  refine fw_geti 2 rfl dX2_keepOnly_1 ff_2_25 hps.1 ⟨by have := hps.2.2.2.2.2; omega, by have := hps.2.2.2.2.2; omega⟩ rfl ?_
  refine fw_iconst dX2_keepOnly_4 ⟨by decide, by decide⟩ ?_
  refine fw_isub dX2_keepOnly_5 ⟨by omega, by omega⟩ ?_
  refine fw_istore_n (ls2 := [_, _, _]) dX2_keepOnly_6 rfl (by decide) rfl ?_
  rw [e1]
  have ht : ((l.length : Int) - 1 + 1).toNat = l.length := by omega
  refine lp_X2_keepOnly p o n n2 hps hos l lo N K hl ho hn hn4 hno hn5 hd hok (l.length + 1) ((l.length : Int) - 1) l N K (by omega) (by omega) hl ?_ ?_ ?_ (fun _ _ _ => rfl) (fun _ _ => rfl)
  · rfl
  · omega
  · rw [ht, List.take_length, List.drop_length]; simp

set_option maxRecDepth 20000 in
set_option maxHeartbeats 4000000 in
theorem lp_X2_bytesNotIn (p o : Int) (n n2 : Nat) (hps : fw_ps p n) (hos : fw_ps o n2) (l lo : List pc_P) (M : fw_F) (L : fw_G) (hl : ps_at M L p l) (ho : ps_at M L o lo) (hn : l.length ≤ n) (hn4 : n ≤ 400) (hno : lo.length ≤ n2) (hn5 : n2 ≤ 400) (hd : p + 2 < o ∨ o + 2 < p) (hok : pc_ok l) : ∀ (q : Nat) (c i : Int), (l.length : Int) - i < q → 0 ≤ i → i ≤ l.length → c = pc_sz ((l.take i.toNat).filter (pc_no lo)) → fw_C mX2_bytesNotIn 4 [some (fw_r p), some (fw_r o), some (fw_i c), some (fw_i i)] [] M L (fw_pure (some (fw_i (pc_sz (l.filter (pc_no lo))))) M L) := by
  intro q
  induction q with
  | zero => intro c i h0 h1 h2; omega
  | succ q ih =>
    intro c i h0 h1 h2 h3
    have e1 := hl.1
    refine fw_iload_n dX2_bytesNotIn_4 rfl rfl ?_
    refine fw_aload_n dX2_bytesNotIn_5 rfl rfl ?_
    refine fw_geti 2 rfl dX2_bytesNotIn_6 ff_2_25 hps.1 ⟨by have := hps.2.2.2.2.2; omega, by have := hps.2.2.2.2.2; omega⟩ rfl ?_
    refine fw_icmp_ge 46 dX2_bytesNotIn_9 (by decide) (fun h9 => ?_) (fun h9 => ?_)
    · skip
      refine fw_iload_n dX2_bytesNotIn_46 rfl rfl ?_
      exact fw_iret dX2_bytesNotIn_47 ⟨rfl, rfl, rfl⟩ (⟨by rw [h3, show i.toNat = l.length by omega, List.take_length], rfl, rfl⟩)
    · skip
      obtain ⟨a, ha, a1, a2⟩ := ps_at_get hl h1 (by omega)
      have hs : (l.take (i + 1).toNat).filter (pc_no lo) = (l.take i.toNat).filter (pc_no lo) ++ [a].filter (pc_no lo) := by
        rw [show (i + 1).toNat = i.toNat + 1 by omega, List.take_add_one, ha, List.filter_append]; rfl
      have hm := hok a (List.mem_of_getElem? ha)
      have hf := pc_sz_len (l := (l.take i.toNat).filter (pc_no lo)) (fun b hb => hok b (List.mem_of_mem_take (List.mem_filter.mp hb).1))
      have hf2 := List.length_filter_le (pc_no lo) (l.take i.toNat)
      rw [List.length_take] at hf2
      refine fw_aload_n dX2_bytesNotIn_12 rfl rfl ?_
      refine fw_aload_n dX2_bytesNotIn_13 rfl rfl ?_
      refine fw_getr 0 (_ + 1) rfl dX2_bytesNotIn_14 ff_2_15 hps.1 ⟨by have := hps.2.2.2.2.2; omega, by have := hps.2.2.2.2.2; omega⟩ rfl hps.2.2.2.1 (by have := hps.2.2.2.2.2; omega) ?_
      refine fw_iload_n dX2_bytesNotIn_17 rfl rfl ?_
      refine fw_laload dX2_bytesNotIn_18 hps.2.1 ⟨by have := hps.2.2.2.2.2; omega, by have := hps.2.2.2.2.2; omega⟩ ⟨by omega, by omega⟩ ?_
      refine fw_aload_n dX2_bytesNotIn_19 rfl rfl ?_
      refine fw_getr 1 (_ + 2) rfl dX2_bytesNotIn_20 ff_2_21 hps.1 ⟨by have := hps.2.2.2.2.2; omega, by have := hps.2.2.2.2.2; omega⟩ rfl hps.2.2.2.2.1 (by have := hps.2.2.2.2.2; omega) ?_
      refine fw_iload_n dX2_bytesNotIn_23 rfl rfl ?_
      refine fw_iaload dX2_bytesNotIn_24 hps.2.2.1 ⟨by have := hps.2.2.2.2.2; omega, by have := hps.2.2.2.2.2; omega⟩ ⟨by omega, by omega⟩ ?_
      refine fw_pV mX2_has [_, _] dX2_bytesNotIn_25 mv_X2_has lk_2_36 ⟨⟨by decide, by decide⟩, rfl, rfl, rfl, by decide, by decide⟩ hos.1 ⟨by have := hos.2.2.2.2.2; omega, by have := hos.2.2.2.2.2; omega⟩ rfl rfl (Nat.le_of_ble_eq_true rfl) (sp_X2_has o n2 hos lo M L ho hno hn5 _ _) ?_
      refine fw_bifne 40 dX2_bytesNotIn_28 (by decide) (fun h28 => ?_) (fun h28 => ?_)
      · skip
        refine fw_iinc (ls2 := [_, _, _, _]) dX2_bytesNotIn_40 rfl ⟨by omega, by omega⟩ (by decide) rfl ?_
        refine fw_goto 4 dX2_bytesNotIn_43 (by decide) ?_
        rw [show (L (p + 1) i, M (p + 2) i) = a from Prod.ext a1 a2] at h28
        exact ih _ (i + 1) (by omega) (by omega) (by omega) (by rw [hs, List.filter_cons_of_neg (by simp [pc_no, h28]), List.filter_nil, List.append_nil]; exact h3)
      · skip
        refine fw_iload_n dX2_bytesNotIn_31 rfl rfl ?_
        refine fw_aload_n dX2_bytesNotIn_32 rfl rfl ?_
        refine fw_getr 1 (_ + 2) rfl dX2_bytesNotIn_33 ff_2_21 hps.1 ⟨by have := hps.2.2.2.2.2; omega, by have := hps.2.2.2.2.2; omega⟩ rfl hps.2.2.2.2.1 (by have := hps.2.2.2.2.2; omega) ?_
        refine fw_iload_n dX2_bytesNotIn_36 rfl rfl ?_
        refine fw_iaload dX2_bytesNotIn_37 hps.2.2.1 ⟨by have := hps.2.2.2.2.2; omega, by have := hps.2.2.2.2.2; omega⟩ ⟨by omega, by omega⟩ ?_
        refine fw_iadd dX2_bytesNotIn_38 ⟨by omega, by omega⟩ ?_
        refine fw_istore_n (ls2 := [_, _, _, _]) dX2_bytesNotIn_39 rfl (by decide) rfl ?_
        refine fw_iinc (ls2 := [_, _, _, _]) dX2_bytesNotIn_40 rfl ⟨by omega, by omega⟩ (by decide) rfl ?_
        refine fw_goto 4 dX2_bytesNotIn_43 (by decide) ?_
        rw [show (L (p + 1) i, M (p + 2) i) = a from Prod.ext a1 a2] at h28
        exact ih _ (i + 1) (by omega) (by omega) (by omega) (by rw [hs, List.filter_cons_of_pos (by simp [pc_no, h28]), List.filter_nil, pc_sz_app, a2, h3]; simp [pc_sz])

set_option maxRecDepth 20000 in
set_option maxHeartbeats 4000000 in
theorem sp_X2_bytesNotIn (p o : Int) (n n2 : Nat) (hps : fw_ps p n) (hos : fw_ps o n2) (l lo : List pc_P) (M : fw_F) (L : fw_G) (hl : ps_at M L p l) (ho : ps_at M L o lo) (hn : l.length ≤ n) (hn4 : n ≤ 400) (hno : lo.length ≤ n2) (hn5 : n2 ≤ 400) (hd : p + 2 < o ∨ o + 2 < p) (hok : pc_ok l) : fw_SC mX2_bytesNotIn [fw_r p, fw_r o] M L (fw_pure (some (fw_i (pc_sz (l.filter (pc_no lo))))) M L) := by
  refine fw_SP_of pl_X2_bytesNotIn (ls := [_, _]) rfl (Nat.le_of_ble_eq_true rfl) fun hA hM => ?_
  refine fw_iconst dX2_bytesNotIn_0 ⟨by decide, by decide⟩ ?_
  refine fw_istore_n (ls2 := [_, _, _]) dX2_bytesNotIn_1 rfl (by decide) rfl ?_
  refine fw_iconst dX2_bytesNotIn_2 ⟨by decide, by decide⟩ ?_
  refine fw_istore_n (ls2 := [_, _, _, _]) dX2_bytesNotIn_3 rfl (by decide) rfl ?_
  exact lp_X2_bytesNotIn p o n n2 hps hos l lo M L hl ho hn hn4 hno hn5 hd hok (l.length + 1) 0 0 (by omega) (by decide) (by omega) rfl
