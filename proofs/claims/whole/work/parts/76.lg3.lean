/-! a stretch of an array copied within it -/
def fw_cpy (M : fw_F) (k sp dp cn : Int) : fw_F := fun q j => if q = k ∧ dp ≤ j ∧ j < dp + cn then M k (sp + (j - dp)) else M q j
theorem lw_copy : Cond.native arraycopyName ∈ fw_tbl ∧ Cond.static arraycopyName ∈ fw_tbl ∧ Cond.initialized "java/lang/System" ∈ fw_tbl := ⟨fw_mem 705 (by decide +kernel) rfl, fw_mem 704 (by decide +kernel) rfl, fw_mem 73 (by decide +kernel) rfl⟩
theorem fw_copy {y : fw_M} {K0 pc K sl : Nat} {ls : List (Option fw_V)} {st : List fw_V} {R M : fw_F} {L : fw_G} {Q : fw_Q} {n idx : Nat} {k sp dp cn : Int} (hd : decode (fw_mC y) pc = .ok (.invokestatic idx, 3)) (hlk : Cond.methodLink (fw_cn (fw_mO y)) idx arraycopyName ∈ fw_tbl) (hl : fw_lay (fw_mW y) k = (10, n)) (hK : K ≤ fw_KW (fw_mW y)) (hk : 0 ≤ k ∧ k < K)
    (h1 : 0 ≤ sp) (h2 : 0 ≤ dp) (h3 : 0 ≤ cn) (h4 : sp + cn ≤ n) (h5 : dp + cn ≤ n) (hn : n ≤ 1000) (hfr : 1 ≤ fw_mF y) (hlo : (st.map fw_cat).sum + (nativeFrameWords "java/lang/System" "arraycopy" 5 + 11) ≤ fw_mX y)
    (kk : fw_WP y K0 (pc + 3) ls st K sl R (fw_cpy M k sp dp cn) L Q) : fw_WP y K0 pc ls (fw_i cn :: fw_i dp :: fw_r k :: fw_i sp :: fw_r k :: st) K sl R M L Q := by
  intro l D cA p e s m args below meth c bb H locs la hZ hO hY
  intro T hT X
  have hts := hZ.2.2.2.2.2.1
  have ok1 : fw_ok sp := ⟨by omega, by omega⟩
  have ok2 : fw_ok dp := ⟨by omega, by omega⟩
  have ok3 : fw_ok cn := ⟨by omega, by omega⟩
  have hc : H[bb + k.toNat]? = some (arrV (cA 0) n (fun j => Value.int (Int32.ofInt (M k j)))) := fw_acell hY.2.2.1 hl (by decide) hk
  obtain ⟨-, k0, hk0, cm0, hkk0⟩ := (hZ.2.2.2.2.2.2.2.2.1.1.2 0 _ rfl).1 n (fun j => Value.int (Int32.ofInt (M k j)))
  have nlt : ∀ z : Int, fw_ok z → 0 ≤ z → ¬ Int32.ofInt z < 0 := fun z hz h0 q => by
    have := (fw_lt hz fw_ok0).mp q
    omega
  obtain ⟨vm', X', step⟩ := X.arraycopy hZ.1 hZ.2.2.2.2.1 (hts _ hlk) (hts _ lw_copy.1) (hts _ lw_copy.2.1) (hts _ lw_copy.2.2) (src := bb + k.toNat) (dst := bb + k.toNat) (cs := arrV (cA 0) n (fun j => Value.int (Int32.ofInt (M k j)))) (cd := arrV (cA 0) n (fun j => Value.int (Int32.ofInt (M k j)))) (srcPos := Int32.ofInt sp) (destPos := Int32.ofInt dp) (n := Int32.ofInt cn) (by rw [hT]; exact hc) (by rw [hT]; exact hc)
    (fun _ h => by cases h) (fun _ h => by cases h) (fun h => by cases h) (fun h => by cases h) hk0 hk0 hkk0 hkk0 (by simp [refKind]) (nlt sp ok1 h1) (nlt dp ok2 h2) (nlt cn ok3 h3)
    (by rw [fw_toInt ok1, fw_toInt ok3, arrV_size]; omega) (by rw [fw_toInt ok2, fw_toInt ok3, arrV_size]; omega)
    (fun vm₁ _ i hi => by
      rw [fw_clamp ok3] at hi
      have ez : (arrV (cA 0) n (fun j => Value.int (Int32.ofInt (M k j)))).slots.getD ((Int32.ofInt sp).toNatClampNeg + i) .null = .int (Int32.ofInt (M k ((sp.toNat + i : Nat) : Int))) := by
        rw [fw_clamp ok1, Array.getD_eq_getD_getElem?, arrV_read _ _ (by omega)]
        rfl
      rw [ez]
      exact ⟨rfl, trivial⟩)
    (g := F0 m pc la ((fw_i cn :: fw_i dp :: fw_r k :: fw_i sp :: fw_r k :: st).map (fw_cv bb))) rfl (by rw [hZ.2.2.2.1]; exact hY.2.2.2.2.2.1) (rest := st.map (fw_cv bb)) rfl (by rw [hZ.2.1]; exact hd) hfr (by show 2 * 0 + _ + _ ≤ _; rw [fw_cats]; have h9 : (fw_rm y).locals = fw_mX y := rfl; omega)
  have e1 : copied (arrV (cA 0) n (fun j => Value.int (Int32.ofInt (M k j)))) (arrV (cA 0) n (fun j => Value.int (Int32.ofInt (M k j)))) (Int32.ofInt sp) (Int32.ofInt dp) (Int32.ofInt cn) = arrV (cA 0) n (fun j => Value.int (Int32.ofInt (fw_cpy M k sp dp cn k j))) := by
    have e0 := va_copied (fun z : Int => Value.int (Int32.ofInt z)) (cA 0) (cA 0) (n0 := n) (n1 := n) (sp := sp.toNat) (dp := dp.toNat) (n := cn.toNat) (fun j => M k j) (fun j => M k j) (by omega)
    unfold copied
    rw [fw_clamp ok1, fw_clamp ok2, fw_clamp ok3]
    refine e0.trans ?_
    congr 1
    funext j
    unfold va_cpy fw_cpy
    by_cases hj : dp.toNat ≤ j ∧ j < dp.toNat + cn.toNat
    · rw [if_pos hj, if_pos (by omega)]
      show Value.int (Int32.ofInt (M k ((sp.toNat + (j - dp.toNat) : Nat) : Int))) = _
      congr 3
      omega
    · rw [if_neg hj, if_neg (by omega)]
  rw [e1] at X' step
  have hlt : bb + k.toNat < H.size := (Array.getElem?_eq_some_iff.mp hc).1
  have hheap : ((T.setVm vm').setCell (bb + k.toNat) (arrV (cA 0) n (fun j => Value.int (Int32.ofInt (fw_cpy M k sp dp cn k j))))).heap = H.setIfInBounds (bb + k.toNat) (arrV (cA 0) n (fun j => Value.int (Int32.ofInt (fw_cpy M k sp dp cn k j)))) := by rw [← hT]; rfl
  have oq : ∀ q : Nat, q ≠ bb + k.toNat → (H.setIfInBounds (bb + k.toNat) (arrV (cA 0) n (fun j => Value.int (Int32.ofInt (fw_cpy M k sp dp cn k j)))))[q]? = H[q]? := fun q hq => by simp [Array.getElem?_setIfInBounds, Ne.symm hq]
  have oe : (H.setIfInBounds (bb + k.toNat) (arrV (cA 0) n (fun j => Value.int (Int32.ofInt (fw_cpy M k sp dp cn k j)))))[bb + k.toNat]? = some (arrV (cA 0) n (fun j => Value.int (Int32.ofInt (fw_cpy M k sp dp cn k j)))) := by simp [Array.getElem?_setIfInBounds, hlt]
  obtain ⟨hkn, hke⟩ := fw_nat hk
  refine Exists.elim (kk l D cA p e s m args below meth c bb _ _ la hZ (fw_ot (fw_ot (fw_ot (fw_ot (fw_ot hO))))) ⟨hY.1, fun q j => ?_, ?_, ⟨hY.2.2.2.1.1, ?_⟩, ⟨?_, ?_, ?_⟩, hY.2.2.2.2.2⟩ _ hheap X') (fun t ht => ⟨t, step t ht.1, ht.2⟩)
  · unfold fw_cpy
    split
    · exact hY.2.1 _ _
    · exact hY.2.1 _ _
  · refine fw_Wd_put (q := k.toNat) hY.2.2.1 oq (fun k' j hne => ⟨rfl, ?_, rfl⟩) ⟨fun h => ?_, fun _ => ?_⟩
    · unfold fw_cpy
      rw [if_neg (by omega)]
    · rw [hke, hl] at h
      exact absurd h (by show ¬ (10 : Nat) < 10; decide)
    · rw [hke, hl]
      exact oe
  · rw [Array.size_setIfInBounds]; exact hY.2.2.2.1.2
  · rw [Array.size_setIfInBounds]; exact hY.2.2.2.2.1.1
  · intro q g1 g2
    rw [oq q (fun e => g2 (by rw [e]; exact fw_inA hK hk))]
    exact hY.2.2.2.2.1.2.1 q g1 g2
  · intro q hq
    rcases List.mem_append.mp hq with h | h
    · exact hY.2.2.2.2.1.2.2 q h
    · obtain ⟨z, -, hz⟩ := List.mem_map.mp h
      rw [← hz]
      exact fw_inA hK hk

set_option maxRecDepth 20000 in
set_option maxHeartbeats 4000000 in
theorem sp_X1_nextDay (N : fw_F) (L : fw_G) (hd : 0 ≤ N 1 7 ∧ N 1 7 < 29) : fw_SC mX1_nextDay [fw_r 1] N L (fun r M2 L2 => r = none ∧ L2 = L ∧ (∀ k, ¬ k = 1 → ¬ k = 5 → M2 k = N k) ∧ (M2 1 7 = N 1 7 + 1 ∧ ∀ j, ¬ j = 7 → M2 1 j = N 1 j) ∧ (∀ z, M2 5 z = if N 1 7 * 16 + 16 ≤ z ∧ z < N 1 7 * 16 + 32 then N 5 (z - 16) else N 5 z)) := by
  refine fw_SP_of pl_X1_nextDay (ls := [_]) rfl (Nat.le_of_ble_eq_true rfl) fun hA hM => ?_
  refine fw_bipush dX1_nextDay_0 ⟨by decide, by decide⟩ (by decide) ?_
  refine fw_istore_n (ls2 := [_, _]) dX1_nextDay_2 rfl (by decide) rfl ?_
  refine fw_aload_n dX1_nextDay_3 rfl rfl ?_
  refine fw_getr 3 5 rfl dX1_nextDay_4 ff_1_24 ly0_1 ⟨by decide, by decide⟩ rfl rfl (by decide) ?_
  refine fw_aload_n dX1_nextDay_7 rfl rfl ?_
  refine fw_geti 7 rfl dX1_nextDay_8 ff_1_38 ly0_1 ⟨by decide, by decide⟩ rfl ?_
  refine fw_iload_n dX1_nextDay_11 rfl rfl ?_
  refine fw_imul dX1_nextDay_12 ⟨by omega, by omega⟩ ?_
  refine fw_aload_n dX1_nextDay_13 rfl rfl ?_
  refine fw_getr 3 5 rfl dX1_nextDay_14 ff_1_24 ly0_1 ⟨by decide, by decide⟩ rfl rfl (by decide) ?_
  refine fw_aload_n dX1_nextDay_17 rfl rfl ?_
  refine fw_geti 7 rfl dX1_nextDay_18 ff_1_38 ly0_1 ⟨by decide, by decide⟩ rfl ?_
  refine fw_iconst dX1_nextDay_21 ⟨by decide, by decide⟩ ?_
  refine fw_iadd dX1_nextDay_22 ⟨by omega, by omega⟩ ?_
  refine fw_iload_n dX1_nextDay_23 rfl rfl ?_
  refine fw_imul dX1_nextDay_24 ⟨by omega, by omega⟩ ?_
  refine fw_iload_n dX1_nextDay_25 rfl rfl ?_
  refine fw_copy dX1_nextDay_26 lk_1_102 ly0_5 (by decide) ⟨by decide, by decide⟩ (by omega) (by omega) (by decide) (by omega) (by omega) (by decide) (by decide) (by decide) ?_
  refine fw_aload_n dX1_nextDay_29 rfl rfl ?_
  refine fw_dup dX1_nextDay_30 rfl ?_
  have e17 : fw_cpy N 5 (N 1 7 * 16) ((N 1 7 + 1) * 16) 16 1 = N 1 := by
    funext j
    unfold fw_cpy
    rw [if_neg (by omega)]
  refine fw_geti 7 rfl dX1_nextDay_31 ff_1_38 ly0_1 ⟨by decide, by decide⟩ rfl ?_
  rw [e17]
  refine fw_iconst dX1_nextDay_34 ⟨by decide, by decide⟩ ?_
  refine fw_iadd dX1_nextDay_35 ⟨by omega, by omega⟩ ?_
  refine fw_puti 7 rfl dX1_nextDay_36 fp_1_38 ly0_1 (by decide) ⟨by decide, by decide⟩ rfl ?_
  refine fw_vret dX1_nextDay_39 ⟨rfl, rfl, rfl⟩ ?_
  refine ⟨rfl, rfl, fun k a b => ?_, ?_, fun z => ?_⟩
  · rw [fw_updne a]; funext j; unfold fw_cpy; rw [if_neg (by omega)]
  · exact ⟨fw_updj, fun j a => by rw [fw_updjn a, e17]⟩
  · rw [fw_updne (by decide)]; unfold fw_cpy
    by_cases hz : N 1 7 * 16 + 16 ≤ z ∧ z < N 1 7 * 16 + 32
    · rw [if_pos hz, if_pos (by omega)]; congr 1; omega
    · rw [if_neg hz, if_neg (by omega)]
