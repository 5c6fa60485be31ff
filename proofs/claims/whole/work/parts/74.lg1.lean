/-! marks: bits of an int -/
abbrev ab_bt (x t : Int) : Prop := ¬ fw_and x (fw_shl 1 t) = 0
theorem i32_z (z : Int32) : z.toInt = 0 ↔ z = 0 := by
  constructor
  · intro h; exact Int32.toInt_inj.mp (h.trans (by decide))
  · rintro rfl; decide
theorem ab_bt_st : ∀ s t : Fin 12, ((1 : Int32) <<< (Int32.ofInt (s.val : Int) &&& 31)) &&& ((1 : Int32) <<< (Int32.ofInt (t.val : Int) &&& 31)) = 0 ↔ ¬ s = t := by decide +kernel
theorem ab_bt_or (x : Int) {s t : Int} (hs : 0 ≤ s ∧ s < 12) (ht : 0 ≤ t ∧ t < 12) : ab_bt (fw_or x (fw_shl 1 s)) t ↔ ab_bt x t ∨ t = s := by
  have h := ab_bt_st ⟨s.toNat, by omega⟩ ⟨t.toNat, by omega⟩
  simp only [show ((s.toNat : Nat) : Int) = s by omega, show ((t.toNat : Nat) : Int) = t by omega, Fin.mk.injEq] at h
  unfold ab_bt fw_and fw_or fw_shl
  simp only [Int32.ofInt_toInt, i32_z, show Int32.ofInt 1 = (1 : Int32) from rfl]
  generalize Int32.ofInt x = X
  generalize ((1 : Int32) <<< (Int32.ofInt s &&& 31)) = S at h ⊢
  generalize ((1 : Int32) <<< (Int32.ofInt t &&& 31)) = U at h ⊢
  have e : (X ||| S) &&& U = (X &&& U) ||| (S &&& U) := by
    apply Int32.toBitVec_inj.mp
    simp only [Int32.toBitVec_and, Int32.toBitVec_or]
    apply BitVec.eq_of_getLsbD_eq
    intro i _
    simp only [BitVec.getLsbD_and, BitVec.getLsbD_or]
    cases X.toBitVec.getLsbD i <;> cases S.toBitVec.getLsbD i <;> cases U.toBitVec.getLsbD i <;> rfl
  rw [e]
  by_cases hst : s = t
  · have h1 : ¬ S &&& U = 0 := fun q => (h.mp q) (by omega)
    refine ⟨fun _ => Or.inr hst.symm, fun _ q => h1 ?_⟩
    apply Int32.toBitVec_inj.mp
    have q2 := congrArg Int32.toBitVec q
    rw [Int32.toBitVec_or] at q2
    exact (BitVec.or_eq_zero_iff.mp q2).2
  · have h1 : S &&& U = 0 := h.mpr (by omega)
    rw [h1]
    have e2 : (X &&& U) ||| 0 = X &&& U := by
      apply Int32.toBitVec_inj.mp
      rw [Int32.toBitVec_or]
      exact BitVec.or_zero
    rw [e2]
    exact ⟨fun q => Or.inl q, fun q => q.elim id (fun z => absurd z.symm hst)⟩
theorem ab_bt_0 : ∀ t : Fin 12, ¬ ab_bt 0 (t.val : Int) := by decide +kernel

set_option maxRecDepth 20000 in
set_option maxHeartbeats 4000000 in
theorem l2_X1_leastUnmade (m : Int) (M : fw_F) (L : fw_G) (hm : 0 ≤ m ∧ m < 4) (hd : 0 ≤ M 1 7 ∧ M 1 7 < 30) (hT : 0 ≤ M 1 6 ∧ M 1 6 ≤ 80) (hO : ∀ i, 0 ≤ i → i < M 1 6 → (0 ≤ M 3 i ∧ M 3 i < 80) ∧ (0 ≤ M (8 + 2 * M 3 i) 1 ∧ M (8 + 2 * M 3 i) 1 < 4) ∧ (0 ≤ M (8 + 2 * M 3 i) 4 ∧ M (8 + 2 * M 3 i) 4 < 12)) (x : Int) (hx : ∀ t, 0 ≤ t → t < 12 → (ab_bt x t ↔ (∃ i, 0 ≤ i ∧ i < M 1 6 ∧ M (8 + 2 * M 3 i) 3 = 0 ∧ M (8 + 2 * M 3 i) 2 < M 5 ((M 1 7 * 4 + m) * 4 + M (8 + 2 * M 3 i) 1) ∧ M (8 + 2 * M 3 i) 4 = t))) : ∀ (q : Nat) (t : Int), 12 - t < q → 1 ≤ t → t ≤ 12 → (∀ u, 1 ≤ u → u < t → (∃ i, 0 ≤ i ∧ i < M 1 6 ∧ M (8 + 2 * M 3 i) 3 = 0 ∧ M (8 + 2 * M 3 i) 2 < M 5 ((M 1 7 * 4 + m) * 4 + M (8 + 2 * M 3 i) 1) ∧ M (8 + 2 * M 3 i) 4 = u)) → fw_C mX1_leastUnmade 59 [some (fw_r 1), some (fw_i m), some (fw_i x), some (fw_i t)] [] M L (fun r M2 L2 => M2 = M ∧ L2 = L ∧ ∃ q, r = some (fw_i q) ∧ (1 ≤ q ∧ q ≤ 12) ∧ (∀ t, 1 ≤ t → t < q → (∃ i, 0 ≤ i ∧ i < M 1 6 ∧ M (8 + 2 * M 3 i) 3 = 0 ∧ M (8 + 2 * M 3 i) 2 < M 5 ((M 1 7 * 4 + m) * 4 + M (8 + 2 * M 3 i) 1) ∧ M (8 + 2 * M 3 i) 4 = t)) ∧ (q < 12 → ¬ (∃ i, 0 ≤ i ∧ i < M 1 6 ∧ M (8 + 2 * M 3 i) 3 = 0 ∧ M (8 + 2 * M 3 i) 2 < M 5 ((M 1 7 * 4 + m) * 4 + M (8 + 2 * M 3 i) 1) ∧ M (8 + 2 * M 3 i) 4 = q))) := by
  intro q
  induction q with
  | zero => intro t h0 h1 h2; omega
  | succ q ih =>
    intro t h0 h1 h2 h3
    refine fw_iload_n dX1_leastUnmade_59 rfl rfl ?_
    refine fw_bipush dX1_leastUnmade_60 ⟨by decide, by decide⟩ (by decide) ?_
    refine fw_icmp_ge 79 dX1_leastUnmade_62 (by decide) (fun h62 => ?_) (fun h62 => ?_)
    · skip
      refine fw_iload_n dX1_leastUnmade_79 rfl rfl ?_
      refine fw_iret dX1_leastUnmade_80 ⟨rfl, rfl, rfl⟩ ?_
      exact ⟨rfl, rfl, t, rfl, by omega, h3, fun a => by omega⟩
    · skip
      refine fw_iload_n dX1_leastUnmade_65 rfl rfl ?_
      refine fw_iconst dX1_leastUnmade_66 ⟨by decide, by decide⟩ ?_
      refine fw_iload_n dX1_leastUnmade_67 rfl rfl ?_
      refine fw_ishl dX1_leastUnmade_68 ?_
      refine fw_iand dX1_leastUnmade_69 ?_
      refine fw_if_eq 79 dX1_leastUnmade_70 (by decide) (fun h70 => ?_) (fun h70 => ?_)
      · skip
        refine fw_iload_n dX1_leastUnmade_79 rfl rfl ?_
        refine fw_iret dX1_leastUnmade_80 ⟨rfl, rfl, rfl⟩ ?_
        exact ⟨rfl, rfl, t, rfl, by omega, h3, fun a => fun z => (hx t (by omega) a).mpr z h70⟩
      · skip
        refine fw_iinc (ls2 := [_, _, _, _]) dX1_leastUnmade_73 rfl ⟨by omega, by omega⟩ (by decide) rfl ?_
        refine fw_goto 59 dX1_leastUnmade_76 (by decide) ?_
        refine ih (t + 1) (by omega) (by omega) (by omega) (fun u a b => ?_)
        rcases (show u < t ∨ u = t by omega) with c | c
        · exact h3 u a c
        · rw [c]; exact (hx t (by omega) (by omega)).mp h70

set_option maxRecDepth 20000 in
set_option maxHeartbeats 4000000 in
theorem lp_X1_leastUnmade (m : Int) (M : fw_F) (L : fw_G) (hm : 0 ≤ m ∧ m < 4) (hd : 0 ≤ M 1 7 ∧ M 1 7 < 30) (hT : 0 ≤ M 1 6 ∧ M 1 6 ≤ 80) (hO : ∀ i, 0 ≤ i → i < M 1 6 → (0 ≤ M 3 i ∧ M 3 i < 80) ∧ (0 ≤ M (8 + 2 * M 3 i) 1 ∧ M (8 + 2 * M 3 i) 1 < 4) ∧ (0 ≤ M (8 + 2 * M 3 i) 4 ∧ M (8 + 2 * M 3 i) 4 < 12)) : ∀ (q : Nat) (i x : Int), M 1 6 - i < q → 0 ≤ i → i ≤ M 1 6 → (∀ t, 0 ≤ t → t < 12 → (ab_bt x t ↔ (∃ j, 0 ≤ j ∧ j < i ∧ M (8 + 2 * M 3 j) 3 = 0 ∧ M (8 + 2 * M 3 j) 2 < M 5 ((M 1 7 * 4 + m) * 4 + M (8 + 2 * M 3 j) 1) ∧ M (8 + 2 * M 3 j) 4 = t))) → fw_C mX1_leastUnmade 4 [some (fw_r 1), some (fw_i m), some (fw_i x), some (fw_i i)] [] M L (fun r M2 L2 => M2 = M ∧ L2 = L ∧ ∃ q, r = some (fw_i q) ∧ (1 ≤ q ∧ q ≤ 12) ∧ (∀ t, 1 ≤ t → t < q → (∃ i, 0 ≤ i ∧ i < M 1 6 ∧ M (8 + 2 * M 3 i) 3 = 0 ∧ M (8 + 2 * M 3 i) 2 < M 5 ((M 1 7 * 4 + m) * 4 + M (8 + 2 * M 3 i) 1) ∧ M (8 + 2 * M 3 i) 4 = t)) ∧ (q < 12 → ¬ (∃ i, 0 ≤ i ∧ i < M 1 6 ∧ M (8 + 2 * M 3 i) 3 = 0 ∧ M (8 + 2 * M 3 i) 2 < M 5 ((M 1 7 * 4 + m) * 4 + M (8 + 2 * M 3 i) 1) ∧ M (8 + 2 * M 3 i) 4 = q))) := by
  intro q
  induction q with
  | zero => intro i x h0 h1 h2; omega
  | succ q ih =>
    intro i x h0 h1 h2 h3
    refine fw_iload_n dX1_leastUnmade_4 rfl rfl ?_
    refine fw_aload_n dX1_leastUnmade_5 rfl rfl ?_
    refine fw_geti 6 rfl dX1_leastUnmade_6 ff_1_34 ly0_1 ⟨by decide, by decide⟩ rfl ?_
    refine fw_icmp_ge 57 dX1_leastUnmade_9 (by decide) (fun h9 => ?_) (fun h9 => ?_)
    · skip
      refine fw_iconst dX1_leastUnmade_57 ⟨by decide, by decide⟩ ?_
      refine fw_istore_n (ls2 := [_, _, _, _]) dX1_leastUnmade_58 rfl (by decide) rfl ?_
      rw [show i = M 1 6 by omega] at h3
      exact l2_X1_leastUnmade m M L hm hd hT hO x h3 12 1 (by decide) (by decide) (by decide) (fun u a b => by omega)
    · skip
      obtain ⟨o1, o2, o3⟩ := hO i h1 (by omega)
      refine fw_aload_n dX1_leastUnmade_12 rfl rfl ?_
      refine fw_iload_n dX1_leastUnmade_13 rfl rfl ?_
      refine fw_pV mX1_inOrder [_] dX1_leastUnmade_14 mv_X1_inOrder lk_1_86 ⟨⟨by decide, by decide⟩, rfl, rfl, rfl, by decide, by decide⟩ ly0_1 ⟨by decide, by decide⟩ rfl rfl (Nat.le_of_ble_eq_true rfl) (sp_X1_inOrder _ _ _ (by omega) (by omega)) ?_
      refine fw_astore (ls2 := [_, _, _, _, _]) dX1_leastUnmade_17 (by decide) rfl ?_
      refine fw_aload dX1_leastUnmade_19 rfl ?_
      refine fw_geti 3 rfl dX1_leastUnmade_21 ff_1_58 (ly_ch (by omega) (by omega) (by omega)) ⟨by omega, by omega⟩ rfl ?_
      refine fw_if_ne 51 dX1_leastUnmade_24 (by decide) (fun h24 => ?_) (fun h24 => ?_)
      · skip
        refine fw_iinc (ls2 := [_, _, _, _, _]) dX1_leastUnmade_51 rfl ⟨by omega, by omega⟩ (by decide) rfl ?_
        refine fw_goto 4 dX1_leastUnmade_54 (by decide) ?_
        refine fw_take 4 ?_
        refine ih (i + 1) _ (by omega) (by omega) (by omega) (fun t a b => (h3 t a b).trans ⟨fun ⟨j, j1, j2, j3⟩ => ⟨j, j1, by omega, j3⟩, fun ⟨j, j1, j2, j3, j4, j5⟩ => ?_⟩)
        rcases (show j < i ∨ j = i by omega) with c | c
        · exact ⟨j, j1, c, j3, j4, j5⟩
        · rw [c] at j3 j4; exact absurd j3 h24
      · skip
        refine fw_aload_n dX1_leastUnmade_27 rfl rfl ?_
        refine fw_aload_n dX1_leastUnmade_28 rfl rfl ?_
        refine fw_geti 7 rfl dX1_leastUnmade_29 ff_1_38 ly0_1 ⟨by decide, by decide⟩ rfl ?_
        refine fw_iload_n dX1_leastUnmade_32 rfl rfl ?_
        refine fw_aload dX1_leastUnmade_33 rfl ?_
        refine fw_pV mX1_knows [_, _, _] dX1_leastUnmade_35 mv_X1_knows lk_1_98 ⟨⟨by decide, by decide⟩, rfl, rfl, rfl, by decide, by decide⟩ ly0_1 ⟨by decide, by decide⟩ rfl rfl (Nat.le_of_ble_eq_true rfl) (sp_X1_knows _ _ _ _ _ (by omega) (by omega) (by omega) (by omega)) ?_
        refine fw_bifeq 51 dX1_leastUnmade_38 (by decide) (fun h38 => ?_) (fun h38 => ?_)
        · skip
          refine fw_iinc (ls2 := [_, _, _, _, _]) dX1_leastUnmade_51 rfl ⟨by omega, by omega⟩ (by decide) rfl ?_
          refine fw_goto 4 dX1_leastUnmade_54 (by decide) ?_
          refine fw_take 4 ?_
          refine ih (i + 1) _ (by omega) (by omega) (by omega) (fun t a b => (h3 t a b).trans ⟨fun ⟨j, j1, j2, j3⟩ => ⟨j, j1, by omega, j3⟩, fun ⟨j, j1, j2, j3, j4, j5⟩ => ?_⟩)
          rcases (show j < i ∨ j = i by omega) with c | c
          · exact ⟨j, j1, c, j3, j4, j5⟩
          · rw [c] at j3 j4; exact absurd j4 h38
        · skip
          refine fw_iload_n dX1_leastUnmade_41 rfl rfl ?_
          refine fw_iconst dX1_leastUnmade_42 ⟨by decide, by decide⟩ ?_
          refine fw_aload dX1_leastUnmade_43 rfl ?_
          refine fw_geti 4 rfl dX1_leastUnmade_45 ff_1_61 (ly_ch (by omega) (by omega) (by omega)) ⟨by omega, by omega⟩ rfl ?_
          refine fw_ishl dX1_leastUnmade_48 ?_
          refine fw_ior dX1_leastUnmade_49 ?_
          refine fw_istore_n (ls2 := [_, _, _, _, _]) dX1_leastUnmade_50 rfl (by decide) rfl ?_
          refine fw_iinc (ls2 := [_, _, _, _, _]) dX1_leastUnmade_51 rfl ⟨by omega, by omega⟩ (by decide) rfl ?_
          refine fw_goto 4 dX1_leastUnmade_54 (by decide) ?_
          refine fw_take 4 ?_
          refine ih (i + 1) _ (by omega) (by omega) (by omega) (fun t a b => ?_)
          rw [ab_bt_or x ⟨o3.1, o3.2⟩ ⟨a, b⟩, h3 t a b]
          constructor
          · rintro (⟨j, j1, j2, j3⟩ | e)
            · exact ⟨j, j1, by omega, j3⟩
            · exact ⟨i, h1, by omega, h24, h38, e.symm⟩
          · rintro ⟨j, j1, j2, j3, j4, j5⟩
            rcases (show j < i ∨ j = i by omega) with c | c
            · exact Or.inl ⟨j, j1, c, j3, j4, j5⟩
            · rw [c] at j5; exact Or.inr j5.symm

set_option maxRecDepth 20000 in
set_option maxHeartbeats 4000000 in
theorem sp_X1_leastUnmade (m : Int) (M : fw_F) (L : fw_G) (hm : 0 ≤ m ∧ m < 4) (hd : 0 ≤ M 1 7 ∧ M 1 7 < 30) (hT : 0 ≤ M 1 6 ∧ M 1 6 ≤ 80) (hO : ∀ i, 0 ≤ i → i < M 1 6 → (0 ≤ M 3 i ∧ M 3 i < 80) ∧ (0 ≤ M (8 + 2 * M 3 i) 1 ∧ M (8 + 2 * M 3 i) 1 < 4) ∧ (0 ≤ M (8 + 2 * M 3 i) 4 ∧ M (8 + 2 * M 3 i) 4 < 12)) : fw_SC mX1_leastUnmade [fw_r 1, fw_i m] M L (fun r M2 L2 => M2 = M ∧ L2 = L ∧ ∃ q, r = some (fw_i q) ∧ (1 ≤ q ∧ q ≤ 12) ∧ (∀ t, 1 ≤ t → t < q → (∃ i, 0 ≤ i ∧ i < M 1 6 ∧ M (8 + 2 * M 3 i) 3 = 0 ∧ M (8 + 2 * M 3 i) 2 < M 5 ((M 1 7 * 4 + m) * 4 + M (8 + 2 * M 3 i) 1) ∧ M (8 + 2 * M 3 i) 4 = t)) ∧ (q < 12 → ¬ (∃ i, 0 ≤ i ∧ i < M 1 6 ∧ M (8 + 2 * M 3 i) 3 = 0 ∧ M (8 + 2 * M 3 i) 2 < M 5 ((M 1 7 * 4 + m) * 4 + M (8 + 2 * M 3 i) 1) ∧ M (8 + 2 * M 3 i) 4 = q))) := by
  refine fw_SP_of pl_X1_leastUnmade (ls := [_, _]) rfl (Nat.le_of_ble_eq_true rfl) fun hA hM => ?_
  refine fw_iconst dX1_leastUnmade_0 ⟨by decide, by decide⟩ ?_
  refine fw_istore_n (ls2 := [_, _, _]) dX1_leastUnmade_1 rfl (by decide) rfl ?_
  refine fw_iconst dX1_leastUnmade_2 ⟨by decide, by decide⟩ ?_
  refine fw_istore_n (ls2 := [_, _, _, _]) dX1_leastUnmade_3 rfl (by decide) rfl ?_
  refine lp_X1_leastUnmade m M L hm hd hT hO 81 0 0 (by omega) (by decide) (by omega) (fun t a b => ⟨fun z => absurd z ?_, fun ⟨j, j1, j2, _⟩ => by omega⟩)
  have h9 := ab_bt_0 ⟨t.toNat, by omega⟩
  simp only [show ((t.toNat : Nat) : Int) = t by omega] at h9
  exact h9

/-! sending -/
def sn_PS (O kf kt : Int → Int) (i : Nat) (p : Int) : Int := max (kt p) (min (kf p) (ab_cnt O i p))
def sn_tot (kt cur : Int → Int) : Int := (cur 0 - kt 0) + (cur 1 - kt 1) + (cur 2 - kt 2) + (cur 3 - kt 3)
def sn_R (O kf kt : Int → Int) (T most : Int) (cur : Int → Int) (tot : Int) : Prop := ∃ i : Nat, (i : Int) ≤ T ∧ (∀ p, 0 ≤ p → p < 4 → cur p = sn_PS O kf kt i p) ∧ tot = sn_tot kt cur ∧ tot ≤ most ∧ (tot = most ∨ (i : Int) = T)
theorem sn_PS_mono (O kf kt : Int → Int) {i j : Nat} (h : i ≤ j) (p : Int) : sn_PS O kf kt i p ≤ sn_PS O kf kt j p := by
  have := ab_cnt_mono O p h
  unfold sn_PS
  omega
theorem sn_le {O kf kt cur cur' : Int → Int} {i j : Nat} (h : i ≤ j) (h1 : ∀ p, 0 ≤ p → p < 4 → cur p = sn_PS O kf kt i p) (h2 : ∀ p, 0 ≤ p → p < 4 → cur' p = sn_PS O kf kt j p) : sn_tot kt cur ≤ sn_tot kt cur' ∧ (sn_tot kt cur = sn_tot kt cur' → ∀ p, 0 ≤ p → p < 4 → cur p = cur' p) := by
  have a0 := sn_PS_mono O kf kt h 0
  have a1 := sn_PS_mono O kf kt h 1
  have a2 := sn_PS_mono O kf kt h 2
  have a3 := sn_PS_mono O kf kt h 3
  rw [← h1 0 (by decide) (by decide), ← h2 0 (by decide) (by decide)] at a0
  rw [← h1 1 (by decide) (by decide), ← h2 1 (by decide) (by decide)] at a1
  rw [← h1 2 (by decide) (by decide), ← h2 2 (by decide) (by decide)] at a2
  rw [← h1 3 (by decide) (by decide), ← h2 3 (by decide) (by decide)] at a3
  unfold sn_tot
  refine ⟨by omega, fun e p p0 p1 => ?_⟩
  rcases (show p = 0 ∨ p = 1 ∨ p = 2 ∨ p = 3 by omega) with rfl | rfl | rfl | rfl <;> omega
theorem sn_uniq {O kf kt cur cur' : Int → Int} {T most tot tot' : Int} (h : sn_R O kf kt T most cur tot) (h' : sn_R O kf kt T most cur' tot') : tot = tot' ∧ ∀ p, 0 ≤ p → p < 4 → cur p = cur' p := by
  obtain ⟨i, i1, i2, i3, i4, i5⟩ := h
  obtain ⟨j, j1, j2, j3, j4, j5⟩ := h'
  rcases Nat.le_total i j with c | c
  · obtain ⟨e1, e2⟩ := sn_le c i2 j2
    have e3 : sn_tot kt cur = sn_tot kt cur' := by
      rcases i5 with i5 | i5
      · omega
      · have : i = j := by omega
        subst this
        have := sn_le (Nat.le_refl i) j2 i2
        omega
    exact ⟨by omega, e2 e3⟩
  · obtain ⟨e1, e2⟩ := sn_le c j2 i2
    have e3 : sn_tot kt cur' = sn_tot kt cur := by
      rcases j5 with j5 | j5
      · omega
      · have : i = j := by omega
        subst this
        have := sn_le (Nat.le_refl i) i2 j2
        omega
    exact ⟨by omega, fun p p0 p1 => (e2 e3 p p0 p1).symm⟩
theorem sn_step {n : Int} {mk : Int → Int} {G : fw_F} {O : Int → Int} {T : Int} (h : ab_wf n mk G O T) {kf kt : Int → Int} {i : Nat} (hi : (i : Int) < T) : (∀ p, ¬ p = O i / 20 → sn_PS O kf kt (i + 1) p = sn_PS O kf kt i p) ∧ (sn_PS O kf kt (i + 1) (O i / 20) = if O i % 20 < kf (O i / 20) ∧ ¬ O i % 20 < sn_PS O kf kt i (O i / 20) then O i % 20 + 1 else sn_PS O kf kt i (O i / 20)) ∧ (O i % 20 < kf (O i / 20) ∧ ¬ O i % 20 < sn_PS O kf kt i (O i / 20) → sn_PS O kf kt i (O i / 20) = O i % 20) := by
  have hc := ab_cnt_at h hi
  have hc1 : ab_cnt O (i + 1) (O i / 20) = ab_cnt O i (O i / 20) + 1 := by simp only [ab_cnt, if_true]
  refine ⟨fun p hp => ?_, ?_, fun q => ?_⟩
  · have : ab_cnt O (i + 1) p = ab_cnt O i p := by simp only [ab_cnt]; rw [if_neg (fun e => hp e.symm)]; omega
    unfold sn_PS
    rw [this]
  · unfold sn_PS at *
    rw [hc1]
    split <;> omega
  · unfold sn_PS at *
    omega

set_option maxRecDepth 20000 in
set_option maxHeartbeats 4000000 in
theorem lp_X1_passOn (f t k n : Int) (N G : fw_F) (mk : Int → Int) (L : fw_G) (hwf : ab_wf n mk G (N 3) (N 1 6)) (hG : cl_G N mk G) (hf : 0 ≤ f ∧ f < 4) (ht : 0 ≤ t ∧ t < 4) (hft : ¬ f = t) (hk : 1 ≤ k ∧ k ≤ 80) (hd : 0 ≤ N 1 7 ∧ N 1 7 < 30) (hkn : ∀ m p, 0 ≤ m → m < 4 → 0 ≤ p → p < 4 → 0 ≤ N 5 ((N 1 7 * 4 + m) * 4 + p) ∧ N 5 ((N 1 7 * 4 + m) * 4 + p) ≤ 20) : ∀ (q : Nat) (i c : Int) (M : fw_F), N 1 6 - i < q → 0 ≤ i → i ≤ N 1 6 → ((∀ k, ¬ k = 5 → M k = N k) ∧ (∀ z, z < (N 1 7 * 4 + t) * 4 ∨ (N 1 7 * 4 + t) * 4 + 4 ≤ z → M 5 z = N 5 z)) → (∀ p, 0 ≤ p → p < 4 → M 5 ((N 1 7 * 4 + t) * 4 + p) = sn_PS (N 3) (fun p => N 5 ((N 1 7 * 4 + f) * 4 + p)) (fun p => N 5 ((N 1 7 * 4 + t) * 4 + p)) i.toNat p) → c = sn_tot (fun p => N 5 ((N 1 7 * 4 + t) * 4 + p)) (fun p => M 5 ((N 1 7 * 4 + t) * 4 + p)) → 0 ≤ c ∧ c ≤ k → fw_C mX1_passOn 6 [some (fw_r 1), some (fw_i f), some (fw_i t), some (fw_i k), some (fw_i c), some (fw_i i)] [] M L (fun r M2 L2 => L2 = L ∧ (∀ k, ¬ k = 5 → M2 k = N k) ∧ (∀ z, z < (N 1 7 * 4 + t) * 4 ∨ (N 1 7 * 4 + t) * 4 + 4 ≤ z → M2 5 z = N 5 z) ∧ ∃ tot, r = some (fw_i tot) ∧ sn_R (N 3) (fun p => N 5 ((N 1 7 * 4 + f) * 4 + p)) (fun p => N 5 ((N 1 7 * 4 + t) * 4 + p)) (N 1 6) k (fun p => M2 5 ((N 1 7 * 4 + t) * 4 + p)) tot) := by
  intro q
  induction q with
  | zero => intro i c M h0 h1 h2; omega
  | succ q ih =>
    intro i c M h0 h1 h2 hfr h5 h6 h7
    obtain ⟨g1, g2⟩ := hfr
    have e1 := g1 1 (by decide)
    have e3 := g1 3 (by decide)
    have hT := ab_T80 hwf
    refine fw_iload dX1_passOn_6 rfl ?_
    refine fw_aload_n dX1_passOn_8 rfl rfl ?_
    refine fw_geti 6 rfl dX1_passOn_9 ff_1_34 ly0_1 ⟨by decide, by decide⟩ rfl ?_
    rw [e1]
    refine fw_icmp_ge 91 dX1_passOn_12 (by decide) (fun h12 => ?_) (fun h12 => ?_)
    · skip
      refine fw_iload dX1_passOn_91 rfl ?_
      refine fw_iret dX1_passOn_93 ⟨rfl, rfl, rfl⟩ ?_
      exact ⟨rfl, g1, g2, c, rfl, i.toNat, by omega, h5, h6, h7.2, Or.inr (by omega)⟩
    · skip
      refine fw_iload dX1_passOn_15 rfl ?_
      refine fw_iload_n dX1_passOn_17 rfl rfl ?_
      refine fw_icmp_ge 91 dX1_passOn_18 (by decide) (fun h18 => ?_) (fun h18 => ?_)
      · skip
        refine fw_iload dX1_passOn_91 rfl ?_
        refine fw_iret dX1_passOn_93 ⟨rfl, rfl, rfl⟩ ?_
        exact ⟨rfl, g1, g2, c, rfl, i.toNat, by omega, h5, h6, h7.2, Or.inl (by omega)⟩
      · skip
        have hlv := hwf.2.2.2.2.1 i h1 (by omega)
        have hx := hG (N 3 i) hlv
        have hxr := cl_x_rng hlv
        have ec := g1 (8 + 2 * N 3 i) (by omega)
        have hx1 := hx.1.1
        have hx2 := hx.1.2.1
        obtain ⟨s1, s2, s3⟩ := sn_step hwf (kf := (fun p => N 5 ((N 1 7 * 4 + f) * 4 + p))) (kt := (fun p => N 5 ((N 1 7 * 4 + t) * 4 + p))) (i := i.toNat) (by omega)
        rw [show ((i.toNat : Nat) : Int) = i by omega] at s1 s2 s3
        have hw0 : 0 ≤ N 3 i / 20 ∧ N 3 i / 20 < 4 := by have := hlv.1; have := hlv.2.1; omega
        have hnx : (i + 1).toNat = i.toNat + 1 := by omega
        have h5w := h5 (N 3 i / 20) hw0.1 hw0.2
        refine fw_aload_n dX1_passOn_21 rfl rfl ?_
        refine fw_iload dX1_passOn_22 rfl ?_
        refine fw_pV mX1_inOrder [_] dX1_passOn_24 mv_X1_inOrder lk_1_86 ⟨⟨by decide, by decide⟩, rfl, rfl, rfl, by decide, by decide⟩ ly0_1 ⟨by decide, by decide⟩ rfl rfl (Nat.le_of_ble_eq_true rfl) (sp_X1_inOrder _ _ _ (by omega) (by rw [e3]; omega)) ?_
        rw [e3]
        refine fw_astore (ls2 := [_, _, _, _, _, _, _]) dX1_passOn_27 (by decide) rfl ?_
        refine fw_aload_n dX1_passOn_29 rfl rfl ?_
        refine fw_aload_n dX1_passOn_30 rfl rfl ?_
        refine fw_geti 7 rfl dX1_passOn_31 ff_1_38 ly0_1 ⟨by decide, by decide⟩ rfl ?_
        refine fw_iload_n dX1_passOn_34 rfl rfl ?_
        refine fw_aload dX1_passOn_35 rfl ?_
        refine fw_pV mX1_knows [_, _, _] dX1_passOn_37 mv_X1_knows lk_1_98 ⟨⟨by decide, by decide⟩, rfl, rfl, rfl, by decide, by decide⟩ ly0_1 ⟨by decide, by decide⟩ rfl rfl (Nat.le_of_ble_eq_true rfl) (sp_X1_knows _ _ _ _ _ (by rw [e1]; omega) (by omega) (by omega) (by rw [ec, hx1]; omega)) ?_
        rw [ec, hx1, hx2, e1, g2 _ (by omega)]
        refine fw_bifeq 85 dX1_passOn_40 (by decide) (fun h40 => ?_) (fun h40 => ?_)
        · skip
          refine fw_iinc (ls2 := [_, _, _, _, _, _, _]) dX1_passOn_85 rfl ⟨by omega, by omega⟩ (by decide) rfl ?_
          refine fw_goto 6 dX1_passOn_88 (by decide) ?_
          refine fw_take 6 ?_
          refine ih (i + 1) _ _ (by omega) (by omega) (by omega) ⟨g1, g2⟩ (fun p a b => ?_) h6 h7
          rw [hnx]
          by_cases hp : p = N 3 i / 20
          · rw [hp, s2, if_neg (fun z => h40 z.1)]; exact h5w
          · rw [s1 p hp]; exact h5 p a b
        · skip
          refine fw_aload_n dX1_passOn_43 rfl rfl ?_
          refine fw_aload_n dX1_passOn_44 rfl rfl ?_
          refine fw_geti 7 rfl dX1_passOn_45 ff_1_38 ly0_1 ⟨by decide, by decide⟩ rfl ?_
          refine fw_iload_n dX1_passOn_48 rfl rfl ?_
          refine fw_aload dX1_passOn_49 rfl ?_
          refine fw_pV mX1_knows [_, _, _] dX1_passOn_51 mv_X1_knows lk_1_98 ⟨⟨by decide, by decide⟩, rfl, rfl, rfl, by decide, by decide⟩ ly0_1 ⟨by decide, by decide⟩ rfl rfl (Nat.le_of_ble_eq_true rfl) (sp_X1_knows _ _ _ _ _ (by rw [e1]; omega) (by omega) (by omega) (by rw [ec, hx1]; omega)) ?_
          rw [ec, hx1, hx2, e1, h5w]
          refine fw_bifne 85 dX1_passOn_54 (by decide) (fun h54 => ?_) (fun h54 => ?_)
          · skip
            refine fw_iinc (ls2 := [_, _, _, _, _, _, _]) dX1_passOn_85 rfl ⟨by omega, by omega⟩ (by decide) rfl ?_
            refine fw_goto 6 dX1_passOn_88 (by decide) ?_
            refine fw_take 6 ?_
            refine ih (i + 1) _ _ (by omega) (by omega) (by omega) ⟨g1, g2⟩ (fun p a b => ?_) h6 h7
            rw [hnx]
            by_cases hp : p = N 3 i / 20
            · rw [hp, s2, if_neg (fun z => z.2 h54)]; exact h5w
            · rw [s1 p hp]; exact h5 p a b
          · skip
            have hsP := s3 ⟨h40, h54⟩
            have h4w := hkn t (N 3 i / 20) ht.1 ht.2 hw0.1 hw0.2
            refine fw_aload_n dX1_passOn_57 rfl rfl ?_
            refine fw_getr 3 5 rfl dX1_passOn_58 ff_1_24 ly0_1 ⟨by decide, by decide⟩ rfl rfl (by decide) ?_
            refine fw_aload_n dX1_passOn_61 rfl rfl ?_
            refine fw_geti 7 rfl dX1_passOn_62 ff_1_38 ly0_1 ⟨by decide, by decide⟩ rfl ?_
            refine fw_iload_n dX1_passOn_65 rfl rfl ?_
            refine fw_aload dX1_passOn_66 rfl ?_
            refine fw_geti 1 rfl dX1_passOn_68 ff_1_48 (ly_ch (by omega) (by omega) (by omega)) ⟨by omega, by omega⟩ rfl ?_
            rw [ec, hx1, e1]
            refine fw_pS mX1_placeOf [_, _, _] dX1_passOn_71 mv_X1_placeOf lk_1_41 ⟨⟨by decide, by decide⟩, rfl, rfl, rfl, by decide, by decide⟩ rfl rfl (Nat.le_of_ble_eq_true rfl) (sp_X1_placeOf _ _ _ _ _ (by omega) (by omega) (by omega)) ?_
            refine fw_aload dX1_passOn_74 rfl ?_
            refine fw_geti 2 rfl dX1_passOn_76 ff_1_45 (ly_ch (by omega) (by omega) (by omega)) ⟨by omega, by omega⟩ rfl ?_
            rw [ec, hx2]
            refine fw_iconst dX1_passOn_79 ⟨by decide, by decide⟩ ?_
            refine fw_iadd dX1_passOn_80 ⟨by omega, by omega⟩ ?_
            refine fw_iastore dX1_passOn_81 ly0_5 (by decide) ⟨by decide, by decide⟩ ⟨by omega, by omega⟩ ?_
            refine fw_iinc (ls2 := [_, _, _, _, _, _, _]) dX1_passOn_82 rfl ⟨by omega, by omega⟩ (by decide) rfl ?_
            refine fw_iinc (ls2 := [_, _, _, _, _, _, _]) dX1_passOn_85 rfl ⟨by omega, by omega⟩ (by decide) rfl ?_
            refine fw_goto 6 dX1_passOn_88 (by decide) ?_
            refine fw_take 6 ?_
            refine ih (i + 1) _ _ (by omega) (by omega) (by omega) ⟨fun k a => (fw_updne a).trans (g1 k a), fun z a => ?_⟩ (fun p a b => ?_) ?_ (by omega)
            · rw [fw_updeq, if_neg (by omega)]; exact g2 z a
            · rw [fw_updeq, hnx]
              by_cases hp : p = N 3 i / 20
              · rw [if_pos (by omega), hp, s2, if_pos ⟨h40, h54⟩]
              · rw [if_neg (by omega), s1 p hp]; exact h5 p a b
            · rw [h6]
              unfold sn_tot
              simp only [fw_updeq]
              rw [hsP] at h5w
              rcases (show N 3 i / 20 = 0 ∨ N 3 i / 20 = 1 ∨ N 3 i / 20 = 2 ∨ N 3 i / 20 = 3 by omega) with e | e | e | e <;> rw [e] at h5w ⊢ <;> simp (disch := omega) only [if_true, if_pos, if_neg] <;> omega

set_option maxRecDepth 20000 in
set_option maxHeartbeats 4000000 in
theorem sp_X1_passOn (f t k n : Int) (N G : fw_F) (mk : Int → Int) (L : fw_G) (hwf : ab_wf n mk G (N 3) (N 1 6)) (hG : cl_G N mk G) (hf : 0 ≤ f ∧ f < 4) (ht : 0 ≤ t ∧ t < 4) (hft : ¬ f = t) (hk : 1 ≤ k ∧ k ≤ 80) (hd : 0 ≤ N 1 7 ∧ N 1 7 < 30) (hkn : ∀ m p, 0 ≤ m → m < 4 → 0 ≤ p → p < 4 → 0 ≤ N 5 ((N 1 7 * 4 + m) * 4 + p) ∧ N 5 ((N 1 7 * 4 + m) * 4 + p) ≤ 20) : fw_SC mX1_passOn [fw_r 1, fw_i f, fw_i t, fw_i k] N L (fun r M2 L2 => L2 = L ∧ (∀ k, ¬ k = 5 → M2 k = N k) ∧ (∀ z, z < (N 1 7 * 4 + t) * 4 ∨ (N 1 7 * 4 + t) * 4 + 4 ≤ z → M2 5 z = N 5 z) ∧ ∃ tot, r = some (fw_i tot) ∧ sn_R (N 3) (fun p => N 5 ((N 1 7 * 4 + f) * 4 + p)) (fun p => N 5 ((N 1 7 * 4 + t) * 4 + p)) (N 1 6) k (fun p => M2 5 ((N 1 7 * 4 + t) * 4 + p)) tot) := by
  refine fw_SP_of pl_X1_passOn (ls := [_, _, _, _]) rfl (Nat.le_of_ble_eq_true rfl) fun hA hM => ?_
  refine fw_iconst dX1_passOn_0 ⟨by decide, by decide⟩ ?_
  refine fw_istore (ls2 := [_, _, _, _, _]) dX1_passOn_1 (by decide) rfl ?_
  refine fw_iconst dX1_passOn_3 ⟨by decide, by decide⟩ ?_
  refine fw_istore (ls2 := [_, _, _, _, _, _]) dX1_passOn_4 (by decide) rfl ?_
  have hT := ab_T80 hwf
  refine lp_X1_passOn f t k n N G mk L hwf hG hf ht hft hk hd hkn 81 0 0 N (by omega) (by decide) (by omega) ⟨fun _ _ => rfl, fun _ _ => rfl⟩ (fun p a b => ?_) (by simp [sn_tot]) (by omega)
  show _ = max (N 5 ((N 1 7 * 4 + t) * 4 + p)) (min (N 5 ((N 1 7 * 4 + f) * 4 + p)) 0)
  have := hkn f p hf.1 hf.2 a b
  have := hkn t p ht.1 ht.2 a b
  omega
