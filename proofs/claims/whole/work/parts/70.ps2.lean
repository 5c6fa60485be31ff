/-! the cut of a row of bytes -/
def pc_nx (y : Int64) (b : Int) : Int64 := (y <<< (Int64.ofInt 8 &&& 63)) ||| Int64.ofInt b
def pc_sq (x : Int64) (n : Int) : Nat → Int64 × Int × List pc_P
  | 0 => (0, 0, [])
  | i + 1 => if ab_by x n i % 4 = 3 ∨ (i : Int) = n - 1 then (0, 0, (pc_sq x n i).2.2 ++ [(pc_nx (pc_sq x n i).1 (ab_by x n i), (pc_sq x n i).2.1 + 1)]) else (pc_nx (pc_sq x n i).1 (ab_by x n i), (pc_sq x n i).2.1 + 1, (pc_sq x n i).2.2)
def pc_cs (x : Int64) (n : Int) : List pc_P := (pc_sq x n n.toNat).2.2
theorem pc_sq_s (x : Int64) (n : Int) {i : Int} (h : 0 ≤ i) : pc_sq x n (i + 1).toNat = if ab_by x n i % 4 = 3 ∨ i = n - 1 then (0, 0, (pc_sq x n i.toNat).2.2 ++ [(pc_nx (pc_sq x n i.toNat).1 (ab_by x n i), (pc_sq x n i.toNat).2.1 + 1)]) else (pc_nx (pc_sq x n i.toNat).1 (ab_by x n i), (pc_sq x n i.toNat).2.1 + 1, (pc_sq x n i.toNat).2.2) := by
  rw [show (i + 1).toNat = i.toNat + 1 by omega]
  simp only [pc_sq, show ((i.toNat : Nat) : Int) = i by omega]
theorem pc_sq_ok (x : Int64) (n : Int) : ∀ i : Nat, i ≤ 8 → (0 ≤ (pc_sq x n i).2.1 ∧ (pc_sq x n i).2.1 ≤ i) ∧ pc_ok (pc_sq x n i).2.2 ∧ (pc_sq x n i).2.2.length ≤ i := by
  intro i
  induction i with
  | zero => intro _; exact ⟨⟨Int.le_refl _, Int.le_refl _⟩, fun a ha => by simp [pc_sq] at ha, Nat.le_refl _⟩
  | succ i ih =>
    intro hi
    obtain ⟨⟨h1, h2⟩, h3, h4⟩ := ih (by omega)
    simp only [pc_sq]
    split
    · refine ⟨⟨Int.le_refl _, by show (0 : Int) ≤ _; omega⟩, fun a ha => ?_, ?_⟩
      · rcases List.mem_append.mp ha with q | q
        · exact h3 a q
        · simp at q
          rw [q]
          exact ⟨by show 1 ≤ (pc_sq x n i).2.1 + 1; omega, by show (pc_sq x n i).2.1 + 1 ≤ 8; omega⟩
      · simp only [List.length_append, List.length_cons, List.length_nil]; omega
    · exact ⟨⟨by show 0 ≤ (pc_sq x n i).2.1 + 1; omega, by show (pc_sq x n i).2.1 + 1 ≤ _; omega⟩, h3, by show (pc_sq x n i).2.2.length ≤ _; omega⟩
theorem pc_cs_ok (x : Int64) {n : Int} (h : n ≤ 8) : pc_ok (pc_cs x n) ∧ (pc_cs x n).length ≤ n.toNat := by
  have := pc_sq_ok x n n.toNat (by omega)
  exact ⟨this.2.1, this.2.2⟩
theorem pc_all_len (c : List pc_P) : ∀ l : List pc_P, (pc_all l c).length ≤ l.length + c.length := by
  induction c with
  | nil => intro l; exact Nat.le_refl _
  | cons a t ih =>
    intro l
    have h1 := ih (pc_ins l a)
    have h2 := pc_ins_len l a
    show (pc_all (pc_ins l a) t).length ≤ _
    simp only [List.length_cons]
    omega
/-- the pieces of rows R 0 .. -/
def pc_fr (C : Int → Int64) (Z R : Int → Int) : Nat → List pc_P
  | 0 => []
  | r + 1 => pc_fr C Z R r ++ pc_cs (C (R r)) (Z (R r))
theorem pc_fr_s (C : Int → Int64) (Z R : Int → Int) {i : Int} (h : 0 ≤ i) : pc_fr C Z R (i + 1).toNat = pc_fr C Z R i.toNat ++ pc_cs (C (R i)) (Z (R i)) := by
  rw [show (i + 1).toNat = i.toNat + 1 by omega]
  simp only [pc_fr, show ((i.toNat : Nat) : Int) = i by omega]
theorem pc_fr_congr {C C' : Int → Int64} {Z Z' R R' : Int → Int} : ∀ n : Nat, (∀ i : Int, 0 ≤ i → i < n → C (R i) = C' (R' i) ∧ Z (R i) = Z' (R' i)) → pc_fr C Z R n = pc_fr C' Z' R' n := by
  intro n
  induction n with
  | zero => intro _; rfl
  | succ n ih =>
    intro h
    simp only [pc_fr]
    have := h n (by omega) (by omega)
    rw [ih (fun i a b => h i a (by omega)), this.1, this.2]
theorem pc_fr_ok {C : Int → Int64} {Z R : Int → Int} : ∀ n : Nat, (∀ i : Int, 0 ≤ i → i < n → Z (R i) ≤ 8) → pc_ok (pc_fr C Z R n) ∧ (pc_fr C Z R n).length ≤ 8 * n := by
  intro n
  induction n with
  | zero => intro _; exact ⟨fun a ha => by simp [pc_fr] at ha, Nat.le_refl _⟩
  | succ n ih =>
    intro h
    obtain ⟨h1, h2⟩ := ih (fun i a b => h i a (by omega))
    have h3 := h n (by omega) (by omega)
    obtain ⟨h4, h5⟩ := pc_cs_ok (C (R n)) h3
    simp only [pc_fr]
    refine ⟨fun a ha => ?_, ?_⟩
    · rcases List.mem_append.mp ha with q | q
      · exact h1 a q
      · exact h4 a q
    · rw [List.length_append]; omega
def pc_os (P : Int → Bool) (fs : Int → List pc_P) : Nat → List pc_P
  | 0 => []
  | t + 1 => pc_os P fs t ++ (if P t = true then fs t else [])
theorem pc_os_s (P : Int → Bool) (fs : Int → List pc_P) {i : Int} (h : 0 ≤ i) : pc_os P fs (i + 1).toNat = pc_os P fs i.toNat ++ (if P i = true then fs i else []) := by
  rw [show (i + 1).toNat = i.toNat + 1 by omega]
  simp only [pc_os, show ((i.toNat : Nat) : Int) = i by omega]
theorem pc_os_congr {P P' : Int → Bool} {fs fs' : Int → List pc_P} : ∀ n : Nat, (∀ i : Int, 0 ≤ i → i < n → P i = P' i ∧ (P i = true → fs i = fs' i)) → pc_os P fs n = pc_os P' fs' n := by
  intro n
  induction n with
  | zero => intro _; rfl
  | succ n ih =>
    intro h
    simp only [pc_os]
    obtain ⟨h1, h2⟩ := h n (by omega) (by omega)
    rw [ih (fun i a b => h i a (by omega)), ← h1]
    split
    · rename_i q
      rw [h2 q]
    · rfl
theorem pc_os_ok {P : Int → Bool} {fs : Int → List pc_P} : ∀ n : Nat, (∀ i : Int, 0 ≤ i → i < n → P i = true → pc_ok (fs i) ∧ (fs i).length ≤ 32) → pc_ok (pc_os P fs n) ∧ (pc_os P fs n).length ≤ 32 * n := by
  intro n
  induction n with
  | zero => intro _; exact ⟨fun a ha => by simp [pc_os] at ha, Nat.le_refl _⟩
  | succ n ih =>
    intro h
    obtain ⟨h1, h2⟩ := ih (fun i a b => h i a (by omega))
    have h3 := h n (by omega) (by omega)
    simp only [pc_os]
    split
    · rename_i q
      obtain ⟨h4, h5⟩ := h3 q
      refine ⟨fun a ha => ?_, ?_⟩
      · rcases List.mem_append.mp ha with q | q
        · exact h1 a q
        · exact h4 a q
      · rw [List.length_append]; omega
    · rw [List.append_nil]; exact ⟨h1, by omega⟩
/-- a long, one byte on -/
theorem pc_nx_mul (y : Int64) {b : Int} (h0 : 0 ≤ b) (h1 : b ≤ 255) : 256 * y + Int64.ofInt b = pc_nx y b := by
  unfold pc_nx
  have e1 : y <<< (Int64.ofInt 8 &&& 63) = 256 * y := by
    apply Int64.toBitVec_inj.mp
    rw [show (Int64.ofInt 8 &&& 63) = 8 by decide, Int64.toBitVec_shiftLeft, Int64.toBitVec_mul]
    have e : ((8 : Int64).toBitVec.smod 64) = 8#64 := by decide
    rw [e]
    show y.toBitVec <<< 8 = _
    rw [BitVec.shiftLeft_eq_mul_twoPow, BitVec.mul_comm]
    congr 1
  rw [e1]
  apply Int64.toBitVec_inj.mp
  rw [Int64.toBitVec_add, Int64.toBitVec_or]
  apply BitVec.add_eq_or_of_and_eq_zero
  have e2 : (256 * y).toBitVec = y.toBitVec <<< 8 := by
    rw [← e1, show (Int64.ofInt 8 &&& 63) = 8 by decide, Int64.toBitVec_shiftLeft]
    have e : ((8 : Int64).toBitVec.smod 64) = 8#64 := by decide
    rw [e]
    rfl
  rw [e2]
  apply BitVec.eq_of_getLsbD_eq
  intro i hi
  rw [BitVec.getLsbD_and, BitVec.getLsbD_shiftLeft]
  simp only [BitVec.getLsbD_zero]
  by_cases h8 : i < 8
  · simp [h8]
  · have : (Int64.ofInt b).toBitVec.getLsbD i = false := by
      have hb : (Int64.ofInt b).toBitVec.toNat < 2 ^ 8 := by
        have hx : (Int64.ofInt b).toBitVec = BitVec.ofNat 64 b.toNat := by
          apply BitVec.eq_of_toInt_eq
          rw [Int64.toInt_toBitVec, Int64.toInt_ofInt_of_le (by omega) (by omega), BitVec.toInt_eq_toNat_of_lt (by rw [BitVec.toNat_ofNat]; omega), BitVec.toNat_ofNat]
          omega
        rw [hx, BitVec.toNat_ofNat]
        omega
      rw [BitVec.getLsbD]
      exact Nat.testBit_lt_two_pow (Nat.lt_of_lt_of_le hb (Nat.pow_le_pow_right (by decide) (by omega)))
    rw [this, Bool.and_false]

set_option maxRecDepth 20000 in
set_option maxHeartbeats 4000000 in
theorem lp_X2_addCutOf (p : Int) (n : Nat) (hps : fw_ps p n) (l : List pc_P) (N : fw_F) (K : fw_G) (hl : ps_at N K p l) (hn4 : n ≤ 400) (hok : pc_ok l) (x : Int64) (v : Int) (hv : 0 ≤ v ∧ v ≤ 8) (hc : l.length + v.toNat ≤ n) : ∀ (q : Nat) (i w : Int) (y : Int64) (M : fw_F) (L : fw_G), v - i < q → 0 ≤ i → i ≤ v → y = (pc_sq x v i.toNat).1 → w = (pc_sq x v i.toNat).2.1 → ps_at M L p (pc_all l (pc_sq x v i.toNat).2.2) → (∀ k, ¬ k = p → ¬ k = p + 2 → M k = N k) → (∀ k, ¬ k = p + 1 → L k = K k) → fw_C mX2_addCutOf 9 [some (fw_r p), some (fw_l x), none, some (fw_i v), some (fw_l y), none, some (fw_i w), some (fw_i i)] [] M L (fun r M2 L2 => r = none ∧ (∀ k, ¬ k = p → ¬ k = p + 2 → M2 k = N k) ∧ (∀ k, ¬ k = p + 1 → L2 k = K k) ∧ ps_at M2 L2 p (pc_all l (pc_cs x v))) := by
  intro q
  induction q with
  | zero => intro i w y M L h0 h1 h2; omega
  | succ q ih =>
    intro i w y M L h0 h1 h2 hy hw hl2 hfM hfL
    obtain ⟨k1, k2, k3⟩ := pc_sq_ok x v i.toNat (by omega)
    refine fw_iload dX2_addCutOf_9 rfl ?_
    refine fw_iload_n dX2_addCutOf_11 rfl rfl ?_
    refine fw_icmp_ge 74 dX2_addCutOf_12 (by decide) (fun h12 => ?_) (fun h12 => ?_)
    · skip
      refine fw_vret dX2_addCutOf_74 ⟨rfl, rfl, rfl⟩ ?_
      rw [show i.toNat = v.toNat by omega] at hl2
      exact ⟨rfl, hfM, hfL, hl2⟩
    · skip
      have hb := ab_by_rng x (n := v) (i := i) ⟨h1, by omega⟩ hv.2
      have hs := pc_sq_s x v h1
      refine fw_lload_n dX2_addCutOf_15 rfl rfl ?_
      refine fw_iload_n dX2_addCutOf_16 rfl rfl ?_
      refine fw_iload dX2_addCutOf_17 rfl ?_
      refine fw_pN mX5_byteOf [_, _, _] dX2_addCutOf_19 mv_X5_byteOf (fun s h => h.2.2.1) ⟨⟨by decide, by decide⟩, rfl, rfl, rfl, by decide, by decide⟩ rfl rfl (Nat.le_of_ble_eq_true rfl) (sp_X5_byteOf _ _ _ _ _ (by omega) (by omega)) ?_
      refine fw_istore (ls2 := [_, _, _, _, _, _, _, _, _]) dX2_addCutOf_22 (by decide) rfl ?_
      refine fw_lload dX2_addCutOf_24 rfl ?_
      refine fw_bipush dX2_addCutOf_26 ⟨by decide, by decide⟩ (by decide) ?_
      refine fw_lshl dX2_addCutOf_28 ?_
      refine fw_iload dX2_addCutOf_29 rfl ?_
      refine fw_i2l dX2_addCutOf_31 ?_
      refine fw_lor dX2_addCutOf_32 ?_
      refine fw_lstore (ls2 := [_, _, _, _, _, _, _, _, _]) dX2_addCutOf_33 (by decide) rfl ?_
      refine fw_iinc (ls2 := [_, _, _, _, _, _, _, _, _]) dX2_addCutOf_35 rfl ⟨by omega, by omega⟩ (by decide) rfl ?_
      refine fw_iload dX2_addCutOf_38 rfl ?_
      refine fw_iconst dX2_addCutOf_40 ⟨by decide, by decide⟩ ?_
      refine fw_irem dX2_addCutOf_41 (by omega) (by omega) ?_
      refine fw_iconst dX2_addCutOf_42 ⟨by decide, by decide⟩ ?_
      refine fw_icmp_eq 54 dX2_addCutOf_43 (by decide) (fun h43 => ?_) (fun h43 => ?_)
      · skip
        have hk1 := pc_all_ok hok k2
        have hln := pc_all_len (pc_sq x v i.toNat).2.2 l
        refine fw_aload_n dX2_addCutOf_54 rfl rfl ?_
        refine fw_lload dX2_addCutOf_55 rfl ?_
        refine fw_iload dX2_addCutOf_57 rfl ?_
        refine fw_cV mX2_add [_, _] dX2_addCutOf_59 mv_X2_add lk_2_44 ⟨⟨by decide, by decide⟩, rfl, rfl, rfl, by decide, by decide⟩ hps.1 ⟨by have := hps.2.2.2.2.2; omega, by have := hps.2.2.2.2.2; omega⟩ rfl rfl (Nat.le_of_ble_eq_true rfl) (sp_X2_add p n hps _ M L hl2 (by omega) hn4 _ _ hk1 (by omega) (fun _ => by omega)) (fun r M1 L1 hp hM1 => ?_)
        obtain ⟨rfl, g1, g2, g3⟩ := hp
        refine fw_lconst (v := 0) dX2_addCutOf_62 (by decide) ?_
        refine fw_lstore (ls2 := [_, _, _, _, _, _, _, _, _]) dX2_addCutOf_63 (by decide) rfl ?_
        refine fw_iconst dX2_addCutOf_65 ⟨by decide, by decide⟩ ?_
        refine fw_istore (ls2 := [_, _, _, _, _, _, _, _, _]) dX2_addCutOf_66 (by decide) rfl ?_
        refine fw_iinc (ls2 := [_, _, _, _, _, _, _, _, _]) dX2_addCutOf_68 rfl ⟨by omega, by omega⟩ (by decide) rfl ?_
        refine fw_goto 9 dX2_addCutOf_71 (by decide) ?_
        refine fw_take 8 ?_
        have hcc : ab_by x v i % 4 = 3 ∨ i = v - 1 := Or.inl h43
        refine ih (i + 1) _ _ _ _ (by omega) (by omega) (by omega) (by rw [hs, if_pos hcc]) (by rw [hs, if_pos hcc]) ?_ (fun k a b => (g1 k a b).trans (hfM k a b)) (fun k a => (g2 k a).trans (hfL k a))
        rw [hs, if_pos hcc]
        show ps_at _ _ _ (pc_all l (_ ++ [_]))
        rw [pc_all_app, pc_all_one, ← hy, ← hw]
        exact g3
      · skip
        refine fw_iload dX2_addCutOf_46 rfl ?_
        refine fw_iload_n dX2_addCutOf_48 rfl rfl ?_
        refine fw_iconst dX2_addCutOf_49 ⟨by decide, by decide⟩ ?_
        refine fw_isub dX2_addCutOf_50 ⟨by omega, by omega⟩ ?_
        refine fw_icmp_ne 68 dX2_addCutOf_51 (by decide) (fun h51 => ?_) (fun h51 => ?_)
        · skip
          refine fw_iinc (ls2 := [_, _, _, _, _, _, _, _, _]) dX2_addCutOf_68 rfl ⟨by omega, by omega⟩ (by decide) rfl ?_
          refine fw_goto 9 dX2_addCutOf_71 (by decide) ?_
          refine fw_take 8 ?_
          refine ih (i + 1) _ _ _ _ (by omega) (by omega) (by omega) (by rw [hs, if_neg (fun z => by rcases z with z | z; exact h43 z; exact h51 z), hy]; rfl) (by rw [hs, if_neg (fun z => by rcases z with z | z; exact h43 z; exact h51 z), hw]) (by rw [hs, if_neg (fun z => by rcases z with z | z; exact h43 z; exact h51 z)]; exact hl2) hfM hfL
        · skip
          have hk1 := pc_all_ok hok k2
          have hln := pc_all_len (pc_sq x v i.toNat).2.2 l
          refine fw_aload_n dX2_addCutOf_54 rfl rfl ?_
          refine fw_lload dX2_addCutOf_55 rfl ?_
          refine fw_iload dX2_addCutOf_57 rfl ?_
          refine fw_cV mX2_add [_, _] dX2_addCutOf_59 mv_X2_add lk_2_44 ⟨⟨by decide, by decide⟩, rfl, rfl, rfl, by decide, by decide⟩ hps.1 ⟨by have := hps.2.2.2.2.2; omega, by have := hps.2.2.2.2.2; omega⟩ rfl rfl (Nat.le_of_ble_eq_true rfl) (sp_X2_add p n hps _ M L hl2 (by omega) hn4 _ _ hk1 (by omega) (fun _ => by omega)) (fun r M1 L1 hp hM1 => ?_)
          obtain ⟨rfl, g1, g2, g3⟩ := hp
          refine fw_lconst (v := 0) dX2_addCutOf_62 (by decide) ?_
          refine fw_lstore (ls2 := [_, _, _, _, _, _, _, _, _]) dX2_addCutOf_63 (by decide) rfl ?_
          refine fw_iconst dX2_addCutOf_65 ⟨by decide, by decide⟩ ?_
          refine fw_istore (ls2 := [_, _, _, _, _, _, _, _, _]) dX2_addCutOf_66 (by decide) rfl ?_
          refine fw_iinc (ls2 := [_, _, _, _, _, _, _, _, _]) dX2_addCutOf_68 rfl ⟨by omega, by omega⟩ (by decide) rfl ?_
          refine fw_goto 9 dX2_addCutOf_71 (by decide) ?_
          refine fw_take 8 ?_
          have hcc : ab_by x v i % 4 = 3 ∨ i = v - 1 := Or.inr h51
          refine ih (i + 1) _ _ _ _ (by omega) (by omega) (by omega) (by rw [hs, if_pos hcc]) (by rw [hs, if_pos hcc]) ?_ (fun k a b => (g1 k a b).trans (hfM k a b)) (fun k a => (g2 k a).trans (hfL k a))
          rw [hs, if_pos hcc]
          show ps_at _ _ _ (pc_all l (_ ++ [_]))
          rw [pc_all_app, pc_all_one, ← hy, ← hw]
          exact g3

set_option maxRecDepth 20000 in
set_option maxHeartbeats 4000000 in
theorem sp_X2_addCutOf (p : Int) (n : Nat) (hps : fw_ps p n) (l : List pc_P) (N : fw_F) (K : fw_G) (hl : ps_at N K p l) (hn4 : n ≤ 400) (hok : pc_ok l) (x : Int64) (v : Int) (hv : 0 ≤ v ∧ v ≤ 8) (hc : l.length + v.toNat ≤ n) : fw_SC mX2_addCutOf [fw_r p, fw_l x, fw_i v] N K (fun r M2 L2 => r = none ∧ (∀ k, ¬ k = p → ¬ k = p + 2 → M2 k = N k) ∧ (∀ k, ¬ k = p + 1 → L2 k = K k) ∧ ps_at M2 L2 p (pc_all l (pc_cs x v))) := by
  refine fw_SP_of pl_X2_addCutOf (ls := [_, _, _, _]) rfl (Nat.le_of_ble_eq_true rfl) fun hA hM => ?_
  refine fw_lconst (v := 0) dX2_addCutOf_0 (by decide) ?_
  refine fw_lstore (ls2 := [_, _, _, _, _]) dX2_addCutOf_1 (by decide) rfl ?_
  refine fw_iconst dX2_addCutOf_3 ⟨by decide, by decide⟩ ?_
  refine fw_istore (ls2 := [_, _, _, _, _, _, _]) dX2_addCutOf_4 (by decide) rfl ?_
  refine fw_iconst dX2_addCutOf_6 ⟨by decide, by decide⟩ ?_
  refine fw_istore (ls2 := [_, _, _, _, _, _, _, _]) dX2_addCutOf_7 (by decide) rfl ?_
  exact lp_X2_addCutOf p n hps l N K hl hn4 hok x v hv hc 9 0 0 0 N K (by omega) (by decide) (by omega) rfl rfl hl (fun _ _ _ => rfl) (fun _ _ => rfl)
