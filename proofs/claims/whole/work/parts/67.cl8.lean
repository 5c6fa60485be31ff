/-- the rows of a thing, told of the class' cells alone -/
def cl_rw (M : fw_F) (t : Int) : Prop := (0 ≤ t ∧ t < 12) ∧ (0 ≤ M 176 t ∧ M 176 t ≤ 4) ∧ ∀ r, 0 ≤ r → r < M 176 t → (0 ≤ M 177 (t * 4 + r) ∧ M 177 (t * 4 + r) < 80) ∧ 0 ≤ M (8 + 2 * M 177 (t * 4 + r)) 10 ∧ M (8 + 2 * M 177 (t * 4 + r)) 10 ≤ 8
def cl_bc (M : fw_F) (t : Int) : Int := ab_sm (fun r => M (8 + 2 * M 177 (t * 4 + r)) 10) (M 176 t).toNat
def cl_bt (M : fw_F) (L : fw_G) (t : Int) : Int := ab_sm (fun r => ab_sm (fun i => ab_by (L (8 + 2 * M 177 (t * 4 + r)) 11) (M (8 + 2 * M 177 (t * 4 + r)) 10) i) (M (8 + 2 * M 177 (t * 4 + r)) 10).toNat) (M 176 t).toNat

set_option maxRecDepth 20000 in
set_option maxHeartbeats 4000000 in
theorem lp_X4_byteCount (t : Int) (M : fw_F) (L : fw_G) (hw : cl_rw M t) : ∀ (q : Nat) (c i : Int), M 176 t - i < q → 0 ≤ i → i ≤ M 176 t → c = ab_sm (fun r => M (8 + 2 * M 177 (t * 4 + r)) 10) i.toNat → fw_C mX4_byteCount 4 [some (fw_r 168), some (fw_i t), some (fw_i c), some (fw_i i)] [] M L (fw_pure (some (fw_i (cl_bc M t))) M L) := by
  intro q
  induction q with
  | zero => intro c i h0 h1 h2; omega
  | succ q ih =>
    intro c i h0 h1 h2 h3
    obtain ⟨w1, w2, w3⟩ := hw
    have hr := ab_sm_rng (f := (fun r => M (8 + 2 * M 177 (t * 4 + r)) 10)) (a := 0) (b := 8) i.toNat (fun j a b => (w3 j a (by omega)).2)
    refine fw_iload_n dX4_byteCount_4 rfl rfl ?_
    refine fw_aload_n dX4_byteCount_5 rfl rfl ?_
    refine fw_getr 8 176 rfl dX4_byteCount_6 ff_4_34 ly0_168 ⟨by decide, by decide⟩ rfl rfl (by decide) ?_
    refine fw_iload_n dX4_byteCount_9 rfl rfl ?_
    refine fw_iaload dX4_byteCount_10 ly0_176 ⟨by decide, by decide⟩ ⟨by omega, by omega⟩ ?_
    refine fw_icmp_ge 32 dX4_byteCount_11 (by decide) (fun h11 => ?_) (fun h11 => ?_)
    · skip
      refine fw_iload_n dX4_byteCount_32 rfl rfl ?_
      exact fw_iret dX4_byteCount_33 ⟨rfl, rfl, rfl⟩ (⟨by rw [h3, show i.toNat = (M 176 t).toNat by omega]; rfl, rfl, rfl⟩)
    · skip
      obtain ⟨w4, w5⟩ := w3 i h1 (by omega)
      refine fw_iload_n dX4_byteCount_14 rfl rfl ?_
      refine fw_aload_n dX4_byteCount_15 rfl rfl ?_
      refine fw_iload_n dX4_byteCount_16 rfl rfl ?_
      refine fw_iload_n dX4_byteCount_17 rfl rfl ?_
      refine fw_pV mX4_rowOf [_, _] dX4_byteCount_18 mv_X4_rowOf lk_4_115 ⟨⟨by decide, by decide⟩, rfl, rfl, rfl, by decide, by decide⟩ ly0_168 ⟨by decide, by decide⟩ rfl rfl (Nat.le_of_ble_eq_true rfl) (sp_X4_rowOf _ _ _ _ (by omega) (by omega) (by omega)) ?_
      refine fw_geti 10 rfl dX4_byteCount_21 ff_4_142 (ly_ch (by omega) (by omega) (by omega)) ⟨by omega, by omega⟩ rfl ?_
      refine fw_iadd dX4_byteCount_24 ⟨by omega, by omega⟩ ?_
      refine fw_istore_n (ls2 := [_, _, _, _]) dX4_byteCount_25 rfl (by decide) rfl ?_
      refine fw_iinc (ls2 := [_, _, _, _]) dX4_byteCount_26 rfl ⟨by omega, by omega⟩ (by decide) rfl ?_
      refine fw_goto 4 dX4_byteCount_29 (by decide) ?_
      exact ih _ (i + 1) (by omega) (by omega) (by omega) (by rw [ab_sm_s _ h1, h3])

set_option maxRecDepth 20000 in
set_option maxHeartbeats 4000000 in
theorem sp_X4_byteCount (t : Int) (M : fw_F) (L : fw_G) (hw : cl_rw M t) : fw_SC mX4_byteCount [fw_r 168, fw_i t] M L (fw_pure (some (fw_i (cl_bc M t))) M L) := by
  refine fw_SP_of pl_X4_byteCount (ls := [_, _]) rfl (Nat.le_of_ble_eq_true rfl) fun hA hM => ?_
  refine fw_iconst dX4_byteCount_0 ⟨by decide, by decide⟩ ?_
  refine fw_istore_n (ls2 := [_, _, _]) dX4_byteCount_1 rfl (by decide) rfl ?_
  refine fw_iconst dX4_byteCount_2 ⟨by decide, by decide⟩ ?_
  refine fw_istore_n (ls2 := [_, _, _, _]) dX4_byteCount_3 rfl (by decide) rfl ?_
  exact lp_X4_byteCount t M L hw 5 0 0 (by have := hw.2.1; omega) (by decide) (by have := hw.2.1; omega) rfl

set_option maxRecDepth 20000 in
set_option maxHeartbeats 4000000 in
theorem li_X4_byteTotal (t r y c0 : Int) (M : fw_F) (L : fw_G) (Q : fw_P) (hy : 0 ≤ y ∧ y < 80) (hl : 0 ≤ M (8 + 2 * y) 10 ∧ M (8 + 2 * y) 10 ≤ 8) (hc : 0 ≤ c0 ∧ c0 ≤ 100000) (hk : fw_C mX4_byteTotal 59 [some (fw_r 168), some (fw_i t), some (fw_i (c0 + ab_sm (fun i => ab_by (L (8 + 2 * y) 11) (M (8 + 2 * y) 10) i) (M (8 + 2 * y) 10).toNat)), some (fw_i r), some (fw_r (8 + 2 * y)), some (fw_i (M (8 + 2 * y) 10))] [] M L Q) : ∀ (q : Nat) (c i : Int), M (8 + 2 * y) 10 - i < q → 0 ≤ i → i ≤ M (8 + 2 * y) 10 → c = c0 + ab_sm (fun i => ab_by (L (8 + 2 * y) 11) (M (8 + 2 * y) 10) i) i.toNat → fw_C mX4_byteTotal 25 [some (fw_r 168), some (fw_i t), some (fw_i c), some (fw_i r), some (fw_r (8 + 2 * y)), some (fw_i i)] [] M L Q := by
  intro q
  induction q with
  | zero => intro c i h0 h1 h2; omega
  | succ q ih =>
    intro c i h0 h1 h2 h3
    have hr := ab_sm_rng (f := (fun i => ab_by (L (8 + 2 * y) 11) (M (8 + 2 * y) 10) i)) (a := 0) (b := 255) i.toNat (fun j a b => ab_by_rng _ ⟨a, by omega⟩ hl.2)
    refine fw_iload dX4_byteTotal_25 rfl ?_
    refine fw_aload dX4_byteTotal_27 rfl ?_
    refine fw_geti 10 rfl dX4_byteTotal_29 ff_4_142 (ly_ch (by omega) (by omega) (by omega)) ⟨by omega, by omega⟩ rfl ?_
    refine fw_icmp_ge 59 dX4_byteTotal_32 (by decide) (fun h32 => ?_) (fun h32 => ?_)
    · skip
      rw [show i = M (8 + 2 * y) 10 by omega] at h3 ⊢
      rw [h3]
      exact hk
    · skip
      refine fw_iload_n dX4_byteTotal_35 rfl rfl ?_
      refine fw_aload dX4_byteTotal_36 rfl ?_
      refine fw_getl 11 rfl dX4_byteTotal_38 ff_4_145 (ly_ch (by omega) (by omega) (by omega)) ⟨by omega, by omega⟩ rfl ?_
      refine fw_aload dX4_byteTotal_41 rfl ?_
      refine fw_geti 10 rfl dX4_byteTotal_43 ff_4_142 (ly_ch (by omega) (by omega) (by omega)) ⟨by omega, by omega⟩ rfl ?_
      refine fw_iload dX4_byteTotal_46 rfl ?_
      refine fw_pN mX5_byteOf [_, _, _] dX4_byteTotal_48 mv_X5_byteOf (fun s h => h.2.2.2) ⟨⟨by decide, by decide⟩, rfl, rfl, rfl, by decide, by decide⟩ rfl rfl (Nat.le_of_ble_eq_true rfl) (sp_X5_byteOf _ _ _ _ _ (by omega) (by omega)) ?_
      have hb := ab_by_rng (L (8 + 2 * y) 11) (n := M (8 + 2 * y) 10) (i := i) ⟨h1, by omega⟩ hl.2
      refine fw_iadd dX4_byteTotal_51 ⟨by omega, by omega⟩ ?_
      refine fw_istore_n (ls2 := [_, _, _, _, _, _]) dX4_byteTotal_52 rfl (by decide) rfl ?_
      refine fw_iinc (ls2 := [_, _, _, _, _, _]) dX4_byteTotal_53 rfl ⟨by omega, by omega⟩ (by decide) rfl ?_
      refine fw_goto 25 dX4_byteTotal_56 (by decide) ?_
      exact ih _ (i + 1) (by omega) (by omega) (by omega) (by rw [ab_sm_s _ h1, h3]; omega)

theorem cl_bt_rng {M : fw_F} {L : fw_G} {t : Int} (hw : cl_rw M t) (n : Nat) (hn : (n : Int) ≤ M 176 t) : 0 * (n : Int) ≤ ab_sm (fun r => ab_sm (fun i => ab_by (L (8 + 2 * M 177 (t * 4 + r)) 11) (M (8 + 2 * M 177 (t * 4 + r)) 10) i) (M (8 + 2 * M 177 (t * 4 + r)) 10).toNat) n ∧ ab_sm (fun r => ab_sm (fun i => ab_by (L (8 + 2 * M 177 (t * 4 + r)) 11) (M (8 + 2 * M 177 (t * 4 + r)) 10) i) (M (8 + 2 * M 177 (t * 4 + r)) 10).toNat) n ≤ 2040 * (n : Int) := by
  refine ab_sm_rng (a := 0) (b := 2040) n (fun r a b => ?_)
  obtain ⟨w4, w5⟩ := hw.2.2 r a (by omega)
  have hr := ab_sm_rng (f := fun i => ab_by (L (8 + 2 * M 177 (t * 4 + r)) 11) (M (8 + 2 * M 177 (t * 4 + r)) 10) i) (a := 0) (b := 255) (M (8 + 2 * M 177 (t * 4 + r)) 10).toNat (fun j a b => ab_by_rng _ ⟨a, by omega⟩ w5.2)
  omega

set_option maxRecDepth 20000 in
set_option maxHeartbeats 4000000 in
theorem lp_X4_byteTotal (t : Int) (M : fw_F) (L : fw_G) (hw : cl_rw M t) : ∀ (q : Nat) (c i : Int), M 176 t - i < q → 0 ≤ i → i ≤ M 176 t → c = ab_sm (fun r => ab_sm (fun i => ab_by (L (8 + 2 * M 177 (t * 4 + r)) 11) (M (8 + 2 * M 177 (t * 4 + r)) 10) i) (M (8 + 2 * M 177 (t * 4 + r)) 10).toNat) i.toNat → fw_C mX4_byteTotal 4 [some (fw_r 168), some (fw_i t), some (fw_i c), some (fw_i i)] [] M L (fw_pure (some (fw_i (cl_bt M L t))) M L) := by
  intro q
  induction q with
  | zero => intro c i h0 h1 h2; omega
  | succ q ih =>
    intro c i h0 h1 h2 h3
    have hr := cl_bt_rng (L := L) hw i.toNat (by omega)
    obtain ⟨w1, w2, w3⟩ := hw
    refine fw_iload_n dX4_byteTotal_4 rfl rfl ?_
    refine fw_aload_n dX4_byteTotal_5 rfl rfl ?_
    refine fw_getr 8 176 rfl dX4_byteTotal_6 ff_4_34 ly0_168 ⟨by decide, by decide⟩ rfl rfl (by decide) ?_
    refine fw_iload_n dX4_byteTotal_9 rfl rfl ?_
    refine fw_iaload dX4_byteTotal_10 ly0_176 ⟨by decide, by decide⟩ ⟨by omega, by omega⟩ ?_
    refine fw_icmp_ge 65 dX4_byteTotal_11 (by decide) (fun h11 => ?_) (fun h11 => ?_)
    · skip
      refine fw_iload_n dX4_byteTotal_65 rfl rfl ?_
      exact fw_iret dX4_byteTotal_66 ⟨rfl, rfl, rfl⟩ (⟨by rw [h3, show i.toNat = (M 176 t).toNat by omega]; rfl, rfl, rfl⟩)
    · skip
      obtain ⟨w4, w5⟩ := w3 i h1 (by omega)
      refine fw_aload_n dX4_byteTotal_14 rfl rfl ?_
      refine fw_iload_n dX4_byteTotal_15 rfl rfl ?_
      refine fw_iload_n dX4_byteTotal_16 rfl rfl ?_
      refine fw_pV mX4_rowOf [_, _] dX4_byteTotal_17 mv_X4_rowOf lk_4_115 ⟨⟨by decide, by decide⟩, rfl, rfl, rfl, by decide, by decide⟩ ly0_168 ⟨by decide, by decide⟩ rfl rfl (Nat.le_of_ble_eq_true rfl) (sp_X4_rowOf _ _ _ _ (by omega) (by omega) (by omega)) ?_
      refine fw_astore (ls2 := [_, _, _, _, _]) dX4_byteTotal_20 (by decide) rfl ?_
      refine fw_iconst dX4_byteTotal_22 ⟨by decide, by decide⟩ ?_
      refine fw_istore (ls2 := [_, _, _, _, _, _]) dX4_byteTotal_23 (by decide) rfl ?_
      refine li_X4_byteTotal t i (M 177 (t * 4 + i)) c M L _ w4 w5 (by omega) ?_ 9 c 0 (by omega) (by decide) (by omega) (by simp [ab_sm])
      refine fw_iinc (ls2 := [_, _, _, _, _, _]) dX4_byteTotal_59 rfl ⟨by omega, by omega⟩ (by decide) rfl ?_
      refine fw_goto 4 dX4_byteTotal_62 (by decide) ?_
      refine fw_take 4 ?_
      exact ih _ (i + 1) (by omega) (by omega) (by omega) (by rw [ab_sm_s _ h1, h3])

set_option maxRecDepth 20000 in
set_option maxHeartbeats 4000000 in
theorem sp_X4_byteTotal (t : Int) (M : fw_F) (L : fw_G) (hw : cl_rw M t) : fw_SC mX4_byteTotal [fw_r 168, fw_i t] M L (fw_pure (some (fw_i (cl_bt M L t))) M L) := by
  refine fw_SP_of pl_X4_byteTotal (ls := [_, _]) rfl (Nat.le_of_ble_eq_true rfl) fun hA hM => ?_
  refine fw_iconst dX4_byteTotal_0 ⟨by decide, by decide⟩ ?_
  refine fw_istore_n (ls2 := [_, _, _]) dX4_byteTotal_1 rfl (by decide) rfl ?_
  refine fw_iconst dX4_byteTotal_2 ⟨by decide, by decide⟩ ?_
  refine fw_istore_n (ls2 := [_, _, _, _]) dX4_byteTotal_3 rfl (by decide) rfl ?_
  exact lp_X4_byteTotal t M L hw 5 0 0 (by have := hw.2.1; omega) (by decide) (by have := hw.2.1; omega) rfl
