/-- the pieces of a thing's rows, told of the class' cells -/
def cl_fs (M : fw_F) (L : fw_G) (t : Int) : List pc_P := pc_fr (fun y => L (8 + 2 * y) 11) (fun y => M (8 + 2 * y) 10) (fun r => M 177 (t * 4 + r)) (M 176 t).toNat
theorem cl_fs_ok {M : fw_F} {L : fw_G} {t : Int} (h : cl_rw M t) : pc_ok (cl_fs M L t) ∧ (cl_fs M L t).length ≤ 32 := by
  have := pc_fr_ok (C := fun y => L (8 + 2 * y) 11) (Z := fun y => M (8 + 2 * y) 10) (R := fun r => M 177 (t * 4 + r)) (M 176 t).toNat (fun i a b => (h.2.2 i a (by have := h.2.1; omega)).2.2)
  refine ⟨this.1, ?_⟩
  have h2 := this.2
  have h3 := h.2.1
  show (pc_fr _ _ _ _).length ≤ _
  omega

set_option maxRecDepth 20000 in
set_option maxHeartbeats 4000000 in
theorem lp_X5_addPiecesOf (p : Int) (n : Nat) (hps : fw_ps p n) (l : List pc_P) (N : fw_F) (K : fw_G) (hl : ps_at N K p l) (hn4 : n ≤ 400) (hok : pc_ok l) (t : Int) (hw : cl_rw N t) (hc : l.length + 32 ≤ n) : ∀ (q : Nat) (i : Int) (M : fw_F) (L : fw_G), N 176 t - i < q → 0 ≤ i → i ≤ N 176 t → ps_at M L p (pc_all l (pc_fr (fun y => K (8 + 2 * y) 11) (fun y => N (8 + 2 * y) 10) (fun r => N 177 (t * 4 + r)) i.toNat)) → (∀ k, ¬ k = p → ¬ k = p + 2 → M k = N k) → (∀ k, ¬ k = p + 1 → L k = K k) → fw_C mX5_addPiecesOf 2 [some (fw_r 0), some (fw_i t), some (fw_r p), some (fw_i i)] [] M L (fun r M2 L2 => r = none ∧ (∀ k, ¬ k = p → ¬ k = p + 2 → M2 k = N k) ∧ (∀ k, ¬ k = p + 1 → L2 k = K k) ∧ ps_at M2 L2 p (pc_all l (cl_fs N K t))) := by
  intro q
  induction q with
  | zero => intro i M L h0 h1 h2; omega
  | succ q ih =>
    intro i M L h0 h1 h2 hl2 hfM hfL
    obtain ⟨w1, w2, w3⟩ := hw
    have hp2 := hps.2.2.2.2.2
    have e176 := hfM 176 (by omega) (by omega)
    have e177 := hfM 177 (by omega) (by omega)
    refine fw_iload_n dX5_addPiecesOf_2 rfl rfl ?_
    refine fw_aload_n dX5_addPiecesOf_3 rfl rfl ?_
    refine fw_getr 1 168 rfl dX5_addPiecesOf_4 ff_5_21 ly0_0 ⟨by decide, by decide⟩ rfl rfl (by decide) ?_
    refine fw_getr 8 176 rfl dX5_addPiecesOf_7 ff_5_172 ly0_168 ⟨by decide, by decide⟩ rfl rfl (by decide) ?_
    refine fw_iload_n dX5_addPiecesOf_10 rfl rfl ?_
    refine fw_iaload dX5_addPiecesOf_11 ly0_176 ⟨by decide, by decide⟩ ⟨by omega, by omega⟩ ?_
    rw [e176]
    refine fw_icmp_ge 46 dX5_addPiecesOf_12 (by decide) (fun h12 => ?_) (fun h12 => ?_)
    · skip
      refine fw_vret dX5_addPiecesOf_46 ⟨rfl, rfl, rfl⟩ ?_
      rw [show i.toNat = (N 176 t).toNat by omega] at hl2
      exact ⟨rfl, hfM, hfL, hl2⟩
    · skip
      obtain ⟨w4, w5⟩ := w3 i h1 (by omega)
      have ec := hfM (8 + 2 * N 177 (t * 4 + i)) (by omega) (by omega)
      have ed := hfL (8 + 2 * N 177 (t * 4 + i)) (by omega)
      have hs := pc_fr_s (fun y => K (8 + 2 * y) 11) (fun y => N (8 + 2 * y) 10) (fun r => N 177 (t * 4 + r)) h1
      have hk := pc_fr_ok (C := fun y => K (8 + 2 * y) 11) (Z := fun y => N (8 + 2 * y) 10) (R := fun r => N 177 (t * 4 + r)) i.toNat (fun j a b => (w3 j a (by omega)).2.2)
      have hln := pc_all_len (pc_fr (fun y => K (8 + 2 * y) 11) (fun y => N (8 + 2 * y) 10) (fun r => N 177 (t * 4 + r)) i.toNat) l
      refine fw_aload_n dX5_addPiecesOf_15 rfl rfl ?_
      refine fw_getr 1 168 rfl dX5_addPiecesOf_16 ff_5_21 ly0_0 ⟨by decide, by decide⟩ rfl rfl (by decide) ?_
      refine fw_iload_n dX5_addPiecesOf_19 rfl rfl ?_
      refine fw_iload_n dX5_addPiecesOf_20 rfl rfl ?_
      refine fw_pV mX4_rowOf [_, _] dX5_addPiecesOf_21 mv_X4_rowOf lk_5_181 ⟨⟨by decide, by decide⟩, rfl, rfl, rfl, by decide, by decide⟩ ly0_168 ⟨by decide, by decide⟩ rfl rfl (Nat.le_of_ble_eq_true rfl) (sp_X4_rowOf _ _ _ _ (by omega) (by omega) (by rw [e177]; omega)) ?_
      rw [e177]
      refine fw_astore (ls2 := [_, _, _, _, _]) dX5_addPiecesOf_24 (by decide) rfl ?_
      refine fw_aload_n dX5_addPiecesOf_26 rfl rfl ?_
      refine fw_aload dX5_addPiecesOf_27 rfl ?_
      refine fw_getl 11 rfl dX5_addPiecesOf_29 ff_5_123 (ly_ch (by omega) (by omega) (by omega)) ⟨by omega, by omega⟩ rfl ?_
      refine fw_aload dX5_addPiecesOf_32 rfl ?_
      refine fw_geti 10 rfl dX5_addPiecesOf_34 ff_5_127 (ly_ch (by omega) (by omega) (by omega)) ⟨by omega, by omega⟩ rfl ?_
      rw [ec, ed]
      refine fw_cV mX2_addCutOf [_, _] dX5_addPiecesOf_37 mv_X2_addCutOf lk_5_116 ⟨⟨by decide, by decide⟩, rfl, rfl, rfl, by decide, by decide⟩ hps.1 ⟨by have := hps.2.2.2.2.2; omega, by have := hps.2.2.2.2.2; omega⟩ rfl rfl (Nat.le_of_ble_eq_true rfl) (sp_X2_addCutOf p n hps _ M L hl2 hn4 (pc_all_ok hok hk.1) _ _ (by omega) (by omega)) (fun r M1 L1 hp hM1 => ?_)
      obtain ⟨rfl, g1, g2, g3⟩ := hp
      rw [← pc_all_app] at g3
      refine fw_iinc (ls2 := [_, _, _, _, _]) dX5_addPiecesOf_40 rfl ⟨by omega, by omega⟩ (by decide) rfl ?_
      refine fw_goto 2 dX5_addPiecesOf_43 (by decide) ?_
      refine fw_take 4 ?_
      exact ih (i + 1) _ _ (by omega) (by omega) (by omega) (by rw [hs]; exact g3) (fun k a b => (g1 k a b).trans (hfM k a b)) (fun k a => (g2 k a).trans (hfL k a))

set_option maxRecDepth 20000 in
set_option maxHeartbeats 4000000 in
theorem sp_X5_addPiecesOf (p : Int) (n : Nat) (hps : fw_ps p n) (l : List pc_P) (N : fw_F) (K : fw_G) (hl : ps_at N K p l) (hn4 : n ≤ 400) (hok : pc_ok l) (t : Int) (hw : cl_rw N t) (hc : l.length + 32 ≤ n) : fw_SC mX5_addPiecesOf [fw_r 0, fw_i t, fw_r p] N K (fun r M2 L2 => r = none ∧ (∀ k, ¬ k = p → ¬ k = p + 2 → M2 k = N k) ∧ (∀ k, ¬ k = p + 1 → L2 k = K k) ∧ ps_at M2 L2 p (pc_all l (cl_fs N K t))) := by
  refine fw_SP_of pl_X5_addPiecesOf (ls := [_, _, _]) rfl (Nat.le_of_ble_eq_true rfl) fun hA hM => ?_
  refine fw_iconst dX5_addPiecesOf_0 ⟨by decide, by decide⟩ ?_
  refine fw_istore_n (ls2 := [_, _, _, _]) dX5_addPiecesOf_1 rfl (by decide) rfl ?_
  exact lp_X5_addPiecesOf p n hps l N K hl hn4 hok t hw hc 5 0 N K (by have := hw.2.1; omega) (by decide) (by have := hw.2.1; omega) hl (fun _ _ _ => rfl) (fun _ _ => rfl)

theorem cl_rw_of {M N : fw_F} {t : Int} (h : cl_rw N t) (h1 : M 176 = N 176) (h2 : M 177 = N 177) (h3 : ∀ k, 8 ≤ k → k < 168 → M k = N k) : cl_rw M t := by
  obtain ⟨a, b, c⟩ := h
  refine ⟨a, by rw [h1]; exact b, fun r r0 r1 => ?_⟩
  rw [h1] at r1
  obtain ⟨c1, c2⟩ := c r r0 r1
  rw [h2, h3 (8 + 2 * N 177 (t * 4 + r)) (by omega) (by omega)]
  exact ⟨c1, c2⟩
theorem cl_fs_of {M N : fw_F} {L K : fw_G} {t : Int} (h : cl_rw N t) (h1 : M 176 = N 176) (h2 : M 177 = N 177) (h3 : ∀ k, 8 ≤ k → k < 168 → M k = N k ∧ L k = K k) : cl_fs M L t = cl_fs N K t := by
  obtain ⟨a, b, c⟩ := h
  unfold cl_fs
  rw [h1, h2]
  refine pc_fr_congr _ (fun i a b => ?_)
  obtain ⟨c1, c2⟩ := c i a (by omega)
  have h4 := h3 (8 + 2 * N 177 (t * 4 + i)) (by omega) (by omega)
  rw [h4.1, h4.2]
  exact ⟨rfl, rfl⟩

set_option maxRecDepth 20000 in
set_option maxHeartbeats 4000000 in
theorem sp_X5_wantPiecesOf (N : fw_F) (K : fw_G) (t : Int) (hw : cl_rw N t) : fw_SC mX5_wantPiecesOf [fw_r 0, fw_i t] N K (fun r M2 L2 => r = none ∧ (∀ k, ¬ k = 191 → ¬ k = 193 → M2 k = N k) ∧ (∀ k, ¬ k = 192 → L2 k = K k) ∧ ps_at M2 L2 191 (pc_all [] (cl_fs N K t))) := by
  refine fw_SP_of pl_X5_wantPiecesOf (ls := [_, _]) rfl (Nat.le_of_ble_eq_true rfl) fun hA hM => ?_
  refine fw_aload_n dX5_wantPiecesOf_0 rfl rfl ?_
  refine fw_getr 3 191 rfl dX5_wantPiecesOf_1 ff_5_34 ly0_0 ⟨by decide, by decide⟩ rfl rfl (by decide) ?_
  refine fw_cV mX2_empty [] dX5_wantPiecesOf_4 mv_X2_empty lk_5_113 ⟨⟨by decide, by decide⟩, rfl, rfl, rfl, by decide, by decide⟩ ly0_191 ⟨by decide, by decide⟩ rfl rfl (Nat.le_of_ble_eq_true rfl) (sp_X2_empty 191 32 ps_191 N K) (fun r M1 L1 hp hM1 => ?_)
  obtain ⟨rfl, rfl, g1, g2⟩ := hp
  have hw2 := cl_rw_of hw (g1 176 (by decide)) (g1 177 (by decide)) (fun k a b => g1 k (by omega))
  have hf2 := cl_fs_of (L := L1) (K := L1) hw (g1 176 (by decide)) (g1 177 (by decide)) (fun k a b => ⟨g1 k (by omega), rfl⟩)
  refine fw_aload_n dX5_wantPiecesOf_7 rfl rfl ?_
  refine fw_iload_n dX5_wantPiecesOf_8 rfl rfl ?_
  refine fw_aload_n dX5_wantPiecesOf_9 rfl rfl ?_
  refine fw_getr 3 191 rfl dX5_wantPiecesOf_10 ff_5_34 ly0_0 ⟨by decide, by decide⟩ rfl rfl (by decide) ?_
  refine fw_cV mX5_addPiecesOf [_, _] dX5_wantPiecesOf_13 mv_X5_addPiecesOf lk_5_324 ⟨⟨by decide, by decide⟩, rfl, rfl, rfl, by decide, by decide⟩ ly0_0 ⟨by decide, by decide⟩ rfl rfl (Nat.le_of_ble_eq_true rfl) (sp_X5_addPiecesOf 191 32 ps_191 [] M1 L1 g2 (by decide) (fun a h => by simp at h) t hw2 (by decide)) (fun r M1 L1 hp hM1 => ?_)
  obtain ⟨rfl, f1, f2, f3⟩ := hp
  rw [hf2] at f3
  refine fw_vret dX5_wantPiecesOf_16 ⟨rfl, rfl, rfl⟩ ?_
  exact ⟨rfl, fun k a b => (f1 k a b).trans (g1 k a), fun k a => f2 k a, f3⟩

def cl_of (N : fw_F) (g : Int) : Int → Bool := fun t => decide (¬ t = g ∧ (¬ N 170 t = 0 ∧ N 171 t = 1))

set_option maxRecDepth 20000 in
set_option maxHeartbeats 4000000 in
theorem lp_X5_gatherPiecesOfOthers (N : fw_F) (K : fw_G) (g : Int) (hw : ∀ t, 0 ≤ t → t < 12 → cl_rw N t) : ∀ (q : Nat) (t : Int) (M : fw_F) (L : fw_G), 12 - t < q → 0 ≤ t → t ≤ 12 → ps_at M L 194 (pc_all [] (pc_os (cl_of N g) (cl_fs N K) t.toNat)) → (∀ k, ¬ k = 194 → ¬ k = 196 → M k = N k) → (∀ k, ¬ k = 195 → L k = K k) → fw_C mX5_gatherPiecesOfOthers 9 [some (fw_r 0), some (fw_i g), some (fw_i t)] [] M L (fun r M2 L2 => r = none ∧ (∀ k, ¬ k = 194 → ¬ k = 196 → M2 k = N k) ∧ (∀ k, ¬ k = 195 → L2 k = K k) ∧ ps_at M2 L2 194 (pc_all [] (pc_os (cl_of N g) (cl_fs N K) 12))) := by
  intro q
  induction q with
  | zero => intro t M L h0 h1 h2; omega
  | succ q ih =>
    intro t M L h0 h1 h2 hl2 hfM hfL
    refine fw_iload_n dX5_gatherPiecesOfOthers_9 rfl rfl ?_
    refine fw_bipush dX5_gatherPiecesOfOthers_10 ⟨by decide, by decide⟩ (by decide) ?_
    refine fw_icmp_ge 46 dX5_gatherPiecesOfOthers_12 (by decide) (fun h12 => ?_) (fun h12 => ?_)
    · skip
      refine fw_vret dX5_gatherPiecesOfOthers_46 ⟨rfl, rfl, rfl⟩ ?_
      rw [show t.toNat = 12 by omega] at hl2
      exact ⟨rfl, hfM, hfL, hl2⟩
    · skip
      have hs := pc_os_s (cl_of N g) (cl_fs N K) h1
      have hk := pc_os_ok (P := cl_of N g) (fs := cl_fs N K) t.toNat (fun i a b _ => cl_fs_ok (hw i a (by omega)))
      have hln := pc_all_len (pc_os (cl_of N g) (cl_fs N K) t.toNat) []
      simp only [List.length_nil] at hln
      have hwt := hw t h1 (by omega)
      have e170 := hfM 170 (by decide) (by decide)
      have e171 := hfM 171 (by decide) (by decide)
      have hw2 := cl_rw_of hwt (hfM 176 (by decide) (by decide)) (hfM 177 (by decide) (by decide)) (fun k a b => hfM k (by omega) (by omega))
      have hf2 := cl_fs_of (L := L) (K := K) hwt (hfM 176 (by decide) (by decide)) (hfM 177 (by decide) (by decide)) (fun k a b => ⟨hfM k (by omega) (by omega), hfL k (by omega)⟩)
      refine fw_iload_n dX5_gatherPiecesOfOthers_15 rfl rfl ?_
      refine fw_iload_n dX5_gatherPiecesOfOthers_16 rfl rfl ?_
      refine fw_icmp_eq 40 dX5_gatherPiecesOfOthers_17 (by decide) (fun h17 => ?_) (fun h17 => ?_)
      · skip
        refine fw_iinc (ls2 := [_, _, _]) dX5_gatherPiecesOfOthers_40 rfl ⟨by omega, by omega⟩ (by decide) rfl ?_
        refine fw_goto 9 dX5_gatherPiecesOfOthers_43 (by decide) ?_
        refine ih (t + 1) _ _ (by omega) (by omega) (by omega) ?_ hfM hfL
        rw [hs, if_neg (by simp [cl_of]; intro z; exact absurd h17 z), List.append_nil]; exact hl2
      · skip
        refine fw_aload_n dX5_gatherPiecesOfOthers_20 rfl rfl ?_
        refine fw_getr 1 168 rfl dX5_gatherPiecesOfOthers_21 ff_5_21 ly0_0 ⟨by decide, by decide⟩ rfl rfl (by decide) ?_
        refine fw_iload_n dX5_gatherPiecesOfOthers_24 rfl rfl ?_
        refine fw_pV mX4_isFile [_] dX5_gatherPiecesOfOthers_25 mv_X4_isFile lk_5_110 ⟨⟨by decide, by decide⟩, rfl, rfl, rfl, by decide, by decide⟩ ly0_168 ⟨by decide, by decide⟩ rfl rfl (Nat.le_of_ble_eq_true rfl) (sp_X4_isFile _ _ _ (by omega)) ?_
        rw [e170, e171]
        refine fw_bifeq 40 dX5_gatherPiecesOfOthers_28 (by decide) (fun h28 => ?_) (fun h28 => ?_)
        · skip
          refine fw_iinc (ls2 := [_, _, _]) dX5_gatherPiecesOfOthers_40 rfl ⟨by omega, by omega⟩ (by decide) rfl ?_
          refine fw_goto 9 dX5_gatherPiecesOfOthers_43 (by decide) ?_
          refine ih (t + 1) _ _ (by omega) (by omega) (by omega) ?_ hfM hfL
          rw [hs, if_neg (by simp [cl_of]; intro _ z y; exact h28 ⟨z, y⟩), List.append_nil]; exact hl2
        · skip
          refine fw_aload_n dX5_gatherPiecesOfOthers_31 rfl rfl ?_
          refine fw_iload_n dX5_gatherPiecesOfOthers_32 rfl rfl ?_
          refine fw_aload_n dX5_gatherPiecesOfOthers_33 rfl rfl ?_
          refine fw_getr 4 194 rfl dX5_gatherPiecesOfOthers_34 ff_5_38 ly0_0 ⟨by decide, by decide⟩ rfl rfl (by decide) ?_
          refine fw_cV mX5_addPiecesOf [_, _] dX5_gatherPiecesOfOthers_37 mv_X5_addPiecesOf lk_5_324 ⟨⟨by decide, by decide⟩, rfl, rfl, rfl, by decide, by decide⟩ ly0_0 ⟨by decide, by decide⟩ rfl rfl (Nat.le_of_ble_eq_true rfl) (sp_X5_addPiecesOf 194 384 ps_194 _ M L hl2 (by decide) (pc_all_ok (fun a h => by simp at h) hk.1) t hw2 (by omega)) (fun r M1 L1 hp hM1 => ?_)
          obtain ⟨rfl, g1, g2, g3⟩ := hp
          rw [hf2, ← pc_all_app] at g3
          refine fw_iinc (ls2 := [_, _, _]) dX5_gatherPiecesOfOthers_40 rfl ⟨by omega, by omega⟩ (by decide) rfl ?_
          refine fw_goto 9 dX5_gatherPiecesOfOthers_43 (by decide) ?_
          refine ih (t + 1) _ _ (by omega) (by omega) (by omega) ?_ (fun k a b => (g1 k a b).trans (hfM k a b)) (fun k a => (g2 k a).trans (hfL k a))
          rw [hs, if_pos (by simp only [cl_of, decide_eq_true_eq]; exact ⟨h17, h28⟩)]; exact g3

set_option maxRecDepth 20000 in
set_option maxHeartbeats 4000000 in
theorem sp_X5_gatherPiecesOfOthers (N : fw_F) (K : fw_G) (g : Int) (hw : ∀ t, 0 ≤ t → t < 12 → cl_rw N t) : fw_SC mX5_gatherPiecesOfOthers [fw_r 0, fw_i g] N K (fun r M2 L2 => r = none ∧ (∀ k, ¬ k = 194 → ¬ k = 196 → M2 k = N k) ∧ (∀ k, ¬ k = 195 → L2 k = K k) ∧ ps_at M2 L2 194 (pc_all [] (pc_os (cl_of N g) (cl_fs N K) 12))) := by
  refine fw_SP_of pl_X5_gatherPiecesOfOthers (ls := [_, _]) rfl (Nat.le_of_ble_eq_true rfl) fun hA hM => ?_
  refine fw_aload_n dX5_gatherPiecesOfOthers_0 rfl rfl ?_
  refine fw_getr 4 194 rfl dX5_gatherPiecesOfOthers_1 ff_5_38 ly0_0 ⟨by decide, by decide⟩ rfl rfl (by decide) ?_
  refine fw_cV mX2_empty [] dX5_gatherPiecesOfOthers_4 mv_X2_empty lk_5_113 ⟨⟨by decide, by decide⟩, rfl, rfl, rfl, by decide, by decide⟩ ly0_194 ⟨by decide, by decide⟩ rfl rfl (Nat.le_of_ble_eq_true rfl) (sp_X2_empty 194 384 ps_194 N K) (fun r M1 L1 hp hM1 => ?_)
  obtain ⟨rfl, rfl, g1, g2⟩ := hp
  refine fw_iconst dX5_gatherPiecesOfOthers_7 ⟨by decide, by decide⟩ ?_
  refine fw_istore_n (ls2 := [_, _, _]) dX5_gatherPiecesOfOthers_8 rfl (by decide) rfl ?_
  exact lp_X5_gatherPiecesOfOthers N L1 g hw 13 0 M1 L1 (by decide) (by decide) (by decide) g2 (fun k a _ => g1 k a) (fun _ _ => rfl)

set_option maxRecDepth 20000 in
set_option maxHeartbeats 4000000 in
theorem sp_X5_hasRoomForWanted (P : Int → List pc_P) (W : List pc_P) (M : fw_F) (L : fw_G) (hW : ps_at M L 191 W) (hWl : W.length ≤ 32) (hWo : pc_ok W) (hP : ∀ q, 0 ≤ q → q < 4 → ps_at M L (179 + 3 * q) (P q) ∧ (P q).length ≤ 200 ∧ pc_ok (P q)) (m : Int) (hm : 0 ≤ m ∧ m < 4) : fw_SC mX5_hasRoomForWanted [fw_r 0, fw_i m] M L (fw_pure (some (fw_i (fw_b (pc_sz (P m) + pc_sz (W.filter (pc_no (P m))) ≤ M 197 m)))) M L) := by
  refine fw_SP_of pl_X5_hasRoomForWanted (ls := [_, _]) rfl (Nat.le_of_ble_eq_true rfl) fun hA hM => ?_
  have hkm := ps_kept hm.1 hm.2
  obtain ⟨p1, p2, p3⟩ := hP m hm.1 hm.2
  have s1 := pc_sz_len p3
  have s2 := pc_sz_len (l := W.filter (pc_no (P m))) (fun b hb => hWo b (List.mem_filter.mp hb).1)
  have s3 := List.length_filter_le (pc_no (P m)) W
  have s4 := p1.2.1
  refine fw_aload_n dX5_hasRoomForWanted_0 rfl rfl ?_
  refine fw_getr 2 178 rfl dX5_hasRoomForWanted_1 ff_5_27 ly0_0 ⟨by decide, by decide⟩ rfl rfl (by decide) ?_
  refine fw_iload_n dX5_hasRoomForWanted_4 rfl rfl ?_
  refine fw_aaload (179 + 3 * _) dX5_hasRoomForWanted_5 ly0_178 (Or.inr rfl) ⟨by decide, by decide⟩ ⟨by omega, by omega⟩ (rc_178 _) (by omega) ?_
  refine fw_astore_n (ls2 := [_, _, _]) dX5_hasRoomForWanted_6 rfl (by decide) rfl ?_
  refine fw_aload_n dX5_hasRoomForWanted_7 rfl rfl ?_
  refine fw_geti 3 rfl dX5_hasRoomForWanted_8 ff_5_237 hkm.1 ⟨by have := hkm.2.2.2.2.2; omega, by have := hkm.2.2.2.2.2; omega⟩ rfl ?_
  refine fw_aload_n dX5_hasRoomForWanted_11 rfl rfl ?_
  refine fw_getr 3 191 rfl dX5_hasRoomForWanted_12 ff_5_34 ly0_0 ⟨by decide, by decide⟩ rfl rfl (by decide) ?_
  refine fw_aload_n dX5_hasRoomForWanted_15 rfl rfl ?_
  refine fw_pV mX2_bytesNotIn [_] dX5_hasRoomForWanted_16 mv_X2_bytesNotIn lk_5_328 ⟨⟨by decide, by decide⟩, rfl, rfl, rfl, by decide, by decide⟩ ly0_191 ⟨by decide, by decide⟩ rfl rfl (Nat.le_of_ble_eq_true rfl) (sp_X2_bytesNotIn 191 (179 + 3 * m) 32 200 ps_191 hkm W (P m) M L hW p1 hWl (by decide) p2 (by decide) (by omega) hWo) ?_
  rw [s4]
  refine fw_iadd dX5_hasRoomForWanted_19 ⟨by omega, by omega⟩ ?_
  refine fw_aload_n dX5_hasRoomForWanted_20 rfl rfl ?_
  refine fw_getr 5 197 rfl dX5_hasRoomForWanted_21 ff_5_41 ly0_0 ⟨by decide, by decide⟩ rfl rfl (by decide) ?_
  refine fw_iload_n dX5_hasRoomForWanted_24 rfl rfl ?_
  refine fw_iaload dX5_hasRoomForWanted_25 ly0_197 ⟨by decide, by decide⟩ ⟨by omega, by omega⟩ ?_
  refine fw_icmp_gt 33 dX5_hasRoomForWanted_26 (by decide) (fun h26 => ?_) (fun h26 => ?_)
  · skip
    refine fw_iconst dX5_hasRoomForWanted_33 ⟨by decide, by decide⟩ ?_
    exact fw_zret dX5_hasRoomForWanted_34 ⟨rfl, rfl, rfl⟩ (by first | decide | exact fw_b_01 _ | omega) (⟨by first | exact fw_zT (by omega) | exact fw_zF (by omega), rfl, rfl⟩)
  · skip
    refine fw_iconst dX5_hasRoomForWanted_29 ⟨by decide, by decide⟩ ?_
    refine fw_goto 34 dX5_hasRoomForWanted_30 (by decide) ?_
    exact fw_zret dX5_hasRoomForWanted_34 ⟨rfl, rfl, rfl⟩ (by first | decide | exact fw_b_01 _ | omega) (⟨by first | exact fw_zT (by omega) | exact fw_zF (by omega), rfl, rfl⟩)

def pc_el (P : Int → List pc_P) (n m : Int) (a : pc_P) : Prop := ∃ q, 0 ≤ q ∧ q < n ∧ ¬ q = m ∧ a ∈ P q

set_option maxRecDepth 20000 in
set_option maxHeartbeats 4000000 in
theorem li_X5_othersHaveWanted (P : Int → List pc_P) (W : List pc_P) (M : fw_F) (L : fw_G) (hW : ps_at M L 191 W) (hWl : W.length ≤ 32) (hWo : pc_ok W) (hP : ∀ q, 0 ≤ q → q < 4 → ps_at M L (179 + 3 * q) (P q) ∧ (P q).length ≤ 200 ∧ pc_ok (P q)) (m : Int) (hn : 1 ≤ M 0 7 ∧ M 0 7 ≤ 4) (Q : fw_P) (i : Int) (hi : 0 ≤ i ∧ i < M 191 2) (a : pc_P) (a1 : L 192 i = a.1) (a2 : M 193 i = a.2) (hk : ∀ f, (f = 0 ∨ f = 1) → (f = 1 ↔ pc_el P (M 0 7) m a) → fw_C mX5_othersHaveWanted 80 [some (fw_r 0), some (fw_i m), some (fw_i i), some (fw_i f)] [] M L Q) : ∀ (q : Nat) (j f : Int), M 0 7 - j < q → 0 ≤ j → j ≤ M 0 7 → (f = 0 ∨ f = 1) → (f = 1 ↔ pc_el P j m a) → fw_C mX5_othersHaveWanted 18 [some (fw_r 0), some (fw_i m), some (fw_i i), some (fw_i f), some (fw_i j)] [] M L Q := by
  intro q
  induction q with
  | zero => intro j f h0 h1 h2; omega
  | succ q ih =>
    intro j f h0 h1 h2 h3 h4
    have e1 := hW.1
    refine fw_iload dX5_othersHaveWanted_18 rfl ?_
    refine fw_aload_n dX5_othersHaveWanted_20 rfl rfl ?_
    refine fw_geti 7 rfl dX5_othersHaveWanted_21 ff_5_55 ly0_0 ⟨by decide, by decide⟩ rfl ?_
    refine fw_icmp_ge 80 dX5_othersHaveWanted_24 (by decide) (fun h24 => ?_) (fun h24 => ?_)
    · skip
      refine fw_take 4 ?_
      rw [show j = M 0 7 by omega] at h4
      exact hk f h3 h4
    · skip
      refine fw_iload_n dX5_othersHaveWanted_27 rfl rfl ?_
      refine fw_if_ne 68 dX5_othersHaveWanted_28 (by decide) (fun h28 => ?_) (fun h28 => ?_)
      · skip
        refine fw_iconst dX5_othersHaveWanted_68 ⟨by decide, by decide⟩ ?_
        refine fw_goto 73 dX5_othersHaveWanted_69 (by decide) ?_
        refine fw_istore_n (ls2 := [_, _, _, _, _]) dX5_othersHaveWanted_73 rfl (by decide) rfl ?_
        refine fw_iinc (ls2 := [_, _, _, _, _]) dX5_othersHaveWanted_74 rfl ⟨by omega, by omega⟩ (by decide) rfl ?_
        refine fw_goto 18 dX5_othersHaveWanted_77 (by decide) ?_
        exact ih (j + 1) 1 (by omega) (by omega) (by omega) (Or.inr rfl) ⟨fun _ => by obtain ⟨u, u1, u2, u3⟩ := h4.mp (by omega); exact ⟨u, u1, by omega, u3⟩, fun _ => rfl⟩
      · skip
        refine fw_iload dX5_othersHaveWanted_31 rfl ?_
        refine fw_iload_n dX5_othersHaveWanted_33 rfl rfl ?_
        refine fw_icmp_eq 72 dX5_othersHaveWanted_34 (by decide) (fun h34 => ?_) (fun h34 => ?_)
        · skip
          refine fw_iconst dX5_othersHaveWanted_72 ⟨by decide, by decide⟩ ?_
          refine fw_istore_n (ls2 := [_, _, _, _, _]) dX5_othersHaveWanted_73 rfl (by decide) rfl ?_
          refine fw_iinc (ls2 := [_, _, _, _, _]) dX5_othersHaveWanted_74 rfl ⟨by omega, by omega⟩ (by decide) rfl ?_
          refine fw_goto 18 dX5_othersHaveWanted_77 (by decide) ?_
          exact ih (j + 1) 0 (by omega) (by omega) (by omega) (Or.inl rfl) ⟨fun z => by omega, fun ⟨u, u1, u2, u3, u4⟩ => by
            rcases (show u < j ∨ u = j by omega) with u5 | u5
            · have := h4.mpr ⟨u, u1, u5, u3, u4⟩; omega
            · rw [u5] at u3 u4; exact absurd h34 u3⟩
        · skip
          have hkm := ps_kept h1 (show j < 4 by omega)
          obtain ⟨p1, p2, p3⟩ := hP j h1 (by omega)
          refine fw_aload_n dX5_othersHaveWanted_37 rfl rfl ?_
          refine fw_getr 2 178 rfl dX5_othersHaveWanted_38 ff_5_27 ly0_0 ⟨by decide, by decide⟩ rfl rfl (by decide) ?_
          refine fw_iload dX5_othersHaveWanted_41 rfl ?_
          refine fw_aaload (179 + 3 * _) dX5_othersHaveWanted_43 ly0_178 (Or.inr rfl) ⟨by decide, by decide⟩ ⟨by omega, by omega⟩ (rc_178 _) (by omega) ?_
          refine fw_aload_n dX5_othersHaveWanted_44 rfl rfl ?_
          refine fw_getr 3 191 rfl dX5_othersHaveWanted_45 ff_5_34 ly0_0 ⟨by decide, by decide⟩ rfl rfl (by decide) ?_
          refine fw_getr 0 192 rfl dX5_othersHaveWanted_48 ff_5_332 ly0_191 ⟨by decide, by decide⟩ rfl rfl (by decide) ?_
          refine fw_iload_n dX5_othersHaveWanted_51 rfl rfl ?_
          refine fw_laload dX5_othersHaveWanted_52 ly0_192 ⟨by decide, by decide⟩ ⟨by omega, by omega⟩ ?_
          refine fw_aload_n dX5_othersHaveWanted_53 rfl rfl ?_
          refine fw_getr 3 191 rfl dX5_othersHaveWanted_54 ff_5_34 ly0_0 ⟨by decide, by decide⟩ rfl rfl (by decide) ?_
          refine fw_getr 1 193 rfl dX5_othersHaveWanted_57 ff_5_335 ly0_191 ⟨by decide, by decide⟩ rfl rfl (by decide) ?_
          refine fw_iload_n dX5_othersHaveWanted_60 rfl rfl ?_
          refine fw_iaload dX5_othersHaveWanted_61 ly0_193 ⟨by decide, by decide⟩ ⟨by omega, by omega⟩ ?_
          refine fw_pV mX2_has [_, _] dX5_othersHaveWanted_62 mv_X2_has lk_5_337 ⟨⟨by decide, by decide⟩, rfl, rfl, rfl, by decide, by decide⟩ hkm.1 ⟨by have := hkm.2.2.2.2.2; omega, by have := hkm.2.2.2.2.2; omega⟩ rfl rfl (Nat.le_of_ble_eq_true rfl) (sp_X2_has (179 + 3 * j) 200 hkm (P j) M L p1 p2 (by decide) _ _) ?_
          rw [show (L 192 i, M 193 i) = a from Prod.ext a1 a2]
          refine fw_bifeq 72 dX5_othersHaveWanted_65 (by decide) (fun h65 => ?_) (fun h65 => ?_)
          · skip
            refine fw_iconst dX5_othersHaveWanted_72 ⟨by decide, by decide⟩ ?_
            refine fw_istore_n (ls2 := [_, _, _, _, _]) dX5_othersHaveWanted_73 rfl (by decide) rfl ?_
            refine fw_iinc (ls2 := [_, _, _, _, _]) dX5_othersHaveWanted_74 rfl ⟨by omega, by omega⟩ (by decide) rfl ?_
            refine fw_goto 18 dX5_othersHaveWanted_77 (by decide) ?_
            exact ih (j + 1) 0 (by omega) (by omega) (by omega) (Or.inl rfl) ⟨fun z => by omega, fun ⟨u, u1, u2, u3, u4⟩ => by
              rcases (show u < j ∨ u = j by omega) with u5 | u5
              · have := h4.mpr ⟨u, u1, u5, u3, u4⟩; omega
              · rw [u5] at u3 u4; exact absurd u4 h65⟩
          · skip
            refine fw_iconst dX5_othersHaveWanted_68 ⟨by decide, by decide⟩ ?_
            refine fw_goto 73 dX5_othersHaveWanted_69 (by decide) ?_
            refine fw_istore_n (ls2 := [_, _, _, _, _]) dX5_othersHaveWanted_73 rfl (by decide) rfl ?_
            refine fw_iinc (ls2 := [_, _, _, _, _]) dX5_othersHaveWanted_74 rfl ⟨by omega, by omega⟩ (by decide) rfl ?_
            refine fw_goto 18 dX5_othersHaveWanted_77 (by decide) ?_
            exact ih (j + 1) 1 (by omega) (by omega) (by omega) (Or.inr rfl) ⟨fun _ => ⟨j, h1, by omega, h34, h65⟩, fun _ => rfl⟩

set_option maxRecDepth 20000 in
set_option maxHeartbeats 4000000 in
theorem lp_X5_othersHaveWanted (P : Int → List pc_P) (W : List pc_P) (M : fw_F) (L : fw_G) (hW : ps_at M L 191 W) (hWl : W.length ≤ 32) (hWo : pc_ok W) (hP : ∀ q, 0 ≤ q → q < 4 → ps_at M L (179 + 3 * q) (P q) ∧ (P q).length ≤ 200 ∧ pc_ok (P q)) (m : Int) (hn : 1 ≤ M 0 7 ∧ M 0 7 ≤ 4) : ∀ (q : Nat) (i : Int), M 191 2 - i < q → 0 ≤ i → i ≤ M 191 2 → (∀ (j : Nat) (a : pc_P), (j : Int) < i → W[j]? = some a → pc_el P (M 0 7) m a) → fw_C mX5_othersHaveWanted 2 [some (fw_r 0), some (fw_i m), some (fw_i i)] [] M L (fun r M2 L2 => M2 = M ∧ L2 = L ∧ ∃ z, r = some (fw_i z) ∧ (z = 0 ∨ z = 1) ∧ (z = 1 ↔ ∀ a ∈ W, pc_el P (M 0 7) m a)) := by
  intro q
  induction q with
  | zero => intro i h0 h1 h2; omega
  | succ q ih =>
    intro i h0 h1 h2 h3
    have e1 := hW.1
    refine fw_iload_n dX5_othersHaveWanted_2 rfl rfl ?_
    refine fw_aload_n dX5_othersHaveWanted_3 rfl rfl ?_
    refine fw_getr 3 191 rfl dX5_othersHaveWanted_4 ff_5_34 ly0_0 ⟨by decide, by decide⟩ rfl rfl (by decide) ?_
    refine fw_geti 2 rfl dX5_othersHaveWanted_7 ff_5_240 ly0_191 ⟨by decide, by decide⟩ rfl ?_
    refine fw_icmp_ge 92 dX5_othersHaveWanted_10 (by decide) (fun h10 => ?_) (fun h10 => ?_)
    · skip
      refine fw_iconst dX5_othersHaveWanted_92 ⟨by decide, by decide⟩ ?_
      refine fw_zret dX5_othersHaveWanted_93 ⟨rfl, rfl, rfl⟩ (by first | decide | exact fw_b_01 _ | omega) ?_
      refine ⟨rfl, rfl, 1, rfl, Or.inr rfl, fun _ a ha => ?_, fun _ => rfl⟩
      obtain ⟨j, hj⟩ := List.getElem?_of_mem ha
      have := (List.getElem?_eq_some_iff.mp hj).1
      exact h3 j a (by omega) hj
    · skip
      obtain ⟨a, ha, a1, a2⟩ := ps_at_get hW h1 (by omega)
      refine fw_iconst dX5_othersHaveWanted_13 ⟨by decide, by decide⟩ ?_
      refine fw_istore_n (ls2 := [_, _, _, _]) dX5_othersHaveWanted_14 rfl (by decide) rfl ?_
      refine fw_iconst dX5_othersHaveWanted_15 ⟨by decide, by decide⟩ ?_
      refine fw_istore (ls2 := [_, _, _, _, _]) dX5_othersHaveWanted_16 (by decide) rfl ?_
      refine li_X5_othersHaveWanted P W M L hW hWl hWo hP m hn _ i ⟨h1, by omega⟩ a a1 a2 (fun f f1 f2 => ?_) 5 0 0 (by omega) (by decide) (by omega) (Or.inl rfl) ⟨fun z => by omega, fun ⟨u, u1, u2, _⟩ => by omega⟩
      refine fw_iload_n dX5_othersHaveWanted_80 rfl rfl ?_
      refine fw_if_ne 86 dX5_othersHaveWanted_81 (by decide) (fun h81 => ?_) (fun h81 => ?_)
      · refine fw_iinc (ls2 := [_, _, _, _]) dX5_othersHaveWanted_86 rfl ⟨by omega, by omega⟩ (by decide) rfl ?_
        refine fw_goto 2 dX5_othersHaveWanted_89 (by decide) ?_
        refine fw_take 3 ?_
        refine ih (i + 1) (by omega) (by omega) (by omega) (fun j b hj hb => ?_)
        rcases (show (j : Int) < i ∨ j = i.toNat by omega) with hji | hji
        · exact h3 j b hji hb
        · rw [hji, ha] at hb; injection hb with hb; rw [← hb]; exact f2.mp (by omega)
      · refine fw_iconst dX5_othersHaveWanted_84 ⟨by decide, by decide⟩ ?_
        refine fw_zret dX5_othersHaveWanted_85 ⟨rfl, rfl, rfl⟩ (by decide) ?_
        exact ⟨rfl, rfl, 0, rfl, Or.inl rfl, fun z => by omega, fun z => by have := f2.mpr (z a (List.mem_of_getElem? ha)); omega⟩

set_option maxRecDepth 20000 in
set_option maxHeartbeats 4000000 in
theorem sp_X5_othersHaveWanted (P : Int → List pc_P) (W : List pc_P) (M : fw_F) (L : fw_G) (hW : ps_at M L 191 W) (hWl : W.length ≤ 32) (hWo : pc_ok W) (hP : ∀ q, 0 ≤ q → q < 4 → ps_at M L (179 + 3 * q) (P q) ∧ (P q).length ≤ 200 ∧ pc_ok (P q)) (m : Int) (hn : 1 ≤ M 0 7 ∧ M 0 7 ≤ 4) : fw_SC mX5_othersHaveWanted [fw_r 0, fw_i m] M L (fun r M2 L2 => M2 = M ∧ L2 = L ∧ ∃ z, r = some (fw_i z) ∧ (z = 0 ∨ z = 1) ∧ (z = 1 ↔ ∀ a ∈ W, pc_el P (M 0 7) m a)) := by
  refine fw_SP_of pl_X5_othersHaveWanted (ls := [_, _]) rfl (Nat.le_of_ble_eq_true rfl) fun hA hM => ?_
  refine fw_iconst dX5_othersHaveWanted_0 ⟨by decide, by decide⟩ ?_
  refine fw_istore_n (ls2 := [_, _, _]) dX5_othersHaveWanted_1 rfl (by decide) rfl ?_
  exact lp_X5_othersHaveWanted P W M L hW hWl hWo hP m hn 33 0 (by have := hW.1; omega) (by decide) (by have := hW.1; omega) (fun j a hj => by omega)
