set_option maxRecDepth 20000 in
set_option maxHeartbeats 4000000 in
theorem sp_X4_rowOf (t r : Int) (M : fw_F) (L : fw_G) (h0 : 0 ≤ t ∧ t < 12) (h1 : 0 ≤ r ∧ r < 4) (h2 : 0 ≤ M 177 (t * 4 + r) ∧ M 177 (t * 4 + r) < 80) : fw_SC mX4_rowOf [fw_r 168, fw_i t, fw_i r] M L (fw_pure (some (fw_r (8 + 2 * M 177 (t * 4 + r)))) M L) := by
  refine fw_SP_of pl_X4_rowOf (ls := [_, _, _]) rfl (Nat.le_of_ble_eq_true rfl) fun hA hM => ?_
  refine fw_aload_n dX4_rowOf_0 rfl rfl ?_
  refine fw_getr 0 1 rfl dX4_rowOf_1 ff_4_40 ly0_168 ⟨by decide, by decide⟩ rfl rfl (by decide) ?_
  refine fw_getr 0 2 rfl dX4_rowOf_4 ff_4_138 ly0_1 ⟨by decide, by decide⟩ rfl rfl (by decide) ?_
  refine fw_aload_n dX4_rowOf_7 rfl rfl ?_
  refine fw_getr 9 177 rfl dX4_rowOf_8 ff_4_37 ly0_168 ⟨by decide, by decide⟩ rfl rfl (by decide) ?_
  refine fw_iload_n dX4_rowOf_11 rfl rfl ?_
  refine fw_iconst dX4_rowOf_12 ⟨by decide, by decide⟩ ?_
  refine fw_imul dX4_rowOf_13 ⟨by omega, by omega⟩ ?_
  refine fw_iload_n dX4_rowOf_14 rfl rfl ?_
  refine fw_iadd dX4_rowOf_15 ⟨by omega, by omega⟩ ?_
  refine fw_iaload dX4_rowOf_16 ly0_177 ⟨by decide, by decide⟩ ⟨by omega, by omega⟩ ?_
  refine fw_aaload (8 + 2 * _) dX4_rowOf_17 ly0_2 (Or.inl rfl) ⟨by decide, by decide⟩ ⟨by omega, by omega⟩ (rc_2 _) (by omega) ?_
  exact fw_aret dX4_rowOf_18 ⟨rfl, rfl, rfl⟩ (⟨rfl, rfl, rfl⟩)

set_option maxRecDepth 20000 in
set_option maxHeartbeats 4000000 in
theorem lp_X4_holdRow (t x : Int) (w : List Int) (N G : fw_F) (mk : Int → Int) (L : fw_G) (hx : ab_lv mk x) (hc : cl_x N G x) (hw : ∀ y ∈ w, ab_lv mk y ∧ cl_x N G y) (ht : 0 ≤ t ∧ t < 12) (hl : N 176 t = (w.length : Int)) (h4 : w.length ≤ 4) (h3 : (w.filter (ab_kp G x)).length ≤ 3) : ∀ (n : Nat) (s r : Int) (M : fw_F), w.length - r < n → 0 ≤ r → r ≤ w.length → s = (((w.take r.toNat).filter (ab_kp G x)).length : Int) → (∀ k, ¬ k = 177 → M k = N k) → (∀ z, z < t * 4 ∨ t * 4 + 4 ≤ z → M 177 z = N 177 z) → (∀ (i : Nat) (y : Int), ((w.take r.toNat).filter (ab_kp G x))[i]? = some y → M 177 (t * 4 + i) = y) → (∀ (i : Nat) (y : Int), r ≤ i → w[i]? = some y → M 177 (t * 4 + i) = y) → fw_C mX4_holdRow 10 [some (fw_r 168), some (fw_i t), some (fw_r (8 + 2 * x)), some (fw_i (t * 4)), some (fw_i s), some (fw_i r)] [] M L (fun r M2 L2 => r = none ∧ L2 = L ∧ (∀ k, ¬ k = 176 → ¬ k = 177 → M2 k = N k) ∧ (∀ u, ¬ u = t → M2 176 u = N 176 u) ∧ M2 176 t = ((ab_hold G x w).length : Int) ∧ (∀ z, z < t * 4 ∨ t * 4 + 4 ≤ z → M2 177 z = N 177 z) ∧ ∀ (r : Nat) (y : Int), (ab_hold G x w)[r]? = some y → M2 177 (t * 4 + r) = y) := by
  intro n
  induction n with
  | zero => intro s r M h0 h1 h2; omega
  | succ n ih =>
    intro s r M h0 h1 h2 hs hk hz hkp hrr
    have e176 := hk 176 (by decide)
    have hx0 := hx.1
    have hx1 := hx.2.1
    have hkl : ((w.take r.toNat).filter (ab_kp G x)).length ≤ r.toNat := Nat.le_trans (List.length_filter_le _ _) (List.length_take_le _ _)
    refine fw_iload dX4_holdRow_10 rfl ?_
    refine fw_aload_n dX4_holdRow_12 rfl rfl ?_
    refine fw_getr 8 176 rfl dX4_holdRow_13 ff_4_34 ly0_168 ⟨by decide, by decide⟩ rfl rfl (by decide) ?_
    refine fw_iload_n dX4_holdRow_16 rfl rfl ?_
    refine fw_iaload dX4_holdRow_17 ly0_176 ⟨by decide, by decide⟩ ⟨by omega, by omega⟩ ?_
    rw [e176, hl]
    refine fw_icmp_ge 62 dX4_holdRow_18 (by decide) (fun h18 => ?_) (fun h18 => ?_)
    · skip
      refine fw_iload dX4_holdRow_62 rfl ?_
      refine fw_iconst dX4_holdRow_64 ⟨by decide, by decide⟩ ?_
      refine fw_icmp_ge 84 dX4_holdRow_65 (by decide) (fun h65 => ?_) (fun h65 => ?_)
      · skip
        rw [show r.toNat = w.length by omega, List.take_length] at hs
        exfalso; omega
      · skip
        refine fw_aload_n dX4_holdRow_68 rfl rfl ?_
        refine fw_getr 9 177 rfl dX4_holdRow_69 ff_4_37 ly0_168 ⟨by decide, by decide⟩ rfl rfl (by decide) ?_
        refine fw_iload_n dX4_holdRow_72 rfl rfl ?_
        refine fw_iload dX4_holdRow_73 rfl ?_
        refine fw_iadd dX4_holdRow_75 ⟨by omega, by omega⟩ ?_
        refine fw_aload_n dX4_holdRow_76 rfl rfl ?_
        refine fw_pV mX0_slot [] dX4_holdRow_77 mv_X0_slot lk_4_122 ⟨⟨by decide, by decide⟩, rfl, rfl, rfl, by decide, by decide⟩ (ly_ch (by omega) (by omega) (by omega)) ⟨by omega, by omega⟩ rfl rfl (Nat.le_of_ble_eq_true rfl) (sp_X0_slot _ _ _ (by omega) (by rw [hk (8 + 2 * x) (by omega), hc.1.1]; omega) (by rw [hk (8 + 2 * x) (by omega), hc.1.2.1]; omega)) ?_
        refine fw_iastore dX4_holdRow_80 ly0_177 (by decide) ⟨by decide, by decide⟩ ⟨by omega, by omega⟩ ?_
        refine fw_iinc (ls2 := [_, _, _, _, _, _]) dX4_holdRow_81 rfl ⟨by omega, by omega⟩ (by decide) rfl ?_
        refine fw_aload_n dX4_holdRow_84 rfl rfl ?_
        refine fw_getr 8 176 rfl dX4_holdRow_85 ff_4_34 ly0_168 ⟨by decide, by decide⟩ rfl rfl (by decide) ?_
        refine fw_iload_n dX4_holdRow_88 rfl rfl ?_
        refine fw_iload dX4_holdRow_89 rfl ?_
        refine fw_iastore dX4_holdRow_91 ly0_176 (by decide) ⟨by decide, by decide⟩ ⟨by omega, by omega⟩ ?_
        refine fw_vret dX4_holdRow_92 ⟨rfl, rfl, rfl⟩ ?_
        rw [show r.toNat = w.length by omega, List.take_length] at hs hkp
        have ecx := hk (8 + 2 * x) (by omega)
        refine ⟨rfl, rfl, fun k a b => ?_, fun u a => ?_, ?_, fun z a => ?_, fun i y hi => ?_⟩
        · rw [fw_updne a, fw_updne b]; exact hk k b
        · rw [fw_updeq, if_neg a, fw_updne (by decide), e176]
        · rw [fw_updeq, if_pos rfl, ab_kp_hold, List.length_append, hs]; simp
        · rw [fw_updne (by decide), fw_updeq, if_neg (by omega)]; exact hz z a
        · rw [fw_updne (by decide), fw_updeq]
          rw [ab_kp_hold] at hi
          by_cases hil : i < (w.filter (ab_kp G x)).length
          · rw [List.getElem?_append_left hil] at hi
            rw [if_neg (by omega)]
            exact hkp i y hi
          · rw [List.getElem?_append_right (by omega)] at hi
            have hi0 : i - (w.filter (ab_kp G x)).length = 0 := by
              have := (List.getElem?_eq_some_iff.mp hi).1
              simp at this
              omega
            rw [hi0] at hi
            simp at hi
            rw [if_pos (by omega), ecx, hc.1.1, hc.1.2.1, ← hi]
            omega
    · skip
      have hrl : r.toNat < w.length := by omega
      obtain ⟨yy, hyy⟩ : ∃ yy, w[r.toNat]? = some yy := ⟨_, List.getElem?_eq_getElem hrl⟩
      obtain ⟨hyl, hyc⟩ := hw yy (List.mem_of_getElem? hyy)
      have ey := hrr r.toNat yy (by omega) hyy
      rw [show ((r.toNat : Nat) : Int) = r by omega] at ey
      have hy0 := hyl.1
      have hy1 := hyl.2.1
      have ec := hk (8 + 2 * x + 1) (by omega)
      have ed := hk (8 + 2 * yy) (by omega)
      have hy2 := hyc.1.1
      have hy3 := hyc.1.2.1
      have hg := hc.2.2.2.2 (yy / 20) (by omega) (by omega)
      have hts := ls_take_succ hyy
      refine fw_aload_n dX4_holdRow_21 rfl rfl ?_
      refine fw_aload_n dX4_holdRow_22 rfl rfl ?_
      refine fw_iload_n dX4_holdRow_23 rfl rfl ?_
      refine fw_iload dX4_holdRow_24 rfl ?_
      refine fw_pV mX4_rowOf [_, _] dX4_holdRow_26 mv_X4_rowOf lk_4_115 ⟨⟨by decide, by decide⟩, rfl, rfl, rfl, by decide, by decide⟩ ly0_168 ⟨by decide, by decide⟩ rfl rfl (Nat.le_of_ble_eq_true rfl) (sp_X4_rowOf _ _ _ _ (by omega) (by omega) (by omega)) ?_
      rw [ey]
      refine fw_pV mX0_standsOn [_] dX4_holdRow_29 mv_X0_standsOn lk_4_119 ⟨⟨by decide, by decide⟩, rfl, rfl, rfl, by decide, by decide⟩ (ly_ch (by omega) (by omega) (by omega)) ⟨by omega, by omega⟩ rfl rfl (Nat.le_of_ble_eq_true rfl) (sp_X0_standsOn _ _ _ _ (by omega) (by omega) (by rw [ed, hy2]; omega)) ?_
      refine fw_bifne 56 dX4_holdRow_32 (by decide) (fun h32 => ?_) (fun h32 => ?_)
      · skip
        refine fw_iinc (ls2 := [_, _, _, _, _, _]) dX4_holdRow_56 rfl ⟨by omega, by omega⟩ (by decide) rfl ?_
        refine fw_goto 10 dX4_holdRow_59 (by decide) ?_
        rw [ed, ec, hy2, hy3, hg] at h32
        first
        | refine ih s (r + 1) _ (by omega) (by omega) (by omega) ?_ hk hz ?_ (fun i y hi hiy => hrr i y (by omega) hiy)
          · rw [show (r + 1).toNat = r.toNat + 1 by omega, hts, List.filter_append, List.filter_cons_of_neg (by simp [ab_kp]; exact h32), List.filter_nil, List.append_nil]; exact hs
          · intro i y
            rw [show (r + 1).toNat = r.toNat + 1 by omega, hts, List.filter_append, List.filter_cons_of_neg (by simp [ab_kp]; exact h32), List.filter_nil, List.append_nil]
            exact hkp i y
        | refine ih (s + 1) (r + 1) _ (by omega) (by omega) (by omega) ?_ (fun k h => (fw_updne h).trans (hk k h)) ?_ ?_ ?_
          · rw [show (r + 1).toNat = r.toNat + 1 by omega, hts, List.filter_append, List.filter_cons_of_pos (by simp [ab_kp]; omega), List.filter_nil, List.length_append]; simp; omega
          · intro z hzz
            rw [fw_updeq, if_neg (by omega)]
            exact hz z hzz
          · intro i y hi
            rw [show (r + 1).toNat = r.toNat + 1 by omega, hts, List.filter_append, List.filter_cons_of_pos (by simp [ab_kp]; omega), List.filter_nil] at hi
            rw [fw_updeq]
            by_cases hil : i < ((w.take r.toNat).filter (ab_kp G x)).length
            · rw [List.getElem?_append_left hil] at hi
              rw [if_neg (by omega)]
              exact hkp i y hi
            · rw [List.getElem?_append_right (by omega)] at hi
              have hi0 : i - ((w.take r.toNat).filter (ab_kp G x)).length = 0 := by
                have := (List.getElem?_eq_some_iff.mp hi).1
                simp at this
                omega
              rw [hi0] at hi
              simp at hi
              rw [if_pos (by omega), ey]; exact hi
          · intro i y hi hiy
            rw [fw_updeq, if_neg (by omega)]
            exact hrr i y (by omega) hiy
      · skip
        refine fw_aload_n dX4_holdRow_35 rfl rfl ?_
        refine fw_getr 9 177 rfl dX4_holdRow_36 ff_4_37 ly0_168 ⟨by decide, by decide⟩ rfl rfl (by decide) ?_
        refine fw_iload_n dX4_holdRow_39 rfl rfl ?_
        refine fw_iload dX4_holdRow_40 rfl ?_
        refine fw_iadd dX4_holdRow_42 ⟨by omega, by omega⟩ ?_
        refine fw_aload_n dX4_holdRow_43 rfl rfl ?_
        refine fw_getr 9 177 rfl dX4_holdRow_44 ff_4_37 ly0_168 ⟨by decide, by decide⟩ rfl rfl (by decide) ?_
        refine fw_iload_n dX4_holdRow_47 rfl rfl ?_
        refine fw_iload dX4_holdRow_48 rfl ?_
        refine fw_iadd dX4_holdRow_50 ⟨by omega, by omega⟩ ?_
        refine fw_iaload dX4_holdRow_51 ly0_177 ⟨by decide, by decide⟩ ⟨by omega, by omega⟩ ?_
        refine fw_iastore dX4_holdRow_52 ly0_177 (by decide) ⟨by decide, by decide⟩ ⟨by omega, by omega⟩ ?_
        refine fw_iinc (ls2 := [_, _, _, _, _, _]) dX4_holdRow_53 rfl ⟨by omega, by omega⟩ (by decide) rfl ?_
        refine fw_iinc (ls2 := [_, _, _, _, _, _]) dX4_holdRow_56 rfl ⟨by omega, by omega⟩ (by decide) rfl ?_
        refine fw_goto 10 dX4_holdRow_59 (by decide) ?_
        rw [ed, ec, hy2, hy3, hg] at h32
        first
        | refine ih s (r + 1) _ (by omega) (by omega) (by omega) ?_ hk hz ?_ (fun i y hi hiy => hrr i y (by omega) hiy)
          · rw [show (r + 1).toNat = r.toNat + 1 by omega, hts, List.filter_append, List.filter_cons_of_neg (by simp [ab_kp]; exact h32), List.filter_nil, List.append_nil]; exact hs
          · intro i y
            rw [show (r + 1).toNat = r.toNat + 1 by omega, hts, List.filter_append, List.filter_cons_of_neg (by simp [ab_kp]; exact h32), List.filter_nil, List.append_nil]
            exact hkp i y
        | refine ih (s + 1) (r + 1) _ (by omega) (by omega) (by omega) ?_ (fun k h => (fw_updne h).trans (hk k h)) ?_ ?_ ?_
          · rw [show (r + 1).toNat = r.toNat + 1 by omega, hts, List.filter_append, List.filter_cons_of_pos (by simp [ab_kp]; omega), List.filter_nil, List.length_append]; simp; omega
          · intro z hzz
            rw [fw_updeq, if_neg (by omega)]
            exact hz z hzz
          · intro i y hi
            rw [show (r + 1).toNat = r.toNat + 1 by omega, hts, List.filter_append, List.filter_cons_of_pos (by simp [ab_kp]; omega), List.filter_nil] at hi
            rw [fw_updeq]
            by_cases hil : i < ((w.take r.toNat).filter (ab_kp G x)).length
            · rw [List.getElem?_append_left hil] at hi
              rw [if_neg (by omega)]
              exact hkp i y hi
            · rw [List.getElem?_append_right (by omega)] at hi
              have hi0 : i - ((w.take r.toNat).filter (ab_kp G x)).length = 0 := by
                have := (List.getElem?_eq_some_iff.mp hi).1
                simp at this
                omega
              rw [hi0] at hi
              simp at hi
              rw [if_pos (by omega), ey]; exact hi
          · intro i y hi hiy
            rw [fw_updeq, if_neg (by omega)]
            exact hrr i y (by omega) hiy

set_option maxRecDepth 20000 in
set_option maxHeartbeats 4000000 in
theorem sp_X4_holdRow (t x : Int) (w : List Int) (N G : fw_F) (mk : Int → Int) (L : fw_G) (hx : ab_lv mk x) (hc : cl_x N G x) (hw : ∀ y ∈ w, ab_lv mk y ∧ cl_x N G y) (ht : 0 ≤ t ∧ t < 12) (hl : N 176 t = (w.length : Int)) (h4 : w.length ≤ 4) (h3 : (w.filter (ab_kp G x)).length ≤ 3) (hr : ∀ (r : Nat) (y : Int), w[r]? = some y → N 177 (t * 4 + r) = y) : fw_SC mX4_holdRow [fw_r 168, fw_i t, fw_r (8 + 2 * x)] N L (fun r M2 L2 => r = none ∧ L2 = L ∧ (∀ k, ¬ k = 176 → ¬ k = 177 → M2 k = N k) ∧ (∀ u, ¬ u = t → M2 176 u = N 176 u) ∧ M2 176 t = ((ab_hold G x w).length : Int) ∧ (∀ z, z < t * 4 ∨ t * 4 + 4 ≤ z → M2 177 z = N 177 z) ∧ ∀ (r : Nat) (y : Int), (ab_hold G x w)[r]? = some y → M2 177 (t * 4 + r) = y) := by
  refine fw_SP_of pl_X4_holdRow (ls := [_, _, _]) rfl (Nat.le_of_ble_eq_true rfl) fun hA hM => ?_
  refine fw_iload_n dX4_holdRow_0 rfl rfl ?_
  refine fw_iconst dX4_holdRow_1 ⟨by decide, by decide⟩ ?_
  refine fw_imul dX4_holdRow_2 ⟨by omega, by omega⟩ ?_
  refine fw_istore_n (ls2 := [_, _, _, _]) dX4_holdRow_3 rfl (by decide) rfl ?_
  refine fw_iconst dX4_holdRow_4 ⟨by decide, by decide⟩ ?_
  refine fw_istore (ls2 := [_, _, _, _, _]) dX4_holdRow_5 (by decide) rfl ?_
  refine fw_iconst dX4_holdRow_7 ⟨by decide, by decide⟩ ?_
  refine fw_istore (ls2 := [_, _, _, _, _, _]) dX4_holdRow_8 (by decide) rfl ?_
  exact lp_X4_holdRow t x w N G mk L hx hc hw ht hl h4 h3 (w.length + 1) 0 0 N (by omega) (by decide) (by omega) (by simp) (fun _ _ => rfl) (fun _ _ => rfl) (fun i y h => by simp at h) (fun i y _ h => hr i y h)
