set_option maxRecDepth 20000 in
set_option maxHeartbeats 4000000 in
theorem lp_X4_nameAll (ru : Int) (N : fw_F) (L : fw_G) (hW : ∀ t, ab_th (N 170) t → 0 ≤ N 173 t ∧ N 173 t ≤ 9) (hj : ∀ a b, ab_th (N 170) a → ab_th (N 170) b → N 175 a = N 175 b → a = b) (e : Int) (he : (e = 0 ∧ fw_and ru 2 = 0) ∨ (e = 1 ∧ ¬ fw_and ru 2 = 0)) : ∀ (n : Nat) (b dn : Int) (D : List Int) (M : fw_F), 12 - dn < n → 1 ≤ dn → dn ≤ 12 → nm_inv N M (fw_and ru 2) dn D → ((b = -9 ∧ ∀ k, 1 ≤ k → k < 12 → ¬ (¬ M 170 k = 0 ∧ M 174 k = -1)) ∨ (1 ≤ b ∧ b < 12 ∧ ¬ M 170 b = 0 ∧ M 174 b = -1 ∧ ∀ k, 1 ≤ k → k < 12 → ¬ M 170 k = 0 → M 174 k = -1 → (e = 0 ∧ M 175 k ≤ M 175 b) ∨ (e = 1 ∧ M 175 b ≤ M 175 k))) → fw_C mX4_nameAll 21 [some (fw_r 168), some (fw_i ru), some (fw_i e), some (fw_i b), some (fw_i dn)] [] M L (fun r M2 L2 => r = none ∧ L2 = L ∧ (∀ k, ¬ k = 174 → M2 k = N k) ∧ M2 174 0 = N 174 0 ∧ ab_lab (N 170) (N 172) (N 173) (N 175) (fw_and ru 2) (M2 174)) := by
  intro n
  induction n with
  | zero => intro b dn D M h0 h1 h2; omega
  | succ n ih =>
    intro b dn D M h0 h1 h2 hi hb
    refine fw_iload dX4_nameAll_21 rfl ?_
    refine fw_bipush dX4_nameAll_23 ⟨by decide, by decide⟩ (by decide) ?_
    refine fw_icmp_ge 57 dX4_nameAll_25 (by decide) (fun h25 => ?_) (fun h25 => ?_)
    · skip
      refine fw_vret dX4_nameAll_57 ⟨rfl, rfl, rfl⟩ ?_
      refine ⟨rfl, rfl, hi.1, hi.2.1, nm_end hi ?_⟩
      first | exact Or.inl (by omega) | (refine Or.inr (fun k hk q => ?_); rcases hb with ⟨a1, a2⟩ | ⟨a1, a2, a3, a4, a5⟩; exact a2 k hk.1 hk.2.1 ⟨by rw [hi.1 170 (by decide)]; exact hk.2.2, q⟩; omega)
    · skip
      refine fw_iload_n dX4_nameAll_28 rfl rfl ?_
      refine fw_bipush dX4_nameAll_29 ⟨by decide, by decide⟩ (by decide) ?_
      refine fw_icmp_eq 57 dX4_nameAll_31 (by decide) (fun h31 => ?_) (fun h31 => ?_)
      · skip
        refine fw_vret dX4_nameAll_57 ⟨rfl, rfl, rfl⟩ ?_
        refine ⟨rfl, rfl, hi.1, hi.2.1, nm_end hi ?_⟩
        first | exact Or.inl (by omega) | (refine Or.inr (fun k hk q => ?_); rcases hb with ⟨a1, a2⟩ | ⟨a1, a2, a3, a4, a5⟩; exact a2 k hk.1 hk.2.1 ⟨by rw [hi.1 170 (by decide)]; exact hk.2.2, q⟩; omega)
      · skip
        have e170 := hi.1 170 (by decide)
        have e172 := hi.1 172 (by decide)
        have e173 := hi.1 173 (by decide)
        have e175 := hi.1 175 (by decide)
        rcases hb with ⟨a1, a2⟩ | ⟨a1, a2, a3, a4, a5⟩
        · exact absurd a1 h31
        refine fw_aload_n dX4_nameAll_34 rfl rfl ?_
        refine fw_getr 6 174 rfl dX4_nameAll_35 ff_4_28 ly0_168 ⟨by decide, by decide⟩ rfl rfl (by decide) ?_
        refine fw_iload_n dX4_nameAll_38 rfl rfl ?_
        refine fw_aload_n dX4_nameAll_39 rfl rfl ?_
        refine fw_iload_n dX4_nameAll_40 rfl rfl ?_
        refine fw_cV mX4_freeNameFor [_] dX4_nameAll_41 mv_X4_freeNameFor lk_4_130 ⟨⟨by decide, by decide⟩, rfl, rfl, rfl, by decide, by decide⟩ ly0_168 ⟨by decide, by decide⟩ rfl rfl (Nat.le_of_ble_eq_true rfl) (sp_X4_freeNameFor _ _ _ (by omega)) (fun r M1 L1 hp hM1 => ?_)
        obtain ⟨rfl, rfl, v, rfl, hv1, hv2⟩ := hp
        refine fw_iastore dX4_nameAll_44 ly0_174 (by decide) ⟨by decide, by decide⟩ ⟨by omega, by omega⟩ ?_
        refine fw_aload_n dX4_nameAll_45 rfl rfl ?_
        refine fw_iload_n dX4_nameAll_46 rfl rfl ?_
        refine fw_cV mX4_nextUnnamed [_] dX4_nameAll_47 mv_X4_nextUnnamed lk_4_126 ⟨⟨by decide, by decide⟩, rfl, rfl, rfl, by decide, by decide⟩ ly0_168 ⟨by decide, by decide⟩ rfl rfl (Nat.le_of_ble_eq_true rfl) (sp_X4_nextUnnamed _ _ _ (by rcases he with h | h; exact Or.inl h.1; exact Or.inr h.1)) (fun r M1 L1 hp hM1 => ?_)
        obtain ⟨rfl, rfl, b2, rfl, hb2⟩ := hp
        refine fw_istore_n (ls2 := [_, _, _, _, _]) dX4_nameAll_50 rfl (by decide) rfl ?_
        refine fw_iinc (ls2 := [_, _, _, _, _]) dX4_nameAll_51 rfl ⟨by omega, by omega⟩ (by decide) rfl ?_
        refine fw_goto 21 dX4_nameAll_54 (by decide) ?_
        rw [e170, e172, e173] at hv1 hv2
        refine ih b2 (dn + 1) (b :: D) _ (by omega) (by omega) (by omega) (nm_step hW hj hi ⟨a1, a2, by rw [← e170]; exact a3⟩ a4 (fun k hk hk2 => ?_) hv1 hv2) hb2
        have := a5 k hk.1 hk.2.1 (by rw [e170]; exact hk.2.2) hk2
        rw [e175] at this
        clear hv1 hv2
        omega

set_option maxRecDepth 20000 in
set_option maxHeartbeats 4000000 in
theorem sp_X4_nameAll (ru : Int) (N : fw_F) (L : fw_G) (hW : ∀ t, ab_th (N 170) t → 0 ≤ N 173 t ∧ N 173 t ≤ 9) (hj : ∀ a b, ab_th (N 170) a → ab_th (N 170) b → N 175 a = N 175 b → a = b) (hu : ∀ t, 1 ≤ t → t < 12 → N 174 t = -1) : fw_SC mX4_nameAll [fw_r 168, fw_i ru] N L (fun r M2 L2 => r = none ∧ L2 = L ∧ (∀ k, ¬ k = 174 → M2 k = N k) ∧ M2 174 0 = N 174 0 ∧ ab_lab (N 170) (N 172) (N 173) (N 175) (fw_and ru 2) (M2 174)) := by
  refine fw_SP_of pl_X4_nameAll (ls := [_, _]) rfl (Nat.le_of_ble_eq_true rfl) fun hA hM => ?_
  refine fw_iload_n dX4_nameAll_0 rfl rfl ?_
  refine fw_iconst dX4_nameAll_1 ⟨by decide, by decide⟩ ?_
  refine fw_iand dX4_nameAll_2 ?_
  refine fw_if_eq 10 dX4_nameAll_3 (by decide) (fun h3 => ?_) (fun h3 => ?_)
  · skip
    refine fw_iconst dX4_nameAll_10 ⟨by decide, by decide⟩ ?_
    refine fw_istore_n (ls2 := [_, _, _]) dX4_nameAll_11 rfl (by decide) rfl ?_
    refine fw_aload_n dX4_nameAll_12 rfl rfl ?_
    refine fw_iload_n dX4_nameAll_13 rfl rfl ?_
    refine fw_cV mX4_nextUnnamed [_] dX4_nameAll_14 mv_X4_nextUnnamed lk_4_126 ⟨⟨by decide, by decide⟩, rfl, rfl, rfl, by decide, by decide⟩ ly0_168 ⟨by decide, by decide⟩ rfl rfl (Nat.le_of_ble_eq_true rfl) (sp_X4_nextUnnamed _ _ _ (by omega)) (fun r M1 L1 hp hM1 => ?_)
    obtain ⟨rfl, rfl, b, rfl, hb⟩ := hp
    refine fw_istore_n (ls2 := [_, _, _, _]) dX4_nameAll_17 rfl (by decide) rfl ?_
    refine fw_iconst dX4_nameAll_18 ⟨by decide, by decide⟩ ?_
    refine fw_istore (ls2 := [_, _, _, _, _]) dX4_nameAll_19 (by decide) rfl ?_
    exact lp_X4_nameAll ru _ _ hW hj _ (by first | exact Or.inl ⟨rfl, h3⟩ | exact Or.inr ⟨rfl, h3⟩) 12 b 1 [] _ (by decide) (by decide) (by decide) ⟨fun _ _ => rfl, rfl, List.Pairwise.nil, rfl, (fun x hx => by cases hx), (fun x hx => ⟨fun q => (by cases q), fun q => absurd (hu x hx.1 hx.2.1) q⟩), (fun x hx => by cases hx), (fun x hx => by cases hx)⟩ hb
  · skip
    refine fw_iconst dX4_nameAll_6 ⟨by decide, by decide⟩ ?_
    refine fw_goto 11 dX4_nameAll_7 (by decide) ?_
    refine fw_istore_n (ls2 := [_, _, _]) dX4_nameAll_11 rfl (by decide) rfl ?_
    refine fw_aload_n dX4_nameAll_12 rfl rfl ?_
    refine fw_iload_n dX4_nameAll_13 rfl rfl ?_
    refine fw_cV mX4_nextUnnamed [_] dX4_nameAll_14 mv_X4_nextUnnamed lk_4_126 ⟨⟨by decide, by decide⟩, rfl, rfl, rfl, by decide, by decide⟩ ly0_168 ⟨by decide, by decide⟩ rfl rfl (Nat.le_of_ble_eq_true rfl) (sp_X4_nextUnnamed _ _ _ (by omega)) (fun r M1 L1 hp hM1 => ?_)
    obtain ⟨rfl, rfl, b, rfl, hb⟩ := hp
    refine fw_istore_n (ls2 := [_, _, _, _]) dX4_nameAll_17 rfl (by decide) rfl ?_
    refine fw_iconst dX4_nameAll_18 ⟨by decide, by decide⟩ ?_
    refine fw_istore (ls2 := [_, _, _, _, _]) dX4_nameAll_19 (by decide) rfl ?_
    exact lp_X4_nameAll ru _ _ hW hj _ (by first | exact Or.inl ⟨rfl, h3⟩ | exact Or.inr ⟨rfl, h3⟩) 12 b 1 [] _ (by decide) (by decide) (by decide) ⟨fun _ _ => rfl, rfl, List.Pairwise.nil, rfl, (fun x hx => by cases hx), (fun x hx => ⟨fun q => (by cases q), fun q => absurd (hu x hx.1 hx.2.1) q⟩), (fun x hx => by cases hx), (fun x hx => by cases hx)⟩ hb

theorem cl_inj {M : fw_F} {S : ab_S} {G : fw_F} {O : Int → Int} {j : Nat} (hT : cl_T M S) (hi : ab_ti G O j S) : (∀ t, ab_th (M 170) t → 0 ≤ M 173 t ∧ M 173 t ≤ 9) ∧ (∀ a b, ab_th (M 170) a → ab_th (M 170) b → M 175 a = M 175 b → a = b) ∧ (∀ t, ab_th (M 170) t → 0 ≤ M 175 t ∧ M 175 t < j) := by
  have md : ∀ t, ab_th (M 170) t → S.1 0 t = 1 := by
    intro t ht
    have h1 := hT t (by have := ht.1; omega) ht.2.1
    have h2 := hi.1 t (by have := ht.1; omega) ht.2.1
    unfold ab_tr at h2
    have := ht.2.2
    omega
  refine ⟨fun t ht => ?_, fun a b ha hb e => ?_, fun t ht => ?_⟩
  · have h1 := hT t (by have := ht.1; omega) ht.2.1
    have h2 := hi.1 t (by have := ht.1; omega) ht.2.1
    unfold ab_tr at h2
    rw [h1.2.2.2.2.1]
    exact h2.2.2.2.2
  · have a1 := hi.2.2.2.1 a ha.1 ha.2.1 (md a ha)
    have b1 := hi.2.2.2.1 b hb.1 hb.2.1 (md b hb)
    rw [(hT a (by have := ha.1; omega) ha.2.1).2.2.2.2.2.1, (hT b (by have := hb.1; omega) hb.2.1).2.2.2.2.2.1] at e
    rw [← a1.2.2, ← b1.2.2, e]
  · have a1 := hi.2.2.2.1 t ht.1 ht.2.1 (md t ht)
    rw [(hT t (by have := ht.1; omega) ht.2.1).2.2.2.2.2.1]
    exact ⟨a1.1, a1.2.1⟩

set_option maxRecDepth 20000 in
set_option maxHeartbeats 4000000 in
theorem lp_X4_grow (m d ru n : Int) (N G : fw_F) (mk : Int → Int) (L : fw_G) (hwf : ab_wf n mk G (N 3) (N 1 6)) (hG : cl_G N mk G) (hm : 0 ≤ m ∧ m < 4) (hd : 0 ≤ d ∧ d < 30) : ∀ (q : Nat) (i : Int) (M : fw_F), N 1 6 - i < q → 0 ≤ i → i ≤ N 1 6 → (∀ k, k < 169 ∨ 177 < k → M k = N k) → M 174 0 = 0 → (∀ t, 1 ≤ t → t < 12 → M 174 t = -1) → cl_T M (ab_TT G (N 3) (fun p => N 5 ((d * 4 + m) * 4 + p)) (N 7) ru i.toNat) → fw_C mX4_grow 7 [some (fw_r 168), some (fw_i m), some (fw_i d), some (fw_i ru), some (fw_i i)] [] M L (fun r M2 L2 => r = none ∧ L2 = L ∧ (∀ k, k < 169 ∨ 177 < k → M2 k = N k) ∧ cl_T M2 (ab_TT G (N 3) (fun p => N 5 ((d * 4 + m) * 4 + p)) (N 7) ru (N 1 6).toNat) ∧ M2 174 0 = 0 ∧ ab_lab (M2 170) (M2 172) (M2 173) (M2 175) (fw_and ru 2) (M2 174)) := by
  intro q
  induction q with
  | zero => intro i M h0 h1 h2; omega
  | succ q ih =>
    intro i M h0 h1 h2 hk h5 h6 hT
    have e1 := hk 1 (by decide)
    have e3 := hk 3 (by decide)
    have e5 := hk 5 (by decide)
    have e7 := hk 7 (by decide)
    have hT80 := ab_T80 hwf
    have hti := ab_ti_TT hwf (fun p => N 5 ((d * 4 + m) * 4 + p)) (N 7) ru i.toNat (by omega)
    have hGM : cl_G M mk G := cl_G_of hG (fun k a b => hk k (by omega))
    refine fw_iload dX4_grow_7 rfl ?_
    refine fw_aload_n dX4_grow_9 rfl rfl ?_
    refine fw_getr 0 1 rfl dX4_grow_10 ff_4_40 ly0_168 ⟨by decide, by decide⟩ rfl rfl (by decide) ?_
    refine fw_geti 6 rfl dX4_grow_13 ff_4_47 ly0_1 ⟨by decide, by decide⟩ rfl ?_
    rw [e1]
    refine fw_icmp_ge 71 dX4_grow_16 (by decide) (fun h16 => ?_) (fun h16 => ?_)
    · skip
      have hI := cl_inj hT hti
      refine fw_aload_n dX4_grow_71 rfl rfl ?_
      refine fw_iload_n dX4_grow_72 rfl rfl ?_
      refine fw_cV mX4_nameAll [_] dX4_grow_73 mv_X4_nameAll lk_4_69 ⟨⟨by decide, by decide⟩, rfl, rfl, rfl, by decide, by decide⟩ ly0_168 ⟨by decide, by decide⟩ rfl rfl (Nat.le_of_ble_eq_true rfl) (sp_X4_nameAll ru M L hI.1 hI.2.1 h6) (fun r M1 L1 hp hM1 => ?_)
      obtain ⟨rfl, rfl, g1, g2, g3⟩ := hp
      refine fw_vret dX4_grow_76 ⟨rfl, rfl, rfl⟩ ?_
      rw [show i.toNat = (N 1 6).toNat by omega] at hT
      refine ⟨rfl, rfl, fun k a => (g1 k (by omega)).trans (hk k a), ?_, g2.trans h5, ?_⟩
      · intro t a b
        rw [g1 169 (by decide), g1 170 (by decide), g1 171 (by decide), g1 172 (by decide), g1 173 (by decide), g1 175 (by decide), g1 176 (by decide), g1 177 (by decide)]
        exact hT t a b
      · rw [g1 170 (by decide), g1 172 (by decide), g1 173 (by decide), g1 175 (by decide)]
        exact g3
    · skip
      have hii : ((i.toNat : Nat) : Int) = i := by omega
      have hx := hwf.2.2.2.2.1 i h1 (by omega)
      have hx0 := hx.1
      have hx1 := hx.2.1
      have hc := hGM (N 3 i) hx
      have c1 := hc.1.1
      have c2 := hc.1.2.1
      have hst : ab_TT G (N 3) (fun p => N 5 ((d * 4 + m) * 4 + p)) (N 7) ru (i + 1).toNat = if N 3 i % 20 < N 5 ((d * 4 + m) * 4 + N 3 i / 20) ∧ N 3 i % 20 < N 7 (N 3 i / 20) then ab_ap G ru (N 3 i) i (ab_TT G (N 3) (fun p => N 5 ((d * 4 + m) * 4 + p)) (N 7) ru i.toNat) else ab_TT G (N 3) (fun p => N 5 ((d * 4 + m) * 4 + p)) (N 7) ru i.toNat := by
        rw [show (i + 1).toNat = i.toNat + 1 by omega, ab_TT, hii]
      refine fw_aload_n dX4_grow_19 rfl rfl ?_
      refine fw_getr 0 1 rfl dX4_grow_20 ff_4_40 ly0_168 ⟨by decide, by decide⟩ rfl rfl (by decide) ?_
      refine fw_iload dX4_grow_23 rfl ?_
      refine fw_pV mX1_inOrder [_] dX4_grow_25 mv_X1_inOrder lk_4_53 ⟨⟨by decide, by decide⟩, rfl, rfl, rfl, by decide, by decide⟩ ly0_1 ⟨by decide, by decide⟩ rfl rfl (Nat.le_of_ble_eq_true rfl) (sp_X1_inOrder _ _ _ (by omega) (by rw [e3]; omega)) ?_
      rw [e3]
      refine fw_astore (ls2 := [_, _, _, _, _, _]) dX4_grow_28 (by decide) rfl ?_
      refine fw_aload_n dX4_grow_30 rfl rfl ?_
      refine fw_getr 0 1 rfl dX4_grow_31 ff_4_40 ly0_168 ⟨by decide, by decide⟩ rfl rfl (by decide) ?_
      refine fw_iload_n dX4_grow_34 rfl rfl ?_
      refine fw_iload_n dX4_grow_35 rfl rfl ?_
      refine fw_aload dX4_grow_36 rfl ?_
      refine fw_pV mX1_knows [_, _, _] dX4_grow_38 mv_X1_knows lk_4_57 ⟨⟨by decide, by decide⟩, rfl, rfl, rfl, by decide, by decide⟩ ly0_1 ⟨by decide, by decide⟩ rfl rfl (Nat.le_of_ble_eq_true rfl) (sp_X1_knows _ _ _ _ _ (by omega) (by omega) (by omega) (by rw [c1]; omega)) ?_
      refine fw_bifeq 65 dX4_grow_41 (by decide) (fun h41 => ?_) (fun h41 => ?_)
      · skip
        refine fw_iinc (ls2 := [_, _, _, _, _, _]) dX4_grow_65 rfl ⟨by omega, by omega⟩ (by decide) rfl ?_
        refine fw_goto 7 dX4_grow_68 (by decide) ?_
        refine fw_take 5 ?_
        rw [c1, c2, e5] at h41
        first
        | (rw [c1, c2, e7] at h53; refine ih (i + 1) _ (by omega) (by omega) (by omega) (fun k a => (g2 k (by omega)).trans (hk k a)) ((congrFun (g2 174 (by omega)) 0).trans h5) (fun t a b => (congrFun (g2 174 (by omega)) t).trans (h6 t a b)) ?_; rw [hst, if_pos ⟨h41, by omega⟩]; exact g1)
        | (refine ih (i + 1) _ (by omega) (by omega) (by omega) hk h5 h6 ?_; rw [hst, if_neg (by omega)]; exact hT)
        | (rw [c1, c2, e7] at h53; refine ih (i + 1) _ (by omega) (by omega) (by omega) hk h5 h6 ?_; rw [hst, if_neg (by omega)]; exact hT)
      · skip
        refine fw_aload_n dX4_grow_44 rfl rfl ?_
        refine fw_getr 0 1 rfl dX4_grow_45 ff_4_40 ly0_168 ⟨by decide, by decide⟩ rfl rfl (by decide) ?_
        refine fw_aload dX4_grow_48 rfl ?_
        refine fw_pV mX1_isLeftOut [_] dX4_grow_50 mv_X1_isLeftOut lk_4_61 ⟨⟨by decide, by decide⟩, rfl, rfl, rfl, by decide, by decide⟩ ly0_1 ⟨by decide, by decide⟩ rfl rfl (Nat.le_of_ble_eq_true rfl) (sp_X1_isLeftOut _ _ _ (by omega) (by rw [c1]; omega)) ?_
        refine fw_bifne 65 dX4_grow_53 (by decide) (fun h53 => ?_) (fun h53 => ?_)
        · skip
          refine fw_iinc (ls2 := [_, _, _, _, _, _]) dX4_grow_65 rfl ⟨by omega, by omega⟩ (by decide) rfl ?_
          refine fw_goto 7 dX4_grow_68 (by decide) ?_
          refine fw_take 5 ?_
          rw [c1, c2, e5] at h41
          first
          | (rw [c1, c2, e7] at h53; refine ih (i + 1) _ (by omega) (by omega) (by omega) (fun k a => (g2 k (by omega)).trans (hk k a)) ((congrFun (g2 174 (by omega)) 0).trans h5) (fun t a b => (congrFun (g2 174 (by omega)) t).trans (h6 t a b)) ?_; rw [hst, if_pos ⟨h41, by omega⟩]; exact g1)
          | (refine ih (i + 1) _ (by omega) (by omega) (by omega) hk h5 h6 ?_; rw [hst, if_neg (by omega)]; exact hT)
          | (rw [c1, c2, e7] at h53; refine ih (i + 1) _ (by omega) (by omega) (by omega) hk h5 h6 ?_; rw [hst, if_neg (by omega)]; exact hT)
        · skip
          refine fw_aload_n dX4_grow_56 rfl rfl ?_
          refine fw_aload dX4_grow_57 rfl ?_
          refine fw_iload dX4_grow_59 rfl ?_
          refine fw_iload_n dX4_grow_61 rfl rfl ?_
          refine fw_cV mX4_apply [_, _, _] dX4_grow_62 mv_X4_apply lk_4_65 ⟨⟨by decide, by decide⟩, rfl, rfl, rfl, by decide, by decide⟩ ly0_168 ⟨by decide, by decide⟩ rfl rfl (Nat.le_of_ble_eq_true rfl) (by have h9 := sp_X4_apply i.toNat ru n (N 1 6) M G (N 3) mk _ L hwf (by omega) hti hGM hT; rw [hii] at h9; exact h9) (fun r M1 L1 hp hM1 => ?_)
          obtain ⟨rfl, rfl, g1, g2⟩ := hp
          refine fw_iinc (ls2 := [_, _, _, _, _, _]) dX4_grow_65 rfl ⟨by omega, by omega⟩ (by decide) rfl ?_
          refine fw_goto 7 dX4_grow_68 (by decide) ?_
          refine fw_take 5 ?_
          rw [c1, c2, e5] at h41
          first
          | (rw [c1, c2, e7] at h53; refine ih (i + 1) _ (by omega) (by omega) (by omega) (fun k a => (g2 k (by omega)).trans (hk k a)) ((congrFun (g2 174 (by omega)) 0).trans h5) (fun t a b => (congrFun (g2 174 (by omega)) t).trans (h6 t a b)) ?_; rw [hst, if_pos ⟨h41, by omega⟩]; exact g1)
          | (refine ih (i + 1) _ (by omega) (by omega) (by omega) hk h5 h6 ?_; rw [hst, if_neg (by omega)]; exact hT)
          | (rw [c1, c2, e7] at h53; refine ih (i + 1) _ (by omega) (by omega) (by omega) hk h5 h6 ?_; rw [hst, if_neg (by omega)]; exact hT)

set_option maxRecDepth 20000 in
set_option maxHeartbeats 4000000 in
theorem sp_X4_grow (m d ru n : Int) (N G : fw_F) (mk : Int → Int) (L : fw_G) (hwf : ab_wf n mk G (N 3) (N 1 6)) (hG : cl_G N mk G) (hm : 0 ≤ m ∧ m < 4) (hd : 0 ≤ d ∧ d < 30) : fw_SC mX4_grow [fw_r 168, fw_i m, fw_i d, fw_i ru] N L (fun r M2 L2 => r = none ∧ L2 = L ∧ (∀ k, k < 169 ∨ 177 < k → M2 k = N k) ∧ cl_T M2 (ab_TT G (N 3) (fun p => N 5 ((d * 4 + m) * 4 + p)) (N 7) ru (N 1 6).toNat) ∧ M2 174 0 = 0 ∧ ab_lab (M2 170) (M2 172) (M2 173) (M2 175) (fw_and ru 2) (M2 174)) := by
  refine fw_SP_of pl_X4_grow (ls := [_, _, _, _]) rfl (Nat.le_of_ble_eq_true rfl) fun hA hM => ?_
  refine fw_aload_n dX4_grow_0 rfl rfl ?_
  refine fw_cV mX4_clear [] dX4_grow_1 mv_X4_clear lk_4_44 ⟨⟨by decide, by decide⟩, rfl, rfl, rfl, by decide, by decide⟩ ly0_168 ⟨by decide, by decide⟩ rfl rfl (Nat.le_of_ble_eq_true rfl) (sp_X4_clear _ _) (fun r M1 L1 hp hM1 => ?_)
  obtain ⟨rfl, rfl, g1, g2, g3, g4⟩ := hp
  refine fw_iconst dX4_grow_4 ⟨by decide, by decide⟩ ?_
  refine fw_istore (ls2 := [_, _, _, _, _]) dX4_grow_5 (by decide) rfl ?_
  have hT80 := ab_T80 hwf
  exact lp_X4_grow m d ru n N G mk _ hwf hG hm hd 81 0 M1 (by omega) (by decide) (by omega) (fun k a => g4 k (by omega)) g2 g3 g1
