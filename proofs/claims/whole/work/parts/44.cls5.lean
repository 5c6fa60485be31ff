set_option maxRecDepth 20000 in
set_option maxHeartbeats 4000000 in
theorem lp_X4_thingNamed (f v : Int) (M : fw_F) (L : fw_G) : ∀ (n : Nat) (t : Int), 12 - t < n → 1 ≤ t → t ≤ 12 → (∀ u, 1 ≤ u → u < t → ¬ (¬ M 170 u = 0 ∧ M 172 u = f ∧ M 174 u = v)) → fw_C mX4_thingNamed 2 [some (fw_r 168), some (fw_i f), some (fw_i v), some (fw_i t)] [] M L (fun r M2 L2 => M2 = M ∧ L2 = L ∧ ∃ q, r = some (fw_i q) ∧ ((q = -9 ∧ ∀ u, 1 ≤ u → u < 12 → ¬ (¬ M 170 u = 0 ∧ M 172 u = f ∧ M 174 u = v)) ∨ (1 ≤ q ∧ q < 12 ∧ ¬ M 170 q = 0 ∧ M 172 q = f ∧ M 174 q = v))) := by
  intro n
  induction n with
  | zero => intro t h0 h1 h2; omega
  | succ n ih =>
    intro t h0 h1 h2 hu
    refine fw_iload_n dX4_thingNamed_2 rfl rfl ?_
    refine fw_bipush dX4_thingNamed_3 ⟨by decide, by decide⟩ (by decide) ?_
    refine fw_icmp_ge 45 dX4_thingNamed_5 (by decide) (fun h5 => ?_) (fun h5 => ?_)
    · skip
      refine fw_bipush dX4_thingNamed_45 ⟨by decide, by decide⟩ (by decide) ?_
      exact fw_iret dX4_thingNamed_47 ⟨rfl, rfl, rfl⟩ (⟨rfl, rfl, -9, rfl, Or.inl ⟨rfl, fun u a b => hu u a (by omega)⟩⟩)
    · skip
      refine fw_aload_n dX4_thingNamed_8 rfl rfl ?_
      refine fw_getr 2 170 rfl dX4_thingNamed_9 ff_4_15 ly0_168 ⟨by decide, by decide⟩ rfl rfl (by decide) ?_
      refine fw_iload_n dX4_thingNamed_12 rfl rfl ?_
      refine fw_baload dX4_thingNamed_13 ly0_170 ⟨by decide, by decide⟩ ⟨by omega, by omega⟩ ?_
      refine fw_if_eq 39 dX4_thingNamed_14 (by decide) (fun h14 => ?_) (fun h14 => ?_)
      · skip
        refine fw_iinc (ls2 := [_, _, _, _]) dX4_thingNamed_39 rfl ⟨by omega, by omega⟩ (by decide) rfl ?_
        refine fw_goto 2 dX4_thingNamed_42 (by decide) ?_
        refine ih (t + 1) (by omega) (by omega) (by omega) (fun u a b q => ?_)
        by_cases hut : u = t
        · subst hut; first | exact q.1 h14 | exact h24 q.2.1 | exact h34 q.2.2
        · exact hu u a (by omega) q
      · skip
        refine fw_aload_n dX4_thingNamed_17 rfl rfl ?_
        refine fw_getr 4 172 rfl dX4_thingNamed_18 ff_4_22 ly0_168 ⟨by decide, by decide⟩ rfl rfl (by decide) ?_
        refine fw_iload_n dX4_thingNamed_21 rfl rfl ?_
        refine fw_iaload dX4_thingNamed_22 ly0_172 ⟨by decide, by decide⟩ ⟨by omega, by omega⟩ ?_
        refine fw_iload_n dX4_thingNamed_23 rfl rfl ?_
        refine fw_icmp_ne 39 dX4_thingNamed_24 (by decide) (fun h24 => ?_) (fun h24 => ?_)
        · skip
          refine fw_iinc (ls2 := [_, _, _, _]) dX4_thingNamed_39 rfl ⟨by omega, by omega⟩ (by decide) rfl ?_
          refine fw_goto 2 dX4_thingNamed_42 (by decide) ?_
          refine ih (t + 1) (by omega) (by omega) (by omega) (fun u a b q => ?_)
          by_cases hut : u = t
          · subst hut; first | exact q.1 h14 | exact h24 q.2.1 | exact h34 q.2.2
          · exact hu u a (by omega) q
        · skip
          refine fw_aload_n dX4_thingNamed_27 rfl rfl ?_
          refine fw_getr 6 174 rfl dX4_thingNamed_28 ff_4_28 ly0_168 ⟨by decide, by decide⟩ rfl rfl (by decide) ?_
          refine fw_iload_n dX4_thingNamed_31 rfl rfl ?_
          refine fw_iaload dX4_thingNamed_32 ly0_174 ⟨by decide, by decide⟩ ⟨by omega, by omega⟩ ?_
          refine fw_iload_n dX4_thingNamed_33 rfl rfl ?_
          refine fw_icmp_ne 39 dX4_thingNamed_34 (by decide) (fun h34 => ?_) (fun h34 => ?_)
          · skip
            refine fw_iinc (ls2 := [_, _, _, _]) dX4_thingNamed_39 rfl ⟨by omega, by omega⟩ (by decide) rfl ?_
            refine fw_goto 2 dX4_thingNamed_42 (by decide) ?_
            refine ih (t + 1) (by omega) (by omega) (by omega) (fun u a b q => ?_)
            by_cases hut : u = t
            · subst hut; first | exact q.1 h14 | exact h24 q.2.1 | exact h34 q.2.2
            · exact hu u a (by omega) q
          · skip
            refine fw_iload_n dX4_thingNamed_37 rfl rfl ?_
            exact fw_iret dX4_thingNamed_38 ⟨rfl, rfl, rfl⟩ (⟨rfl, rfl, t, rfl, Or.inr ⟨by omega, by omega, h14, h24, h34⟩⟩)

set_option maxRecDepth 20000 in
set_option maxHeartbeats 4000000 in
theorem sp_X4_thingNamed (f v : Int) (M : fw_F) (L : fw_G) : fw_SC mX4_thingNamed [fw_r 168, fw_i f, fw_i v] M L (fun r M2 L2 => M2 = M ∧ L2 = L ∧ ∃ q, r = some (fw_i q) ∧ ((q = -9 ∧ ∀ u, 1 ≤ u → u < 12 → ¬ (¬ M 170 u = 0 ∧ M 172 u = f ∧ M 174 u = v)) ∨ (1 ≤ q ∧ q < 12 ∧ ¬ M 170 q = 0 ∧ M 172 q = f ∧ M 174 q = v))) := by
  refine fw_SP_of pl_X4_thingNamed (ls := [_, _, _]) rfl (Nat.le_of_ble_eq_true rfl) fun hA hM => ?_
  refine fw_iconst dX4_thingNamed_0 ⟨by decide, by decide⟩ ?_
  refine fw_istore_n (ls2 := [_, _, _, _]) dX4_thingNamed_1 rfl (by decide) rfl ?_
  exact lp_X4_thingNamed f v M L 12 1 (by decide) (by decide) (by decide) (fun u a b => by omega)

set_option maxRecDepth 20000 in
set_option maxHeartbeats 4000000 in
theorem lp_X4_freeNameFor (t : Int) (M : fw_F) (L : fw_G) (h0 : 0 ≤ t ∧ t < 12) (hex : ∃ u, 1 ≤ u ∧ u < 12 ∧ ¬ M 170 u = 0 ∧ M 172 u = M 172 t ∧ M 174 u = M 173 t) : ∀ (n : Nat) (v : Int), 22 - v < n → 10 ≤ v → v ≤ 22 → (∀ w, 10 ≤ w → w < v → ∃ u, 1 ≤ u ∧ u < 12 ∧ ¬ M 170 u = 0 ∧ M 172 u = M 172 t ∧ M 174 u = w) → fw_C mX4_freeNameFor 31 [some (fw_r 168), some (fw_i t), some (fw_i v)] [] M L (fun r M2 L2 => M2 = M ∧ L2 = L ∧ ∃ v, r = some (fw_i v) ∧ ((¬ (∃ u, 1 ≤ u ∧ u < 12 ∧ ¬ M 170 u = 0 ∧ M 172 u = M 172 t ∧ M 174 u = M 173 t) → v = M 173 t) ∧ ((∃ u, 1 ≤ u ∧ u < 12 ∧ ¬ M 170 u = 0 ∧ M 172 u = M 172 t ∧ M 174 u = M 173 t) → 10 ≤ v ∧ ¬ (∃ u, 1 ≤ u ∧ u < 12 ∧ ¬ M 170 u = 0 ∧ M 172 u = M 172 t ∧ M 174 u = v) ∧ ∀ w, 10 ≤ w → w < v → ∃ u, 1 ≤ u ∧ u < 12 ∧ ¬ M 170 u = 0 ∧ M 172 u = M 172 t ∧ M 174 u = w))) := by
  intro n
  induction n with
  | zero => intro v h1 h2 h3; omega
  | succ n ih =>
    intro v h1 h2 h3 hw
    refine fw_iload_n dX4_freeNameFor_31 rfl rfl ?_
    refine fw_bipush dX4_freeNameFor_32 ⟨by decide, by decide⟩ (by decide) ?_
    refine fw_icmp_ge 59 dX4_freeNameFor_34 (by decide) (fun h34 => ?_) (fun h34 => ?_)
    · skip
      exfalso
      have := ab_names (lab := M 174) (V := v) (fun w a b => by obtain ⟨u, c1, c2, _, _, c5⟩ := hw w a b; exact ⟨u, c1, c2, c5⟩)
      omega
    · skip
      refine fw_aload_n dX4_freeNameFor_37 rfl rfl ?_
      refine fw_aload_n dX4_freeNameFor_38 rfl rfl ?_
      refine fw_getr 4 172 rfl dX4_freeNameFor_39 ff_4_22 ly0_168 ⟨by decide, by decide⟩ rfl rfl (by decide) ?_
      refine fw_iload_n dX4_freeNameFor_42 rfl rfl ?_
      refine fw_iaload dX4_freeNameFor_43 ly0_172 ⟨by decide, by decide⟩ ⟨by omega, by omega⟩ ?_
      refine fw_iload_n dX4_freeNameFor_44 rfl rfl ?_
      refine fw_cV mX4_thingNamed [_, _] dX4_freeNameFor_45 mv_X4_thingNamed lk_4_134 ⟨⟨by decide, by decide⟩, rfl, rfl, rfl, by decide, by decide⟩ ly0_168 ⟨by decide, by decide⟩ rfl rfl (Nat.le_of_ble_eq_true rfl) (sp_X4_thingNamed _ _ _ _) (fun r M1 L1 hp hM1 => ?_)
      obtain ⟨rfl, rfl, q, rfl, hq⟩ := hp
      refine fw_bipush dX4_freeNameFor_48 ⟨by decide, by decide⟩ (by decide) ?_
      refine fw_icmp_eq 59 dX4_freeNameFor_50 (by decide) (fun h50 => ?_) (fun h50 => ?_)
      · skip
        refine fw_iload_n dX4_freeNameFor_59 rfl rfl ?_
        refine fw_iret dX4_freeNameFor_60 ⟨rfl, rfl, rfl⟩ ?_
        refine ⟨rfl, rfl, v, rfl, fun q2 => absurd hex q2, fun _ => ⟨h2, ?_, hw⟩⟩
        rintro ⟨u, c1, c2, c3, c4, c5⟩
        rcases hq with hq | hq
        · exact hq.2 u c1 c2 ⟨c3, c4, c5⟩
        · omega
      · skip
        refine fw_iinc (ls2 := [_, _, _]) dX4_freeNameFor_53 rfl ⟨by omega, by omega⟩ (by decide) rfl ?_
        refine fw_goto 31 dX4_freeNameFor_56 (by decide) ?_
        refine ih (v + 1) (by omega) (by omega) (by omega) (fun w a b => ?_)
        by_cases hwv : w = v
        · subst hwv
          rcases hq with hq | ⟨c1, c2, c3, c4, c5⟩
          · exact absurd hq.1 h50
          · exact ⟨q, c1, c2, c3, c4, c5⟩
        · exact hw w a (by omega)

set_option maxRecDepth 20000 in
set_option maxHeartbeats 4000000 in
theorem sp_X4_freeNameFor (t : Int) (M : fw_F) (L : fw_G) (h0 : 0 ≤ t ∧ t < 12) : fw_SC mX4_freeNameFor [fw_r 168, fw_i t] M L (fun r M2 L2 => M2 = M ∧ L2 = L ∧ ∃ v, r = some (fw_i v) ∧ ((¬ (∃ u, 1 ≤ u ∧ u < 12 ∧ ¬ M 170 u = 0 ∧ M 172 u = M 172 t ∧ M 174 u = M 173 t) → v = M 173 t) ∧ ((∃ u, 1 ≤ u ∧ u < 12 ∧ ¬ M 170 u = 0 ∧ M 172 u = M 172 t ∧ M 174 u = M 173 t) → 10 ≤ v ∧ ¬ (∃ u, 1 ≤ u ∧ u < 12 ∧ ¬ M 170 u = 0 ∧ M 172 u = M 172 t ∧ M 174 u = v) ∧ ∀ w, 10 ≤ w → w < v → ∃ u, 1 ≤ u ∧ u < 12 ∧ ¬ M 170 u = 0 ∧ M 172 u = M 172 t ∧ M 174 u = w))) := by
  refine fw_SP_of pl_X4_freeNameFor (ls := [_, _]) rfl (Nat.le_of_ble_eq_true rfl) fun hA hM => ?_
  refine fw_aload_n dX4_freeNameFor_0 rfl rfl ?_
  refine fw_aload_n dX4_freeNameFor_1 rfl rfl ?_
  refine fw_getr 4 172 rfl dX4_freeNameFor_2 ff_4_22 ly0_168 ⟨by decide, by decide⟩ rfl rfl (by decide) ?_
  refine fw_iload_n dX4_freeNameFor_5 rfl rfl ?_
  refine fw_iaload dX4_freeNameFor_6 ly0_172 ⟨by decide, by decide⟩ ⟨by omega, by omega⟩ ?_
  refine fw_aload_n dX4_freeNameFor_7 rfl rfl ?_
  refine fw_getr 5 173 rfl dX4_freeNameFor_8 ff_4_25 ly0_168 ⟨by decide, by decide⟩ rfl rfl (by decide) ?_
  refine fw_iload_n dX4_freeNameFor_11 rfl rfl ?_
  refine fw_iaload dX4_freeNameFor_12 ly0_173 ⟨by decide, by decide⟩ ⟨by omega, by omega⟩ ?_
  refine fw_cV mX4_thingNamed [_, _] dX4_freeNameFor_13 mv_X4_thingNamed lk_4_134 ⟨⟨by decide, by decide⟩, rfl, rfl, rfl, by decide, by decide⟩ ly0_168 ⟨by decide, by decide⟩ rfl rfl (Nat.le_of_ble_eq_true rfl) (sp_X4_thingNamed _ _ _ _) (fun r M1 L1 hp hM1 => ?_)
  obtain ⟨rfl, rfl, q, rfl, hq⟩ := hp
  refine fw_bipush dX4_freeNameFor_16 ⟨by decide, by decide⟩ (by decide) ?_
  refine fw_icmp_ne 28 dX4_freeNameFor_18 (by decide) (fun h18 => ?_) (fun h18 => ?_)
  · skip
    refine fw_bipush dX4_freeNameFor_28 ⟨by decide, by decide⟩ (by decide) ?_
    refine fw_istore_n (ls2 := [_, _, _]) dX4_freeNameFor_30 rfl (by decide) rfl ?_
    have hex : ∃ u, 1 ≤ u ∧ u < 12 ∧ ¬ M1 170 u = 0 ∧ M1 172 u = M1 172 t ∧ M1 174 u = M1 173 t := by
      rcases hq with hq | ⟨c1, c2, c3, c4, c5⟩
      · omega
      · exact ⟨q, c1, c2, c3, c4, c5⟩
    exact lp_X4_freeNameFor t M1 L1 h0 hex 13 10 (by decide) (by decide) (by decide) (fun w a b => by omega)
  · skip
    refine fw_aload_n dX4_freeNameFor_21 rfl rfl ?_
    refine fw_getr 5 173 rfl dX4_freeNameFor_22 ff_4_25 ly0_168 ⟨by decide, by decide⟩ rfl rfl (by decide) ?_
    refine fw_iload_n dX4_freeNameFor_25 rfl rfl ?_
    refine fw_iaload dX4_freeNameFor_26 ly0_173 ⟨by decide, by decide⟩ ⟨by omega, by omega⟩ ?_
    refine fw_iret dX4_freeNameFor_27 ⟨rfl, rfl, rfl⟩ ?_
    rcases hq with hq | hq
    · refine ⟨rfl, rfl, _, rfl, fun _ => rfl, fun ⟨u, c1, c2, c3, c4, c5⟩ => absurd ⟨c3, c4, c5⟩ (hq.2 u c1 c2)⟩
    · omega

set_option maxRecDepth 20000 in
set_option maxHeartbeats 4000000 in
theorem lp_X4_nextUnnamed (e : Int) (M : fw_F) (L : fw_G) (he : e = 0 ∨ e = 1) : ∀ (n : Nat) (b t : Int), 12 - t < n → 1 ≤ t → t ≤ 12 → ((b = -9 ∧ ∀ k, 1 ≤ k → k < t → ¬ (¬ M 170 k = 0 ∧ M 174 k = -1)) ∨ (1 ≤ b ∧ b < t ∧ ¬ M 170 b = 0 ∧ M 174 b = -1 ∧ ∀ k, 1 ≤ k → k < t → ¬ M 170 k = 0 → M 174 k = -1 → (e = 0 ∧ M 175 k ≤ M 175 b) ∨ (e = 1 ∧ M 175 b ≤ M 175 k))) → fw_C mX4_nextUnnamed 5 [some (fw_r 168), some (fw_i e), some (fw_i b), some (fw_i t)] [] M L (fun r M2 L2 => M2 = M ∧ L2 = L ∧ ∃ b, r = some (fw_i b) ∧ ((b = -9 ∧ ∀ k, 1 ≤ k → k < 12 → ¬ (¬ M 170 k = 0 ∧ M 174 k = -1)) ∨ (1 ≤ b ∧ b < 12 ∧ ¬ M 170 b = 0 ∧ M 174 b = -1 ∧ ∀ k, 1 ≤ k → k < 12 → ¬ M 170 k = 0 → M 174 k = -1 → (e = 0 ∧ M 175 k ≤ M 175 b) ∨ (e = 1 ∧ M 175 b ≤ M 175 k)))) := by
  intro n
  induction n with
  | zero => intro b t h0 h1 h2; omega
  | succ n ih =>
    intro b t h0 h1 h2 hb
    refine fw_iload_n dX4_nextUnnamed_5 rfl rfl ?_
    refine fw_bipush dX4_nextUnnamed_6 ⟨by decide, by decide⟩ (by decide) ?_
    refine fw_icmp_ge 68 dX4_nextUnnamed_8 (by decide) (fun h8 => ?_) (fun h8 => ?_)
    · skip
      refine fw_iload_n dX4_nextUnnamed_68 rfl rfl ?_
      refine fw_iret dX4_nextUnnamed_69 ⟨rfl, rfl, rfl⟩ ?_
      rw [show t = 12 by omega] at hb
      exact ⟨rfl, rfl, b, rfl, hb⟩
    · skip
      refine fw_aload_n dX4_nextUnnamed_11 rfl rfl ?_
      refine fw_getr 2 170 rfl dX4_nextUnnamed_12 ff_4_15 ly0_168 ⟨by decide, by decide⟩ rfl rfl (by decide) ?_
      refine fw_iload_n dX4_nextUnnamed_15 rfl rfl ?_
      refine fw_baload dX4_nextUnnamed_16 ly0_170 ⟨by decide, by decide⟩ ⟨by omega, by omega⟩ ?_
      refine fw_if_eq 62 dX4_nextUnnamed_17 (by decide) (fun h17 => ?_) (fun h17 => ?_)
      · skip
        refine fw_iinc (ls2 := [_, _, _, _]) dX4_nextUnnamed_62 rfl ⟨by omega, by omega⟩ (by decide) rfl ?_
        refine fw_goto 5 dX4_nextUnnamed_65 (by decide) ?_
        first
        | (refine ih b (t + 1) (by omega) (by omega) (by omega) ?_
           rcases hb with ⟨a1, a2⟩ | ⟨a1, a2, a3, a4, a5⟩
           · refine Or.inl ⟨a1, fun k k0 k1 q => ?_⟩
             by_cases hkt : k = t
             · subst hkt; first | exact q.1 h17 | exact h27 q.2 | (exfalso; omega)
             · exact a2 k k0 (by omega) q
           · refine Or.inr ⟨a1, by omega, a3, a4, fun k k0 k1 q1 q2 => ?_⟩
             by_cases hkt : k = t
             · subst hkt; first | exact absurd h17 q1 | exact absurd q2 h27 | omega
             · exact a5 k k0 (by omega) q1 q2)
        | (refine ih t (t + 1) (by omega) (by omega) (by omega) (Or.inr ⟨by omega, by omega, h17, h27, fun k k0 k1 q1 q2 => ?_⟩)
           by_cases hkt : k = t
           · subst hkt; rcases he with he | he <;> omega
           · rcases hb with ⟨a1, a2⟩ | ⟨a1, a2, a3, a4, a5⟩
             · exact absurd ⟨q1, q2⟩ (a2 k k0 (by omega))
             · have := a5 k k0 (by omega) q1 q2
               omega)
      · skip
        refine fw_aload_n dX4_nextUnnamed_20 rfl rfl ?_
        refine fw_getr 6 174 rfl dX4_nextUnnamed_21 ff_4_28 ly0_168 ⟨by decide, by decide⟩ rfl rfl (by decide) ?_
        refine fw_iload_n dX4_nextUnnamed_24 rfl rfl ?_
        refine fw_iaload dX4_nextUnnamed_25 ly0_174 ⟨by decide, by decide⟩ ⟨by omega, by omega⟩ ?_
        refine fw_iconst dX4_nextUnnamed_26 ⟨by decide, by decide⟩ ?_
        refine fw_icmp_ne 62 dX4_nextUnnamed_27 (by decide) (fun h27 => ?_) (fun h27 => ?_)
        · skip
          refine fw_iinc (ls2 := [_, _, _, _]) dX4_nextUnnamed_62 rfl ⟨by omega, by omega⟩ (by decide) rfl ?_
          refine fw_goto 5 dX4_nextUnnamed_65 (by decide) ?_
          first
          | (refine ih b (t + 1) (by omega) (by omega) (by omega) ?_
             rcases hb with ⟨a1, a2⟩ | ⟨a1, a2, a3, a4, a5⟩
             · refine Or.inl ⟨a1, fun k k0 k1 q => ?_⟩
               by_cases hkt : k = t
               · subst hkt; first | exact q.1 h17 | exact h27 q.2 | (exfalso; omega)
               · exact a2 k k0 (by omega) q
             · refine Or.inr ⟨a1, by omega, a3, a4, fun k k0 k1 q1 q2 => ?_⟩
               by_cases hkt : k = t
               · subst hkt; first | exact absurd h17 q1 | exact absurd q2 h27 | omega
               · exact a5 k k0 (by omega) q1 q2)
          | (refine ih t (t + 1) (by omega) (by omega) (by omega) (Or.inr ⟨by omega, by omega, h17, h27, fun k k0 k1 q1 q2 => ?_⟩)
             by_cases hkt : k = t
             · subst hkt; rcases he with he | he <;> omega
             · rcases hb with ⟨a1, a2⟩ | ⟨a1, a2, a3, a4, a5⟩
               · exact absurd ⟨q1, q2⟩ (a2 k k0 (by omega))
               · have := a5 k k0 (by omega) q1 q2
                 omega)
        · skip
          refine fw_iload_n dX4_nextUnnamed_30 rfl rfl ?_
          refine fw_bipush dX4_nextUnnamed_31 ⟨by decide, by decide⟩ (by decide) ?_
          refine fw_icmp_eq 60 dX4_nextUnnamed_33 (by decide) (fun h33 => ?_) (fun h33 => ?_)
          · skip
            refine fw_iload_n dX4_nextUnnamed_60 rfl rfl ?_
            refine fw_istore_n (ls2 := [_, _, _, _]) dX4_nextUnnamed_61 rfl (by decide) rfl ?_
            refine fw_iinc (ls2 := [_, _, _, _]) dX4_nextUnnamed_62 rfl ⟨by omega, by omega⟩ (by decide) rfl ?_
            refine fw_goto 5 dX4_nextUnnamed_65 (by decide) ?_
            first
            | (refine ih b (t + 1) (by omega) (by omega) (by omega) ?_
               rcases hb with ⟨a1, a2⟩ | ⟨a1, a2, a3, a4, a5⟩
               · refine Or.inl ⟨a1, fun k k0 k1 q => ?_⟩
                 by_cases hkt : k = t
                 · subst hkt; first | exact q.1 h17 | exact h27 q.2 | (exfalso; omega)
                 · exact a2 k k0 (by omega) q
               · refine Or.inr ⟨a1, by omega, a3, a4, fun k k0 k1 q1 q2 => ?_⟩
                 by_cases hkt : k = t
                 · subst hkt; first | exact absurd h17 q1 | exact absurd q2 h27 | omega
                 · exact a5 k k0 (by omega) q1 q2)
            | (refine ih t (t + 1) (by omega) (by omega) (by omega) (Or.inr ⟨by omega, by omega, h17, h27, fun k k0 k1 q1 q2 => ?_⟩)
               by_cases hkt : k = t
               · subst hkt; rcases he with he | he <;> omega
               · rcases hb with ⟨a1, a2⟩ | ⟨a1, a2, a3, a4, a5⟩
                 · exact absurd ⟨q1, q2⟩ (a2 k k0 (by omega))
                 · have := a5 k k0 (by omega) q1 q2
                   omega)
          · skip
            refine fw_aload_n dX4_nextUnnamed_36 rfl rfl ?_
            refine fw_getr 7 175 rfl dX4_nextUnnamed_37 ff_4_31 ly0_168 ⟨by decide, by decide⟩ rfl rfl (by decide) ?_
            refine fw_iload_n dX4_nextUnnamed_40 rfl rfl ?_
            refine fw_iaload dX4_nextUnnamed_41 ly0_175 ⟨by decide, by decide⟩ ⟨by omega, by omega⟩ ?_
            refine fw_aload_n dX4_nextUnnamed_42 rfl rfl ?_
            refine fw_getr 7 175 rfl dX4_nextUnnamed_43 ff_4_31 ly0_168 ⟨by decide, by decide⟩ rfl rfl (by decide) ?_
            refine fw_iload_n dX4_nextUnnamed_46 rfl rfl ?_
            refine fw_iaload dX4_nextUnnamed_47 ly0_175 ⟨by decide, by decide⟩ (by first | exact ⟨by omega, by omega⟩ | (rcases hb with ⟨a1, a2⟩ | ⟨a1, a2, a3, a4, a5⟩ <;> exact ⟨by omega, by omega⟩)) ?_
            refine fw_icmp_ge 55 dX4_nextUnnamed_48 (by decide) (fun h48 => ?_) (fun h48 => ?_)
            · skip
              refine fw_iconst dX4_nextUnnamed_55 ⟨by decide, by decide⟩ ?_
              refine fw_iload_n dX4_nextUnnamed_56 rfl rfl ?_
              refine fw_icmp_ne 62 dX4_nextUnnamed_57 (by decide) (fun h57 => ?_) (fun h57 => ?_)
              · skip
                refine fw_iinc (ls2 := [_, _, _, _]) dX4_nextUnnamed_62 rfl ⟨by omega, by omega⟩ (by decide) rfl ?_
                refine fw_goto 5 dX4_nextUnnamed_65 (by decide) ?_
                first
                | (refine ih b (t + 1) (by omega) (by omega) (by omega) ?_
                   rcases hb with ⟨a1, a2⟩ | ⟨a1, a2, a3, a4, a5⟩
                   · refine Or.inl ⟨a1, fun k k0 k1 q => ?_⟩
                     by_cases hkt : k = t
                     · subst hkt; first | exact q.1 h17 | exact h27 q.2 | (exfalso; omega)
                     · exact a2 k k0 (by omega) q
                   · refine Or.inr ⟨a1, by omega, a3, a4, fun k k0 k1 q1 q2 => ?_⟩
                     by_cases hkt : k = t
                     · subst hkt; first | exact absurd h17 q1 | exact absurd q2 h27 | omega
                     · exact a5 k k0 (by omega) q1 q2)
                | (refine ih t (t + 1) (by omega) (by omega) (by omega) (Or.inr ⟨by omega, by omega, h17, h27, fun k k0 k1 q1 q2 => ?_⟩)
                   by_cases hkt : k = t
                   · subst hkt; rcases he with he | he <;> omega
                   · rcases hb with ⟨a1, a2⟩ | ⟨a1, a2, a3, a4, a5⟩
                     · exact absurd ⟨q1, q2⟩ (a2 k k0 (by omega))
                     · have := a5 k k0 (by omega) q1 q2
                       omega)
              · skip
                refine fw_iload_n dX4_nextUnnamed_60 rfl rfl ?_
                refine fw_istore_n (ls2 := [_, _, _, _]) dX4_nextUnnamed_61 rfl (by decide) rfl ?_
                refine fw_iinc (ls2 := [_, _, _, _]) dX4_nextUnnamed_62 rfl ⟨by omega, by omega⟩ (by decide) rfl ?_
                refine fw_goto 5 dX4_nextUnnamed_65 (by decide) ?_
                first
                | (refine ih b (t + 1) (by omega) (by omega) (by omega) ?_
                   rcases hb with ⟨a1, a2⟩ | ⟨a1, a2, a3, a4, a5⟩
                   · refine Or.inl ⟨a1, fun k k0 k1 q => ?_⟩
                     by_cases hkt : k = t
                     · subst hkt; first | exact q.1 h17 | exact h27 q.2 | (exfalso; omega)
                     · exact a2 k k0 (by omega) q
                   · refine Or.inr ⟨a1, by omega, a3, a4, fun k k0 k1 q1 q2 => ?_⟩
                     by_cases hkt : k = t
                     · subst hkt; first | exact absurd h17 q1 | exact absurd q2 h27 | omega
                     · exact a5 k k0 (by omega) q1 q2)
                | (refine ih t (t + 1) (by omega) (by omega) (by omega) (Or.inr ⟨by omega, by omega, h17, h27, fun k k0 k1 q1 q2 => ?_⟩)
                   by_cases hkt : k = t
                   · subst hkt; rcases he with he | he <;> omega
                   · rcases hb with ⟨a1, a2⟩ | ⟨a1, a2, a3, a4, a5⟩
                     · exact absurd ⟨q1, q2⟩ (a2 k k0 (by omega))
                     · have := a5 k k0 (by omega) q1 q2
                       omega)
            · skip
              refine fw_iconst dX4_nextUnnamed_51 ⟨by decide, by decide⟩ ?_
              refine fw_goto 56 dX4_nextUnnamed_52 (by decide) ?_
              refine fw_iload_n dX4_nextUnnamed_56 rfl rfl ?_
              refine fw_icmp_ne 62 dX4_nextUnnamed_57 (by decide) (fun h57 => ?_) (fun h57 => ?_)
              · skip
                refine fw_iinc (ls2 := [_, _, _, _]) dX4_nextUnnamed_62 rfl ⟨by omega, by omega⟩ (by decide) rfl ?_
                refine fw_goto 5 dX4_nextUnnamed_65 (by decide) ?_
                first
                | (refine ih b (t + 1) (by omega) (by omega) (by omega) ?_
                   rcases hb with ⟨a1, a2⟩ | ⟨a1, a2, a3, a4, a5⟩
                   · refine Or.inl ⟨a1, fun k k0 k1 q => ?_⟩
                     by_cases hkt : k = t
                     · subst hkt; first | exact q.1 h17 | exact h27 q.2 | (exfalso; omega)
                     · exact a2 k k0 (by omega) q
                   · refine Or.inr ⟨a1, by omega, a3, a4, fun k k0 k1 q1 q2 => ?_⟩
                     by_cases hkt : k = t
                     · subst hkt; first | exact absurd h17 q1 | exact absurd q2 h27 | omega
                     · exact a5 k k0 (by omega) q1 q2)
                | (refine ih t (t + 1) (by omega) (by omega) (by omega) (Or.inr ⟨by omega, by omega, h17, h27, fun k k0 k1 q1 q2 => ?_⟩)
                   by_cases hkt : k = t
                   · subst hkt; rcases he with he | he <;> omega
                   · rcases hb with ⟨a1, a2⟩ | ⟨a1, a2, a3, a4, a5⟩
                     · exact absurd ⟨q1, q2⟩ (a2 k k0 (by omega))
                     · have := a5 k k0 (by omega) q1 q2
                       omega)
              · skip
                refine fw_iload_n dX4_nextUnnamed_60 rfl rfl ?_
                refine fw_istore_n (ls2 := [_, _, _, _]) dX4_nextUnnamed_61 rfl (by decide) rfl ?_
                refine fw_iinc (ls2 := [_, _, _, _]) dX4_nextUnnamed_62 rfl ⟨by omega, by omega⟩ (by decide) rfl ?_
                refine fw_goto 5 dX4_nextUnnamed_65 (by decide) ?_
                first
                | (refine ih b (t + 1) (by omega) (by omega) (by omega) ?_
                   rcases hb with ⟨a1, a2⟩ | ⟨a1, a2, a3, a4, a5⟩
                   · refine Or.inl ⟨a1, fun k k0 k1 q => ?_⟩
                     by_cases hkt : k = t
                     · subst hkt; first | exact q.1 h17 | exact h27 q.2 | (exfalso; omega)
                     · exact a2 k k0 (by omega) q
                   · refine Or.inr ⟨a1, by omega, a3, a4, fun k k0 k1 q1 q2 => ?_⟩
                     by_cases hkt : k = t
                     · subst hkt; first | exact absurd h17 q1 | exact absurd q2 h27 | omega
                     · exact a5 k k0 (by omega) q1 q2)
                | (refine ih t (t + 1) (by omega) (by omega) (by omega) (Or.inr ⟨by omega, by omega, h17, h27, fun k k0 k1 q1 q2 => ?_⟩)
                   by_cases hkt : k = t
                   · subst hkt; rcases he with he | he <;> omega
                   · rcases hb with ⟨a1, a2⟩ | ⟨a1, a2, a3, a4, a5⟩
                     · exact absurd ⟨q1, q2⟩ (a2 k k0 (by omega))
                     · have := a5 k k0 (by omega) q1 q2
                       omega)

set_option maxRecDepth 20000 in
set_option maxHeartbeats 4000000 in
theorem sp_X4_nextUnnamed (e : Int) (M : fw_F) (L : fw_G) (he : e = 0 ∨ e = 1) : fw_SC mX4_nextUnnamed [fw_r 168, fw_i e] M L (fun r M2 L2 => M2 = M ∧ L2 = L ∧ ∃ b, r = some (fw_i b) ∧ ((b = -9 ∧ ∀ k, 1 ≤ k → k < 12 → ¬ (¬ M 170 k = 0 ∧ M 174 k = -1)) ∨ (1 ≤ b ∧ b < 12 ∧ ¬ M 170 b = 0 ∧ M 174 b = -1 ∧ ∀ k, 1 ≤ k → k < 12 → ¬ M 170 k = 0 → M 174 k = -1 → (e = 0 ∧ M 175 k ≤ M 175 b) ∨ (e = 1 ∧ M 175 b ≤ M 175 k)))) := by
  refine fw_SP_of pl_X4_nextUnnamed (ls := [_, _]) rfl (Nat.le_of_ble_eq_true rfl) fun hA hM => ?_
  refine fw_bipush dX4_nextUnnamed_0 ⟨by decide, by decide⟩ (by decide) ?_
  refine fw_istore_n (ls2 := [_, _, _]) dX4_nextUnnamed_2 rfl (by decide) rfl ?_
  refine fw_iconst dX4_nextUnnamed_3 ⟨by decide, by decide⟩ ?_
  refine fw_istore_n (ls2 := [_, _, _, _]) dX4_nextUnnamed_4 rfl (by decide) rfl ?_
  exact lp_X4_nextUnnamed e M L he 12 (-9) 1 (by decide) (by decide) (by decide) (Or.inl ⟨rfl, fun k a b => by omega⟩)
