set_option maxRecDepth 20000 in
set_option maxHeartbeats 4000000 in
theorem sp_X4_applyWrite (j : Nat) (ru n T : Int) (N G : fw_F) (O : Int → Int) (mk : Int → Int) (S : ab_S) (L : fw_G) (hwf : ab_wf n mk G O T) (hj : (j : Int) < T) (hti : ab_ti G O j S) (hG : cl_G N mk G) (hT : cl_T N S) (h3 : G (O j) 0 = 3) : fw_SC mX4_applyWrite [fw_r 168, fw_r (8 + 2 * O j), fw_i ru] N L (fun r M2 L2 => r = none ∧ L2 = L ∧ cl_T M2 (ab_ap G ru (O j) j S) ∧ ∀ k, k < 169 ∨ 177 < k ∨ k = 174 → M2 k = N k) := by
  refine fw_SP_of pl_X4_applyWrite (ls := [_, _, _]) rfl (Nat.le_of_ble_eq_true rfl) fun hA hM => ?_
  have hx := hwf.2.2.2.2.1 j (by omega) hj
  have hx0 := hx.1
  have hx1 := hx.2.1
  have hc := hG (O j) hx
  have hrow := hwf.2.1 (O j) hx
  have e4 := hc.1.2.2.2.1
  have ht0 := hrow.2.1.1
  have ht1 := hrow.2.1.2
  have hTt := hT (G (O j) 1) ht0 (by omega)
  have hin := hti.1 (G (O j) 1) ht0 (by omega)
  refine fw_aload_n dX4_applyWrite_0 rfl rfl ?_
  refine fw_geti 4 rfl dX4_applyWrite_1 ff_4_82 (ly_ch (by omega) (by omega) (by omega)) ⟨by omega, by omega⟩ rfl ?_
  rw [e4]
  refine fw_istore_n (ls2 := [_, _, _, _]) dX4_applyWrite_4 rfl (by decide) rfl ?_
  refine fw_aload_n dX4_applyWrite_5 rfl rfl ?_
  refine fw_getr 1 169 rfl dX4_applyWrite_6 ff_4_9 ly0_168 ⟨by decide, by decide⟩ rfl rfl (by decide) ?_
  refine fw_iload_n dX4_applyWrite_9 rfl rfl ?_
  refine fw_baload dX4_applyWrite_10 ly0_169 ⟨by decide, by decide⟩ ⟨by omega, by omega⟩ ?_
  refine fw_if_eq 24 dX4_applyWrite_11 (by decide) (fun h11 => ?_) (fun h11 => ?_)
  · skip
    refine fw_vret dX4_applyWrite_24 ⟨rfl, rfl, rfl⟩ ?_
    refine ⟨rfl, rfl, ?_, fun _ _ => rfl⟩
    rw [ab_ap_w1 h3 (by have := hTt.1; have := hTt.2.2.1; omega)]
    exact hT
  · skip
    refine fw_aload_n dX4_applyWrite_14 rfl rfl ?_
    refine fw_getr 3 171 rfl dX4_applyWrite_15 ff_4_18 ly0_168 ⟨by decide, by decide⟩ rfl rfl (by decide) ?_
    refine fw_iload_n dX4_applyWrite_18 rfl rfl ?_
    refine fw_iaload dX4_applyWrite_19 ly0_171 ⟨by decide, by decide⟩ ⟨by omega, by omega⟩ ?_
    refine fw_iconst dX4_applyWrite_20 ⟨by decide, by decide⟩ ?_
    refine fw_icmp_eq 25 dX4_applyWrite_21 (by decide) (fun h21 => ?_) (fun h21 => ?_)
    · skip
      refine fw_aload_n dX4_applyWrite_25 rfl rfl ?_
      refine fw_getr 2 170 rfl dX4_applyWrite_26 ff_4_15 ly0_168 ⟨by decide, by decide⟩ rfl rfl (by decide) ?_
      refine fw_iload_n dX4_applyWrite_29 rfl rfl ?_
      refine fw_baload dX4_applyWrite_30 ly0_170 ⟨by decide, by decide⟩ ⟨by omega, by omega⟩ ?_
      refine fw_if_ne 77 dX4_applyWrite_31 (by decide) (fun h31 => ?_) (fun h31 => ?_)
      · skip
        refine fw_aload_n dX4_applyWrite_77 rfl rfl ?_
        refine fw_iload_n dX4_applyWrite_78 rfl rfl ?_
        refine fw_aload_n dX4_applyWrite_79 rfl rfl ?_
        refine fw_cV mX4_holdRow [_, _] dX4_applyWrite_80 mv_X4_holdRow lk_4_111 ⟨⟨by decide, by decide⟩, rfl, rfl, rfl, by decide, by decide⟩ ly0_168 ⟨by decide, by decide⟩ rfl rfl (Nat.le_of_ble_eq_true rfl) (sp_X4_holdRow (G (O j) 1) (O j) (S.2 (G (O j) 1)) _ G mk L hx (cl_x_of hc (by first | rfl | simp (disch := omega) only [fw_updne]) (by first | rfl | simp (disch := omega) only [fw_updne])) (fun y hy => ⟨(ab_rows hwf (by omega) hti ht0 (by omega)).1 y hy, cl_x_of (hG y ((ab_rows hwf (by omega) hti ht0 (by omega)).1 y hy)) (by have := ((ab_rows hwf (by omega) hti ht0 (by omega)).1 y hy).1; have := ((ab_rows hwf (by omega) hti ht0 (by omega)).1 y hy).2.1; first | rfl | simp (disch := omega) only [fw_updne]) (by have := ((ab_rows hwf (by omega) hti ht0 (by omega)).1 y hy).1; have := ((ab_rows hwf (by omega) hti ht0 (by omega)).1 y hy).2.1; first | rfl | simp (disch := omega) only [fw_updne])⟩) ⟨ht0, by omega⟩ (by first | exact hTt.2.2.2.2.2.2.1 | (simp (disch := decide) only [fw_updne]; exact hTt.2.2.2.2.2.2.1)) (ab_rows hwf (by omega) hti ht0 (by omega)).2 (ab_rows3 hwf hj hti ht0 (by omega)) (by first | exact hTt.2.2.2.2.2.2.2 | (simp (disch := decide) only [fw_updne]; exact hTt.2.2.2.2.2.2.2))) (fun r M1 L1 hp hM1 => ?_)
        obtain ⟨rfl, rfl, g1, g2, g3, g4, g5⟩ := hp
        refine fw_vret dX4_applyWrite_83 ⟨rfl, rfl, rfl⟩ ?_
        have hmade : ¬ (S.1 0 (G (O j) 1) = 0 ∨ ¬ S.1 2 (G (O j) 1) = 1) := by have := hTt.1; have := hTt.2.2.1; omega
        have hlen : ∀ u, 0 ≤ u → u < 12 → (S.2 u).length ≤ 4 := fun u a b => (ab_rows hwf (by omega) hti a b).2
        refine ⟨rfl, rfl, ?_, fun k hk => ?_⟩
        · first
          | (rw [ab_ap_w4 h3 hmade (by have := hTt.2.1; omega)]; exact cl_T_hold (S := S) hT g1 g2 g3 g4 g5 hlen)
          | (rw [ab_ap_w3 h3 hmade (by have := hTt.2.1; omega) h37]
             refine cl_T_hold (S := (ab_back S.1 (G (O j) 1), S.2)) (cl_T_back hT ?_) g1 g2 g3 g4 g5 hlen
             have hf := hti.2.2.1.1.1 (G (O j) 1) ht0 (by omega)
             have hTf := hT (S.1 3 (G (O j) 1)) hf.1 hf.2
             rw [fw_updne (show ¬ (172 : Int) = 170 by decide), hTt.2.2.2.1, fw_updeq, fw_updne (show ¬ (171 : Int) = 170 by decide), hTf.2.1, hTf.2.2.1] at h63
             have e9 : ab_isF (fw_upd S.1 1 (G (O j) 1) 1) (S.1 3 (G (O j) 1)) ↔ (¬ (if S.1 3 (G (O j) 1) = G (O j) 1 then (1 : Int) else S.1 1 (S.1 3 (G (O j) 1))) = 0 ∧ S.1 2 (S.1 3 (G (O j) 1)) = 2) := by
               unfold ab_isF
               rw [fw_updeq, fw_updne (show ¬ (2 : Int) = 1 by decide)]
             first
             | (rw [if_pos (e9.mpr h63), fw_updne (show ¬ (172 : Int) = 170 by decide), hTt.2.2.2.1])
             | (rw [if_neg (fun q => h63 (e9.mp q))]))
        · rw [g1 k (by omega) (by omega)]
          try simp (disch := omega) only [fw_updne]
      · skip
        refine fw_iload_n dX4_applyWrite_34 rfl rfl ?_
        refine fw_iconst dX4_applyWrite_35 ⟨by decide, by decide⟩ ?_
        refine fw_iand dX4_applyWrite_36 ?_
        refine fw_if_ne 41 dX4_applyWrite_37 (by decide) (fun h37 => ?_) (fun h37 => ?_)
        · skip
          refine fw_aload_n dX4_applyWrite_41 rfl rfl ?_
          refine fw_getr 2 170 rfl dX4_applyWrite_42 ff_4_15 ly0_168 ⟨by decide, by decide⟩ rfl rfl (by decide) ?_
          refine fw_iload_n dX4_applyWrite_45 rfl rfl ?_
          refine fw_iconst dX4_applyWrite_46 ⟨by decide, by decide⟩ ?_
          refine fw_bastore dX4_applyWrite_47 ly0_170 (by decide) ⟨by decide, by decide⟩ ⟨by omega, by omega⟩ (by omega) ?_
          refine fw_aload_n dX4_applyWrite_48 rfl rfl ?_
          refine fw_getr 4 172 rfl dX4_applyWrite_49 ff_4_22 ly0_168 ⟨by decide, by decide⟩ rfl rfl (by decide) ?_
          refine fw_iload_n dX4_applyWrite_52 rfl rfl ?_
          refine fw_aload_n dX4_applyWrite_53 rfl rfl ?_
          refine fw_aload_n dX4_applyWrite_54 rfl rfl ?_
          refine fw_getr 4 172 rfl dX4_applyWrite_55 ff_4_22 ly0_168 ⟨by decide, by decide⟩ rfl rfl (by decide) ?_
          refine fw_iload_n dX4_applyWrite_58 rfl rfl ?_
          refine fw_iaload dX4_applyWrite_59 ly0_172 ⟨by decide, by decide⟩ ⟨by omega, by omega⟩ ?_
          refine fw_pV mX4_isFolder [_] dX4_applyWrite_60 mv_X4_isFolder lk_4_100 ⟨⟨by decide, by decide⟩, rfl, rfl, rfl, by decide, by decide⟩ ly0_168 ⟨by decide, by decide⟩ rfl rfl (Nat.le_of_ble_eq_true rfl) (sp_X4_isFolder _ _ _ (by rw [fw_updne (show ¬ (172 : Int) = 170 by decide), hTt.2.2.2.1]; exact hti.2.2.1.1.1 _ ht0 (by omega))) ?_
          refine fw_bifeq 75 dX4_applyWrite_63 (by decide) (fun h63 => ?_) (fun h63 => ?_)
          · skip
            refine fw_iconst dX4_applyWrite_75 ⟨by decide, by decide⟩ ?_
            refine fw_iastore dX4_applyWrite_76 ly0_172 (by decide) ⟨by decide, by decide⟩ ⟨by omega, by omega⟩ ?_
            refine fw_aload_n dX4_applyWrite_77 rfl rfl ?_
            refine fw_iload_n dX4_applyWrite_78 rfl rfl ?_
            refine fw_aload_n dX4_applyWrite_79 rfl rfl ?_
            refine fw_cV mX4_holdRow [_, _] dX4_applyWrite_80 mv_X4_holdRow lk_4_111 ⟨⟨by decide, by decide⟩, rfl, rfl, rfl, by decide, by decide⟩ ly0_168 ⟨by decide, by decide⟩ rfl rfl (Nat.le_of_ble_eq_true rfl) (sp_X4_holdRow (G (O j) 1) (O j) (S.2 (G (O j) 1)) _ G mk L hx (cl_x_of hc (by first | rfl | simp (disch := omega) only [fw_updne]) (by first | rfl | simp (disch := omega) only [fw_updne])) (fun y hy => ⟨(ab_rows hwf (by omega) hti ht0 (by omega)).1 y hy, cl_x_of (hG y ((ab_rows hwf (by omega) hti ht0 (by omega)).1 y hy)) (by have := ((ab_rows hwf (by omega) hti ht0 (by omega)).1 y hy).1; have := ((ab_rows hwf (by omega) hti ht0 (by omega)).1 y hy).2.1; first | rfl | simp (disch := omega) only [fw_updne]) (by have := ((ab_rows hwf (by omega) hti ht0 (by omega)).1 y hy).1; have := ((ab_rows hwf (by omega) hti ht0 (by omega)).1 y hy).2.1; first | rfl | simp (disch := omega) only [fw_updne])⟩) ⟨ht0, by omega⟩ (by first | exact hTt.2.2.2.2.2.2.1 | (simp (disch := decide) only [fw_updne]; exact hTt.2.2.2.2.2.2.1)) (ab_rows hwf (by omega) hti ht0 (by omega)).2 (ab_rows3 hwf hj hti ht0 (by omega)) (by first | exact hTt.2.2.2.2.2.2.2 | (simp (disch := decide) only [fw_updne]; exact hTt.2.2.2.2.2.2.2))) (fun r M1 L1 hp hM1 => ?_)
            obtain ⟨rfl, rfl, g1, g2, g3, g4, g5⟩ := hp
            refine fw_vret dX4_applyWrite_83 ⟨rfl, rfl, rfl⟩ ?_
            have hmade : ¬ (S.1 0 (G (O j) 1) = 0 ∨ ¬ S.1 2 (G (O j) 1) = 1) := by have := hTt.1; have := hTt.2.2.1; omega
            have hlen : ∀ u, 0 ≤ u → u < 12 → (S.2 u).length ≤ 4 := fun u a b => (ab_rows hwf (by omega) hti a b).2
            refine ⟨rfl, rfl, ?_, fun k hk => ?_⟩
            · first
              | (rw [ab_ap_w4 h3 hmade (by have := hTt.2.1; omega)]; exact cl_T_hold (S := S) hT g1 g2 g3 g4 g5 hlen)
              | (rw [ab_ap_w3 h3 hmade (by have := hTt.2.1; omega) h37]
                 refine cl_T_hold (S := (ab_back S.1 (G (O j) 1), S.2)) (cl_T_back hT ?_) g1 g2 g3 g4 g5 hlen
                 have hf := hti.2.2.1.1.1 (G (O j) 1) ht0 (by omega)
                 have hTf := hT (S.1 3 (G (O j) 1)) hf.1 hf.2
                 rw [fw_updne (show ¬ (172 : Int) = 170 by decide), hTt.2.2.2.1, fw_updeq, fw_updne (show ¬ (171 : Int) = 170 by decide), hTf.2.1, hTf.2.2.1] at h63
                 have e9 : ab_isF (fw_upd S.1 1 (G (O j) 1) 1) (S.1 3 (G (O j) 1)) ↔ (¬ (if S.1 3 (G (O j) 1) = G (O j) 1 then (1 : Int) else S.1 1 (S.1 3 (G (O j) 1))) = 0 ∧ S.1 2 (S.1 3 (G (O j) 1)) = 2) := by
                   unfold ab_isF
                   rw [fw_updeq, fw_updne (show ¬ (2 : Int) = 1 by decide)]
                 first
                 | (rw [if_pos (e9.mpr h63), fw_updne (show ¬ (172 : Int) = 170 by decide), hTt.2.2.2.1])
                 | (rw [if_neg (fun q => h63 (e9.mp q))]))
            · rw [g1 k (by omega) (by omega)]
              try simp (disch := omega) only [fw_updne]
          · skip
            refine fw_aload_n dX4_applyWrite_66 rfl rfl ?_
            refine fw_getr 4 172 rfl dX4_applyWrite_67 ff_4_22 ly0_168 ⟨by decide, by decide⟩ rfl rfl (by decide) ?_
            refine fw_iload_n dX4_applyWrite_70 rfl rfl ?_
            refine fw_iaload dX4_applyWrite_71 ly0_172 ⟨by decide, by decide⟩ ⟨by omega, by omega⟩ ?_
            refine fw_goto 76 dX4_applyWrite_72 (by decide) ?_
            refine fw_iastore dX4_applyWrite_76 ly0_172 (by decide) ⟨by decide, by decide⟩ ⟨by omega, by omega⟩ ?_
            refine fw_aload_n dX4_applyWrite_77 rfl rfl ?_
            refine fw_iload_n dX4_applyWrite_78 rfl rfl ?_
            refine fw_aload_n dX4_applyWrite_79 rfl rfl ?_
            refine fw_cV mX4_holdRow [_, _] dX4_applyWrite_80 mv_X4_holdRow lk_4_111 ⟨⟨by decide, by decide⟩, rfl, rfl, rfl, by decide, by decide⟩ ly0_168 ⟨by decide, by decide⟩ rfl rfl (Nat.le_of_ble_eq_true rfl) (sp_X4_holdRow (G (O j) 1) (O j) (S.2 (G (O j) 1)) _ G mk L hx (cl_x_of hc (by first | rfl | simp (disch := omega) only [fw_updne]) (by first | rfl | simp (disch := omega) only [fw_updne])) (fun y hy => ⟨(ab_rows hwf (by omega) hti ht0 (by omega)).1 y hy, cl_x_of (hG y ((ab_rows hwf (by omega) hti ht0 (by omega)).1 y hy)) (by have := ((ab_rows hwf (by omega) hti ht0 (by omega)).1 y hy).1; have := ((ab_rows hwf (by omega) hti ht0 (by omega)).1 y hy).2.1; first | rfl | simp (disch := omega) only [fw_updne]) (by have := ((ab_rows hwf (by omega) hti ht0 (by omega)).1 y hy).1; have := ((ab_rows hwf (by omega) hti ht0 (by omega)).1 y hy).2.1; first | rfl | simp (disch := omega) only [fw_updne])⟩) ⟨ht0, by omega⟩ (by first | exact hTt.2.2.2.2.2.2.1 | (simp (disch := decide) only [fw_updne]; exact hTt.2.2.2.2.2.2.1)) (ab_rows hwf (by omega) hti ht0 (by omega)).2 (ab_rows3 hwf hj hti ht0 (by omega)) (by first | exact hTt.2.2.2.2.2.2.2 | (simp (disch := decide) only [fw_updne]; exact hTt.2.2.2.2.2.2.2))) (fun r M1 L1 hp hM1 => ?_)
            obtain ⟨rfl, rfl, g1, g2, g3, g4, g5⟩ := hp
            refine fw_vret dX4_applyWrite_83 ⟨rfl, rfl, rfl⟩ ?_
            have hmade : ¬ (S.1 0 (G (O j) 1) = 0 ∨ ¬ S.1 2 (G (O j) 1) = 1) := by have := hTt.1; have := hTt.2.2.1; omega
            have hlen : ∀ u, 0 ≤ u → u < 12 → (S.2 u).length ≤ 4 := fun u a b => (ab_rows hwf (by omega) hti a b).2
            refine ⟨rfl, rfl, ?_, fun k hk => ?_⟩
            · first
              | (rw [ab_ap_w4 h3 hmade (by have := hTt.2.1; omega)]; exact cl_T_hold (S := S) hT g1 g2 g3 g4 g5 hlen)
              | (rw [ab_ap_w3 h3 hmade (by have := hTt.2.1; omega) h37]
                 refine cl_T_hold (S := (ab_back S.1 (G (O j) 1), S.2)) (cl_T_back hT ?_) g1 g2 g3 g4 g5 hlen
                 have hf := hti.2.2.1.1.1 (G (O j) 1) ht0 (by omega)
                 have hTf := hT (S.1 3 (G (O j) 1)) hf.1 hf.2
                 rw [fw_updne (show ¬ (172 : Int) = 170 by decide), hTt.2.2.2.1, fw_updeq, fw_updne (show ¬ (171 : Int) = 170 by decide), hTf.2.1, hTf.2.2.1] at h63
                 have e9 : ab_isF (fw_upd S.1 1 (G (O j) 1) 1) (S.1 3 (G (O j) 1)) ↔ (¬ (if S.1 3 (G (O j) 1) = G (O j) 1 then (1 : Int) else S.1 1 (S.1 3 (G (O j) 1))) = 0 ∧ S.1 2 (S.1 3 (G (O j) 1)) = 2) := by
                   unfold ab_isF
                   rw [fw_updeq, fw_updne (show ¬ (2 : Int) = 1 by decide)]
                 first
                 | (rw [if_pos (e9.mpr h63), fw_updne (show ¬ (172 : Int) = 170 by decide), hTt.2.2.2.1])
                 | (rw [if_neg (fun q => h63 (e9.mp q))]))
            · rw [g1 k (by omega) (by omega)]
              try simp (disch := omega) only [fw_updne]
        · skip
          refine fw_vret dX4_applyWrite_40 ⟨rfl, rfl, rfl⟩ ?_
          refine ⟨rfl, rfl, ?_, fun _ _ => rfl⟩
          rw [ab_ap_w2 h3 (by have := hTt.1; have := hTt.2.2.1; omega) (by have := hTt.2.1; omega) h37]
          exact hT
    · skip
      refine fw_vret dX4_applyWrite_24 ⟨rfl, rfl, rfl⟩ ?_
      refine ⟨rfl, rfl, ?_, fun _ _ => rfl⟩
      rw [ab_ap_w1 h3 (by have := hTt.1; have := hTt.2.2.1; omega)]
      exact hT

theorem cl_up {N : fw_F} {S : ab_S} (h : cl_T N S) (hac : ab_ac (S.1 3)) (g : Int) : ∀ (n : Nat) (u : Int), 0 ≤ u → u < 12 → fw_up (N 172) g n u = fw_up (S.1 3) g n u := by
  intro n
  induction n with
  | zero => intro u _ _; rfl
  | succ n ih =>
    intro u u0 u1
    rw [fw_up, fw_up, (h u u0 u1).2.2.2.1]
    split
    · rfl
    · exact ih _ (hac.1 u u0 u1).1 (hac.1 u u0 u1).2

set_option maxRecDepth 20000 in
set_option maxHeartbeats 4000000 in
theorem sp_X4_apply (j : Nat) (ru n T : Int) (N G : fw_F) (O : Int → Int) (mk : Int → Int) (S : ab_S) (L : fw_G) (hwf : ab_wf n mk G O T) (hj : (j : Int) < T) (hti : ab_ti G O j S) (hG : cl_G N mk G) (hT : cl_T N S) : fw_SC mX4_apply [fw_r 168, fw_r (8 + 2 * O j), fw_i j, fw_i ru] N L (fun r M2 L2 => r = none ∧ L2 = L ∧ cl_T M2 (ab_ap G ru (O j) j S) ∧ ∀ k, k < 169 ∨ 177 < k ∨ k = 174 → M2 k = N k) := by
  refine fw_SP_of pl_X4_apply (ls := [_, _, _, _]) rfl (Nat.le_of_ble_eq_true rfl) fun hA hM => ?_
  have hx := hwf.2.2.2.2.1 j (by omega) hj
  have hx0 := hx.1
  have hx1 := hx.2.1
  have hc := hG (O j) hx
  have hrow := hwf.2.1 (O j) hx
  have e4 := hc.1.2.2.2.1
  have ht0 := hrow.2.1.1
  have ht1 := hrow.2.1.2
  have hTt := hT (G (O j) 1) ht0 (by omega)
  have hin := hti.1 (G (O j) 1) ht0 (by omega)
  have hfold : ∀ t, 0 ≤ t → t < 12 → 0 ≤ N 172 t ∧ N 172 t < 12 := fun t a b => by rw [(hT t a b).2.2.2.1]; exact hti.2.2.1.1.1 t a b
  have e3 := hc.1.2.2.1
  have ha := hrow.1
  refine fw_aload_n dX4_apply_0 rfl rfl ?_
  refine fw_geti 3 rfl dX4_apply_1 ff_4_73 (ly_ch (by omega) (by omega) (by omega)) ⟨by omega, by omega⟩ rfl ?_
  rw [e3]
  by_cases h4 : G (O j) 0 < 0 ∨ 2 < G (O j) 0
  · refine fw_tblOut 80 dX4_apply_4 h4 (by decide) ?_
    refine fw_aload_n dX4_apply_80 rfl rfl ?_
    refine fw_aload_n dX4_apply_81 rfl rfl ?_
    refine fw_iload_n dX4_apply_82 rfl rfl ?_
    have a3 : G (O j) 0 = 3 := by omega
    refine fw_cV mX4_applyWrite [_, _] dX4_apply_83 mv_X4_applyWrite lk_4_97 ⟨⟨by decide, by decide⟩, rfl, rfl, rfl, by decide, by decide⟩ ly0_168 ⟨by decide, by decide⟩ rfl rfl (Nat.le_of_ble_eq_true rfl) (sp_X4_applyWrite j ru n T N G O mk S L hwf hj hti hG hT a3) (fun r M1 L1 hp hM1 => ?_)
    obtain ⟨rfl, rfl, g1, g2⟩ := hp
    refine fw_vret dX4_apply_86 ⟨rfl, rfl, rfl⟩ ?_
    first
    | exact ⟨rfl, rfl, g1, g2⟩
    | (refine ⟨rfl, rfl, ?_, fun k hk => ?_⟩
       · by_cases q : ¬ G (O j) 1 = 0 ∧ ¬ S.1 1 (G (O j) 1) = 0
         · rw [ab_ap_g1 h4 q]
           refine cl_T_gone hT g1 hti.2.2.1.1 (fun u a b => ?_) ⟨ht0, by omega⟩
           rw [g2 u a b, hTt.2.1]
           simp only [q, true_and, not_false_eq_true]
         · rw [ab_ap_g2 h4 q]
           rw [hTt.2.1] at g2
           have e170 : ∀ u, 0 ≤ u → u < 12 → M1 170 u = N 170 u := fun u a b => by rw [g2 u a b, if_neg (fun q2 => q q2.1)]
           intro u a b
           rw [g1 169 (by decide), g1 171 (by decide), g1 172 (by decide), g1 173 (by decide), g1 175 (by decide), g1 176 (by decide), g1 177 (by decide), e170 u a b]
           exact hT u a b
       · exact g1 k (by omega))
    | (refine ⟨rfl, rfl, ?_, fun k hk => ?_⟩
       · rw [e4, e8.1, e8.2, hc.2.1 h4, hTt.1]
         by_cases q : S.1 0 (G (O j) 1) = 0
         · rw [if_pos q, ab_ap_n1 h4 q]; exact cl_T_new hT _ _ _ _ _ ⟨hq.1, by omega⟩
         · rw [if_neg q, ab_ap_n2 h4 q]; exact hT
       · split
         · exact cl_new_fr _ _ _ _ _ _ _ hk
         · rfl)
    | (refine ⟨rfl, rfl, ?_, fun k hk => ?_⟩
       · have hmv : ab_mv S.1 (G (O j) 1) (G (O j) 2) ↔ (¬ G (O j) 1 = 0 ∧ ¬ N 170 (G (O j) 1) = 0 ∧ (¬ N 170 (G (O j) 2) = 0 ∧ N 171 (G (O j) 2) = 2) ∧ ¬ fw_up (N 172) (G (O j) 1) 12 (G (O j) 2) = G (O j) 1) := by rw [hTt.2.1, (hT (G (O j) 2) hq.1 (by omega)).2.1, (hT (G (O j) 2) hq.1 (by omega)).2.2.1, cl_up hT hti.2.2.1.1 (G (O j) 1) 12 (G (O j) 2) hq.1 (by omega)]
         rw [ab_ap_m1 h4 (hmv.mpr h53), e4, e8.2]; exact cl_T_put hT _ _ _ _
       · rw [(cl_put_v _ _ _ _ _).1 k (by omega) (by omega) (by omega)])
    | (refine ⟨rfl, rfl, ?_, fun _ _ => rfl⟩
       have hmv : ab_mv S.1 (G (O j) 1) (G (O j) 2) ↔ (¬ G (O j) 1 = 0 ∧ ¬ N 170 (G (O j) 1) = 0 ∧ (¬ N 170 (G (O j) 2) = 0 ∧ N 171 (G (O j) 2) = 2) ∧ ¬ fw_up (N 172) (G (O j) 1) 12 (G (O j) 2) = G (O j) 1) := by rw [hTt.2.1, (hT (G (O j) 2) hq.1 (by omega)).2.1, (hT (G (O j) 2) hq.1 (by omega)).2.2.1, cl_up hT hti.2.2.1.1 (G (O j) 1) 12 (G (O j) 2) hq.1 (by omega)]
       rw [ab_ap_m2 h4 (fun q => h53 (hmv.mp q))]; exact hT)
  · rcases (show G (O j) 0 = 0 ∨ G (O j) 0 = 1 ∨ G (O j) 0 = 2 by omega) with h4 | h4 | h4
    · refine fw_tblIn 32 dX4_apply_4 (by omega) (by omega) (by rw [h4]; rfl) (by decide) ?_
      refine fw_aload_n dX4_apply_32 rfl rfl ?_
      refine fw_aload_n dX4_apply_33 rfl rfl ?_
      refine fw_iload_n dX4_apply_34 rfl rfl ?_
      have hq := hrow.2.2.1 (by omega)
      have e8 := hc.2.2.1 (by omega)
      refine fw_cV mX4_applyNew [_, _] dX4_apply_35 mv_X4_applyNew lk_4_78 ⟨⟨by decide, by decide⟩, rfl, rfl, rfl, by decide, by decide⟩ ly0_168 ⟨by decide, by decide⟩ rfl rfl (Nat.le_of_ble_eq_true rfl) (sp_X4_applyNew (8 + 2 * O j) j N L (by omega) (by rw [e4]; omega) (by rw [e8.1]; omega)) (fun r M1 L1 hp hM1 => ?_)
      obtain ⟨rfl, rfl, rfl⟩ := hp
      refine fw_goto 86 dX4_apply_38 (by decide) ?_
      refine fw_vret dX4_apply_86 ⟨rfl, rfl, rfl⟩ ?_
      first
      | exact ⟨rfl, rfl, g1, g2⟩
      | (refine ⟨rfl, rfl, ?_, fun k hk => ?_⟩
         · by_cases q : ¬ G (O j) 1 = 0 ∧ ¬ S.1 1 (G (O j) 1) = 0
           · rw [ab_ap_g1 h4 q]
             refine cl_T_gone hT g1 hti.2.2.1.1 (fun u a b => ?_) ⟨ht0, by omega⟩
             rw [g2 u a b, hTt.2.1]
             simp only [q, true_and, not_false_eq_true]
           · rw [ab_ap_g2 h4 q]
             rw [hTt.2.1] at g2
             have e170 : ∀ u, 0 ≤ u → u < 12 → M1 170 u = N 170 u := fun u a b => by rw [g2 u a b, if_neg (fun q2 => q q2.1)]
             intro u a b
             rw [g1 169 (by decide), g1 171 (by decide), g1 172 (by decide), g1 173 (by decide), g1 175 (by decide), g1 176 (by decide), g1 177 (by decide), e170 u a b]
             exact hT u a b
         · exact g1 k (by omega))
      | (refine ⟨rfl, rfl, ?_, fun k hk => ?_⟩
         · rw [e4, e8.1, e8.2, hc.2.1 h4, hTt.1]
           by_cases q : S.1 0 (G (O j) 1) = 0
           · rw [if_pos q, ab_ap_n1 h4 q]; exact cl_T_new hT _ _ _ _ _ ⟨hq.1, by omega⟩
           · rw [if_neg q, ab_ap_n2 h4 q]; exact hT
         · split
           · exact cl_new_fr _ _ _ _ _ _ _ hk
           · rfl)
      | (refine ⟨rfl, rfl, ?_, fun k hk => ?_⟩
         · have hmv : ab_mv S.1 (G (O j) 1) (G (O j) 2) ↔ (¬ G (O j) 1 = 0 ∧ ¬ N 170 (G (O j) 1) = 0 ∧ (¬ N 170 (G (O j) 2) = 0 ∧ N 171 (G (O j) 2) = 2) ∧ ¬ fw_up (N 172) (G (O j) 1) 12 (G (O j) 2) = G (O j) 1) := by rw [hTt.2.1, (hT (G (O j) 2) hq.1 (by omega)).2.1, (hT (G (O j) 2) hq.1 (by omega)).2.2.1, cl_up hT hti.2.2.1.1 (G (O j) 1) 12 (G (O j) 2) hq.1 (by omega)]
           rw [ab_ap_m1 h4 (hmv.mpr h53), e4, e8.2]; exact cl_T_put hT _ _ _ _
         · rw [(cl_put_v _ _ _ _ _).1 k (by omega) (by omega) (by omega)])
      | (refine ⟨rfl, rfl, ?_, fun _ _ => rfl⟩
         have hmv : ab_mv S.1 (G (O j) 1) (G (O j) 2) ↔ (¬ G (O j) 1 = 0 ∧ ¬ N 170 (G (O j) 1) = 0 ∧ (¬ N 170 (G (O j) 2) = 0 ∧ N 171 (G (O j) 2) = 2) ∧ ¬ fw_up (N 172) (G (O j) 1) 12 (G (O j) 2) = G (O j) 1) := by rw [hTt.2.1, (hT (G (O j) 2) hq.1 (by omega)).2.1, (hT (G (O j) 2) hq.1 (by omega)).2.2.1, cl_up hT hti.2.2.1.1 (G (O j) 1) 12 (G (O j) 2) hq.1 (by omega)]
         rw [ab_ap_m2 h4 (fun q => h53 (hmv.mp q))]; exact hT)
    · refine fw_tblIn 41 dX4_apply_4 (by omega) (by omega) (by rw [h4]; rfl) (by decide) ?_
      refine fw_aload_n dX4_apply_41 rfl rfl ?_
      refine fw_aload_n dX4_apply_42 rfl rfl ?_
      refine fw_geti 4 rfl dX4_apply_43 ff_4_82 (ly_ch (by omega) (by omega) (by omega)) ⟨by omega, by omega⟩ rfl ?_
      rw [e4]
      have hq := hrow.2.2.1 (by omega)
      have e8 := hc.2.2.1 (by omega)
      refine fw_aload_n dX4_apply_46 rfl rfl ?_
      refine fw_geti 8 rfl dX4_apply_47 ff_4_85 (ly_ch (by omega) (by omega) (by omega)) ⟨by omega, by omega⟩ rfl ?_
      rw [e8.1]
      refine fw_pV mX4_mayMove [_, _] dX4_apply_50 mv_X4_mayMove lk_4_87 ⟨⟨by decide, by decide⟩, rfl, rfl, rfl, by decide, by decide⟩ ly0_168 ⟨by decide, by decide⟩ rfl rfl (Nat.le_of_ble_eq_true rfl) (sp_X4_mayMove _ _ _ _ hfold (by omega) (by omega)) ?_
      refine fw_bifeq 86 dX4_apply_53 (by decide) (fun h53 => ?_) (fun h53 => ?_)
      · skip
        refine fw_vret dX4_apply_86 ⟨rfl, rfl, rfl⟩ ?_
        first
        | exact ⟨rfl, rfl, g1, g2⟩
        | (refine ⟨rfl, rfl, ?_, fun k hk => ?_⟩
           · by_cases q : ¬ G (O j) 1 = 0 ∧ ¬ S.1 1 (G (O j) 1) = 0
             · rw [ab_ap_g1 h4 q]
               refine cl_T_gone hT g1 hti.2.2.1.1 (fun u a b => ?_) ⟨ht0, by omega⟩
               rw [g2 u a b, hTt.2.1]
               simp only [q, true_and, not_false_eq_true]
             · rw [ab_ap_g2 h4 q]
               rw [hTt.2.1] at g2
               have e170 : ∀ u, 0 ≤ u → u < 12 → M1 170 u = N 170 u := fun u a b => by rw [g2 u a b, if_neg (fun q2 => q q2.1)]
               intro u a b
               rw [g1 169 (by decide), g1 171 (by decide), g1 172 (by decide), g1 173 (by decide), g1 175 (by decide), g1 176 (by decide), g1 177 (by decide), e170 u a b]
               exact hT u a b
           · exact g1 k (by omega))
        | (refine ⟨rfl, rfl, ?_, fun k hk => ?_⟩
           · rw [e4, e8.1, e8.2, hc.2.1 h4, hTt.1]
             by_cases q : S.1 0 (G (O j) 1) = 0
             · rw [if_pos q, ab_ap_n1 h4 q]; exact cl_T_new hT _ _ _ _ _ ⟨hq.1, by omega⟩
             · rw [if_neg q, ab_ap_n2 h4 q]; exact hT
           · split
             · exact cl_new_fr _ _ _ _ _ _ _ hk
             · rfl)
        | (refine ⟨rfl, rfl, ?_, fun k hk => ?_⟩
           · have hmv : ab_mv S.1 (G (O j) 1) (G (O j) 2) ↔ (¬ G (O j) 1 = 0 ∧ ¬ N 170 (G (O j) 1) = 0 ∧ (¬ N 170 (G (O j) 2) = 0 ∧ N 171 (G (O j) 2) = 2) ∧ ¬ fw_up (N 172) (G (O j) 1) 12 (G (O j) 2) = G (O j) 1) := by rw [hTt.2.1, (hT (G (O j) 2) hq.1 (by omega)).2.1, (hT (G (O j) 2) hq.1 (by omega)).2.2.1, cl_up hT hti.2.2.1.1 (G (O j) 1) 12 (G (O j) 2) hq.1 (by omega)]
             rw [ab_ap_m1 h4 (hmv.mpr h53), e4, e8.2]; exact cl_T_put hT _ _ _ _
           · rw [(cl_put_v _ _ _ _ _).1 k (by omega) (by omega) (by omega)])
        | (refine ⟨rfl, rfl, ?_, fun _ _ => rfl⟩
           have hmv : ab_mv S.1 (G (O j) 1) (G (O j) 2) ↔ (¬ G (O j) 1 = 0 ∧ ¬ N 170 (G (O j) 1) = 0 ∧ (¬ N 170 (G (O j) 2) = 0 ∧ N 171 (G (O j) 2) = 2) ∧ ¬ fw_up (N 172) (G (O j) 1) 12 (G (O j) 2) = G (O j) 1) := by rw [hTt.2.1, (hT (G (O j) 2) hq.1 (by omega)).2.1, (hT (G (O j) 2) hq.1 (by omega)).2.2.1, cl_up hT hti.2.2.1.1 (G (O j) 1) 12 (G (O j) 2) hq.1 (by omega)]
           rw [ab_ap_m2 h4 (fun q => h53 (hmv.mp q))]; exact hT)
      · skip
        refine fw_aload_n dX4_apply_56 rfl rfl ?_
        refine fw_aload_n dX4_apply_57 rfl rfl ?_
        refine fw_aload_n dX4_apply_58 rfl rfl ?_
        refine fw_geti 8 rfl dX4_apply_59 ff_4_85 (ly_ch (by omega) (by omega) (by omega)) ⟨by omega, by omega⟩ rfl ?_
        rw [e8.1]
        refine fw_iload_n dX4_apply_62 rfl rfl ?_
        refine fw_cV mX4_put [_, _, _] dX4_apply_63 mv_X4_put lk_4_91 ⟨⟨by decide, by decide⟩, rfl, rfl, rfl, by decide, by decide⟩ ly0_168 ⟨by decide, by decide⟩ rfl rfl (Nat.le_of_ble_eq_true rfl) (sp_X4_put (8 + 2 * O j) _ _ N L (by omega) (by rw [e4]; omega)) (fun r M1 L1 hp hM1 => ?_)
        obtain ⟨rfl, rfl, rfl⟩ := hp
        refine fw_goto 86 dX4_apply_66 (by decide) ?_
        refine fw_vret dX4_apply_86 ⟨rfl, rfl, rfl⟩ ?_
        first
        | exact ⟨rfl, rfl, g1, g2⟩
        | (refine ⟨rfl, rfl, ?_, fun k hk => ?_⟩
           · by_cases q : ¬ G (O j) 1 = 0 ∧ ¬ S.1 1 (G (O j) 1) = 0
             · rw [ab_ap_g1 h4 q]
               refine cl_T_gone hT g1 hti.2.2.1.1 (fun u a b => ?_) ⟨ht0, by omega⟩
               rw [g2 u a b, hTt.2.1]
               simp only [q, true_and, not_false_eq_true]
             · rw [ab_ap_g2 h4 q]
               rw [hTt.2.1] at g2
               have e170 : ∀ u, 0 ≤ u → u < 12 → M1 170 u = N 170 u := fun u a b => by rw [g2 u a b, if_neg (fun q2 => q q2.1)]
               intro u a b
               rw [g1 169 (by decide), g1 171 (by decide), g1 172 (by decide), g1 173 (by decide), g1 175 (by decide), g1 176 (by decide), g1 177 (by decide), e170 u a b]
               exact hT u a b
           · exact g1 k (by omega))
        | (refine ⟨rfl, rfl, ?_, fun k hk => ?_⟩
           · rw [e4, e8.1, e8.2, hc.2.1 h4, hTt.1]
             by_cases q : S.1 0 (G (O j) 1) = 0
             · rw [if_pos q, ab_ap_n1 h4 q]; exact cl_T_new hT _ _ _ _ _ ⟨hq.1, by omega⟩
             · rw [if_neg q, ab_ap_n2 h4 q]; exact hT
           · split
             · exact cl_new_fr _ _ _ _ _ _ _ hk
             · rfl)
        | (refine ⟨rfl, rfl, ?_, fun k hk => ?_⟩
           · have hmv : ab_mv S.1 (G (O j) 1) (G (O j) 2) ↔ (¬ G (O j) 1 = 0 ∧ ¬ N 170 (G (O j) 1) = 0 ∧ (¬ N 170 (G (O j) 2) = 0 ∧ N 171 (G (O j) 2) = 2) ∧ ¬ fw_up (N 172) (G (O j) 1) 12 (G (O j) 2) = G (O j) 1) := by rw [hTt.2.1, (hT (G (O j) 2) hq.1 (by omega)).2.1, (hT (G (O j) 2) hq.1 (by omega)).2.2.1, cl_up hT hti.2.2.1.1 (G (O j) 1) 12 (G (O j) 2) hq.1 (by omega)]
             rw [ab_ap_m1 h4 (hmv.mpr h53), e4, e8.2]; exact cl_T_put hT _ _ _ _
           · rw [(cl_put_v _ _ _ _ _).1 k (by omega) (by omega) (by omega)])
        | (refine ⟨rfl, rfl, ?_, fun _ _ => rfl⟩
           have hmv : ab_mv S.1 (G (O j) 1) (G (O j) 2) ↔ (¬ G (O j) 1 = 0 ∧ ¬ N 170 (G (O j) 1) = 0 ∧ (¬ N 170 (G (O j) 2) = 0 ∧ N 171 (G (O j) 2) = 2) ∧ ¬ fw_up (N 172) (G (O j) 1) 12 (G (O j) 2) = G (O j) 1) := by rw [hTt.2.1, (hT (G (O j) 2) hq.1 (by omega)).2.1, (hT (G (O j) 2) hq.1 (by omega)).2.2.1, cl_up hT hti.2.2.1.1 (G (O j) 1) 12 (G (O j) 2) hq.1 (by omega)]
           rw [ab_ap_m2 h4 (fun q => h53 (hmv.mp q))]; exact hT)
    · refine fw_tblIn 69 dX4_apply_4 (by omega) (by omega) (by rw [h4]; rfl) (by decide) ?_
      refine fw_aload_n dX4_apply_69 rfl rfl ?_
      refine fw_aload_n dX4_apply_70 rfl rfl ?_
      refine fw_geti 4 rfl dX4_apply_71 ff_4_82 (ly_ch (by omega) (by omega) (by omega)) ⟨by omega, by omega⟩ rfl ?_
      rw [e4]
      refine fw_cV mX4_applyGone [_] dX4_apply_74 mv_X4_applyGone lk_4_94 ⟨⟨by decide, by decide⟩, rfl, rfl, rfl, by decide, by decide⟩ ly0_168 ⟨by decide, by decide⟩ rfl rfl (Nat.le_of_ble_eq_true rfl) (sp_X4_applyGone _ _ _ (by omega) hfold) (fun r M1 L1 hp hM1 => ?_)
      obtain ⟨rfl, rfl, g1, g2⟩ := hp
      refine fw_goto 86 dX4_apply_77 (by decide) ?_
      refine fw_vret dX4_apply_86 ⟨rfl, rfl, rfl⟩ ?_
      first
      | exact ⟨rfl, rfl, g1, g2⟩
      | (refine ⟨rfl, rfl, ?_, fun k hk => ?_⟩
         · by_cases q : ¬ G (O j) 1 = 0 ∧ ¬ S.1 1 (G (O j) 1) = 0
           · rw [ab_ap_g1 h4 q]
             refine cl_T_gone hT g1 hti.2.2.1.1 (fun u a b => ?_) ⟨ht0, by omega⟩
             rw [g2 u a b, hTt.2.1]
             simp only [q, true_and, not_false_eq_true]
           · rw [ab_ap_g2 h4 q]
             rw [hTt.2.1] at g2
             have e170 : ∀ u, 0 ≤ u → u < 12 → M1 170 u = N 170 u := fun u a b => by rw [g2 u a b, if_neg (fun q2 => q q2.1)]
             intro u a b
             rw [g1 169 (by decide), g1 171 (by decide), g1 172 (by decide), g1 173 (by decide), g1 175 (by decide), g1 176 (by decide), g1 177 (by decide), e170 u a b]
             exact hT u a b
         · exact g1 k (by omega))
      | (refine ⟨rfl, rfl, ?_, fun k hk => ?_⟩
         · rw [e4, e8.1, e8.2, hc.2.1 h4, hTt.1]
           by_cases q : S.1 0 (G (O j) 1) = 0
           · rw [if_pos q, ab_ap_n1 h4 q]; exact cl_T_new hT _ _ _ _ _ ⟨hq.1, by omega⟩
           · rw [if_neg q, ab_ap_n2 h4 q]; exact hT
         · split
           · exact cl_new_fr _ _ _ _ _ _ _ hk
           · rfl)
      | (refine ⟨rfl, rfl, ?_, fun k hk => ?_⟩
         · have hmv : ab_mv S.1 (G (O j) 1) (G (O j) 2) ↔ (¬ G (O j) 1 = 0 ∧ ¬ N 170 (G (O j) 1) = 0 ∧ (¬ N 170 (G (O j) 2) = 0 ∧ N 171 (G (O j) 2) = 2) ∧ ¬ fw_up (N 172) (G (O j) 1) 12 (G (O j) 2) = G (O j) 1) := by rw [hTt.2.1, (hT (G (O j) 2) hq.1 (by omega)).2.1, (hT (G (O j) 2) hq.1 (by omega)).2.2.1, cl_up hT hti.2.2.1.1 (G (O j) 1) 12 (G (O j) 2) hq.1 (by omega)]
           rw [ab_ap_m1 h4 (hmv.mpr h53), e4, e8.2]; exact cl_T_put hT _ _ _ _
         · rw [(cl_put_v _ _ _ _ _).1 k (by omega) (by omega) (by omega)])
      | (refine ⟨rfl, rfl, ?_, fun _ _ => rfl⟩
         have hmv : ab_mv S.1 (G (O j) 1) (G (O j) 2) ↔ (¬ G (O j) 1 = 0 ∧ ¬ N 170 (G (O j) 1) = 0 ∧ (¬ N 170 (G (O j) 2) = 0 ∧ N 171 (G (O j) 2) = 2) ∧ ¬ fw_up (N 172) (G (O j) 1) 12 (G (O j) 2) = G (O j) 1) := by rw [hTt.2.1, (hT (G (O j) 2) hq.1 (by omega)).2.1, (hT (G (O j) 2) hq.1 (by omega)).2.2.1, cl_up hT hti.2.2.1.1 (G (O j) 1) 12 (G (O j) 2) hq.1 (by omega)]
         rw [ab_ap_m2 h4 (fun q => h53 (hmv.mp q))]; exact hT)

set_option maxRecDepth 20000 in
set_option maxHeartbeats 4000000 in
theorem lp_X4_clear (N : fw_F) (L : fw_G) : ∀ (n : Nat) (t : Int) (M : fw_F), 12 - t < n → 0 ≤ t → t ≤ 12 → (∀ k, k < 169 ∨ 176 < k → M k = N k) → (∀ u, 0 ≤ u → u < t → M 169 u = 0 ∧ M 170 u = 0 ∧ M 171 u = 1 ∧ M 172 u = 0 ∧ M 173 u = 0 ∧ M 174 u = -1 ∧ M 175 u = 0 ∧ M 176 u = 0) → fw_C mX4_clear 2 [some (fw_r 168), some (fw_i t)] [] M L (fun r M2 L2 => r = none ∧ L2 = L ∧ cl_T M2 ab_T0 ∧ M2 174 0 = 0 ∧ (∀ t, 1 ≤ t → t < 12 → M2 174 t = -1) ∧ ∀ k, k < 169 ∨ 176 < k → M2 k = N k) := by
  intro n
  induction n with
  | zero => intro t M h0 h1 h2; omega
  | succ n ih =>
    intro t M h0 h1 h2 hk hu
    refine fw_iload_n dX4_clear_2 rfl rfl ?_
    refine fw_bipush dX4_clear_3 ⟨by decide, by decide⟩ (by decide) ?_
    refine fw_icmp_ge 70 dX4_clear_5 (by decide) (fun h5 => ?_) (fun h5 => ?_)
    · skip
      refine fw_aload_n dX4_clear_70 rfl rfl ?_
      refine fw_getr 1 169 rfl dX4_clear_71 ff_4_9 ly0_168 ⟨by decide, by decide⟩ rfl rfl (by decide) ?_
      refine fw_iconst dX4_clear_74 ⟨by decide, by decide⟩ ?_
      refine fw_iconst dX4_clear_75 ⟨by decide, by decide⟩ ?_
      refine fw_bastore dX4_clear_76 ly0_169 (by decide) ⟨by decide, by decide⟩ ⟨by omega, by omega⟩ (by omega) ?_
      refine fw_aload_n dX4_clear_77 rfl rfl ?_
      refine fw_getr 2 170 rfl dX4_clear_78 ff_4_15 ly0_168 ⟨by decide, by decide⟩ rfl rfl (by decide) ?_
      refine fw_iconst dX4_clear_81 ⟨by decide, by decide⟩ ?_
      refine fw_iconst dX4_clear_82 ⟨by decide, by decide⟩ ?_
      refine fw_bastore dX4_clear_83 ly0_170 (by decide) ⟨by decide, by decide⟩ ⟨by omega, by omega⟩ (by omega) ?_
      refine fw_aload_n dX4_clear_84 rfl rfl ?_
      refine fw_getr 3 171 rfl dX4_clear_85 ff_4_18 ly0_168 ⟨by decide, by decide⟩ rfl rfl (by decide) ?_
      refine fw_iconst dX4_clear_88 ⟨by decide, by decide⟩ ?_
      refine fw_iconst dX4_clear_89 ⟨by decide, by decide⟩ ?_
      refine fw_iastore dX4_clear_90 ly0_171 (by decide) ⟨by decide, by decide⟩ ⟨by omega, by omega⟩ ?_
      refine fw_aload_n dX4_clear_91 rfl rfl ?_
      refine fw_getr 6 174 rfl dX4_clear_92 ff_4_28 ly0_168 ⟨by decide, by decide⟩ rfl rfl (by decide) ?_
      refine fw_iconst dX4_clear_95 ⟨by decide, by decide⟩ ?_
      refine fw_iconst dX4_clear_96 ⟨by decide, by decide⟩ ?_
      refine fw_iastore dX4_clear_97 ly0_174 (by decide) ⟨by decide, by decide⟩ ⟨by omega, by omega⟩ ?_
      refine fw_vret dX4_clear_98 ⟨rfl, rfl, rfl⟩ ?_
      refine ⟨rfl, rfl, fun u a b => ?_, ?_, fun u a b => ?_, fun k a => ?_⟩
      · obtain ⟨q0, q1, q2, q3, q4, q5, q6, q7⟩ := hu u a (by omega)
        simp (disch := decide) only [fw_updne, fw_updeq]
        by_cases hz : u = 0
        · subst hz
          exact ⟨rfl, rfl, rfl, q3, q4, q6, q7, fun r y hy => by simp [ab_T0] at hy⟩
        · rw [if_neg hz, if_neg hz, if_neg hz, q0, q1, q2, q3, q4, q6, q7]
          refine ⟨?_, ?_, ?_, ?_, ?_, ?_, ?_, fun r y hy => by simp [ab_T0] at hy⟩ <;> simp [ab_T0, hz]
      · simp (disch := decide) only [fw_updne, fw_updeq, if_true]
      · simp (disch := decide) only [fw_updne, fw_updeq]
        rw [if_neg (by omega)]
        exact (hu u (by omega) (by omega)).2.2.2.2.2.1
      · simp (disch := omega) only [fw_updne]; exact hk k a
    · skip
      refine fw_aload_n dX4_clear_8 rfl rfl ?_
      refine fw_getr 1 169 rfl dX4_clear_9 ff_4_9 ly0_168 ⟨by decide, by decide⟩ rfl rfl (by decide) ?_
      refine fw_iload_n dX4_clear_12 rfl rfl ?_
      refine fw_iconst dX4_clear_13 ⟨by decide, by decide⟩ ?_
      refine fw_bastore dX4_clear_14 ly0_169 (by decide) ⟨by decide, by decide⟩ ⟨by omega, by omega⟩ (by omega) ?_
      refine fw_aload_n dX4_clear_15 rfl rfl ?_
      refine fw_getr 2 170 rfl dX4_clear_16 ff_4_15 ly0_168 ⟨by decide, by decide⟩ rfl rfl (by decide) ?_
      refine fw_iload_n dX4_clear_19 rfl rfl ?_
      refine fw_iconst dX4_clear_20 ⟨by decide, by decide⟩ ?_
      refine fw_bastore dX4_clear_21 ly0_170 (by decide) ⟨by decide, by decide⟩ ⟨by omega, by omega⟩ (by omega) ?_
      refine fw_aload_n dX4_clear_22 rfl rfl ?_
      refine fw_getr 3 171 rfl dX4_clear_23 ff_4_18 ly0_168 ⟨by decide, by decide⟩ rfl rfl (by decide) ?_
      refine fw_iload_n dX4_clear_26 rfl rfl ?_
      refine fw_iconst dX4_clear_27 ⟨by decide, by decide⟩ ?_
      refine fw_iastore dX4_clear_28 ly0_171 (by decide) ⟨by decide, by decide⟩ ⟨by omega, by omega⟩ ?_
      refine fw_aload_n dX4_clear_29 rfl rfl ?_
      refine fw_getr 4 172 rfl dX4_clear_30 ff_4_22 ly0_168 ⟨by decide, by decide⟩ rfl rfl (by decide) ?_
      refine fw_iload_n dX4_clear_33 rfl rfl ?_
      refine fw_iconst dX4_clear_34 ⟨by decide, by decide⟩ ?_
      refine fw_iastore dX4_clear_35 ly0_172 (by decide) ⟨by decide, by decide⟩ ⟨by omega, by omega⟩ ?_
      refine fw_aload_n dX4_clear_36 rfl rfl ?_
      refine fw_getr 5 173 rfl dX4_clear_37 ff_4_25 ly0_168 ⟨by decide, by decide⟩ rfl rfl (by decide) ?_
      refine fw_iload_n dX4_clear_40 rfl rfl ?_
      refine fw_iconst dX4_clear_41 ⟨by decide, by decide⟩ ?_
      refine fw_iastore dX4_clear_42 ly0_173 (by decide) ⟨by decide, by decide⟩ ⟨by omega, by omega⟩ ?_
      refine fw_aload_n dX4_clear_43 rfl rfl ?_
      refine fw_getr 6 174 rfl dX4_clear_44 ff_4_28 ly0_168 ⟨by decide, by decide⟩ rfl rfl (by decide) ?_
      refine fw_iload_n dX4_clear_47 rfl rfl ?_
      refine fw_iconst dX4_clear_48 ⟨by decide, by decide⟩ ?_
      refine fw_iastore dX4_clear_49 ly0_174 (by decide) ⟨by decide, by decide⟩ ⟨by omega, by omega⟩ ?_
      refine fw_aload_n dX4_clear_50 rfl rfl ?_
      refine fw_getr 7 175 rfl dX4_clear_51 ff_4_31 ly0_168 ⟨by decide, by decide⟩ rfl rfl (by decide) ?_
      refine fw_iload_n dX4_clear_54 rfl rfl ?_
      refine fw_iconst dX4_clear_55 ⟨by decide, by decide⟩ ?_
      refine fw_iastore dX4_clear_56 ly0_175 (by decide) ⟨by decide, by decide⟩ ⟨by omega, by omega⟩ ?_
      refine fw_aload_n dX4_clear_57 rfl rfl ?_
      refine fw_getr 8 176 rfl dX4_clear_58 ff_4_34 ly0_168 ⟨by decide, by decide⟩ rfl rfl (by decide) ?_
      refine fw_iload_n dX4_clear_61 rfl rfl ?_
      refine fw_iconst dX4_clear_62 ⟨by decide, by decide⟩ ?_
      refine fw_iastore dX4_clear_63 ly0_176 (by decide) ⟨by decide, by decide⟩ ⟨by omega, by omega⟩ ?_
      refine fw_iinc (ls2 := [_, _]) dX4_clear_64 rfl ⟨by omega, by omega⟩ (by decide) rfl ?_
      refine fw_goto 2 dX4_clear_67 (by decide) ?_
      refine ih (t + 1) _ (by omega) (by omega) (by omega) (fun k a => ?_) (fun u a b => ?_)
      · simp (disch := omega) only [fw_updne]; exact hk k a
      · simp (disch := decide) only [fw_updne, fw_updeq]
        by_cases hut : u = t
        · simp only [if_pos hut, and_self]
        · simp only [if_neg hut]; exact hu u a (by omega)

set_option maxRecDepth 20000 in
set_option maxHeartbeats 4000000 in
theorem sp_X4_clear (N : fw_F) (L : fw_G) : fw_SC mX4_clear [fw_r 168] N L (fun r M2 L2 => r = none ∧ L2 = L ∧ cl_T M2 ab_T0 ∧ M2 174 0 = 0 ∧ (∀ t, 1 ≤ t → t < 12 → M2 174 t = -1) ∧ ∀ k, k < 169 ∨ 176 < k → M2 k = N k) := by
  refine fw_SP_of pl_X4_clear (ls := [_]) rfl (Nat.le_of_ble_eq_true rfl) fun hA hM => ?_
  refine fw_iconst dX4_clear_0 ⟨by decide, by decide⟩ ?_
  refine fw_istore_n (ls2 := [_, _]) dX4_clear_1 rfl (by decide) rfl ?_
  exact lp_X4_clear N L 13 0 N (by decide) (by decide) (by decide) (fun _ _ => rfl) (fun u a b => by omega)
