theorem pm_at_rm {N N2 : fw_F} {K K2 : fw_G} {m i : Int} {l : List pc_P} {z : pc_P} (h : pm_at N K m l) (h0 : 0 ≤ i) (h1 : i < N 21 m) (hz : l[l.length - 1]? = some z) (h2 : N2 21 m = N 21 m - 1) (hL : ∀ j, K2 22 j = if j = 200 * m + i then K 22 (200 * m + (N 21 m - 1)) else K 22 j) (hM : ∀ j, N2 23 j = if j = 200 * m + i then N 23 (200 * m + (N 21 m - 1)) else N 23 j) : pm_at N2 K2 m (pc_rm l i.toNat z) := by
  obtain ⟨e1, e3⟩ := h
  have hz2 := e3 _ _ hz
  rw [show ((l.length - 1 : Nat) : Int) = N 21 m - 1 by omega] at hz2
  refine ⟨?_, fun j b hb => ?_⟩
  · rw [h2, e1, pc_rm_len]; omega
  · obtain ⟨c1, c2⟩ := pc_rm_get hb
    rw [hL, hM]
    rcases c2 with ⟨c2, c3⟩ | ⟨c2, c3⟩
    · rw [if_pos (by omega), if_pos (by omega), c3]; exact hz2
    · rw [if_neg (by omega), if_neg (by omega)]; exact e3 j b c3
theorem pc_no_snoc (Q D : List pc_P) (a : pc_P) : Q.filter (pc_no (D ++ [a])) = (Q.filter (pc_no D)).filter (fun b => decide (¬ b = a)) := by
  rw [List.filter_filter]
  apply List.filter_congr
  intro b _
  by_cases h1 : b ∈ D <;> by_cases h2 : b = a <;> simp [pc_no, h1, h2]
theorem pc_ne_self {l : List pc_P} {a : pc_P} (h : ¬ a ∈ l) : l.filter (fun b => decide (¬ b = a)) = l := List.filter_eq_self.mpr (fun b hb => by simp; rintro rfl; exact h hb)

set_option maxRecDepth 20000 in
set_option maxHeartbeats 4000000 in
theorem l1_X6_away (M N N1 : fw_F) (L K : fw_G) (hR : Rel M L N K) (m t : Int) (g1 : ∀ k, k < 7 ∨ 19 < k → N1 k = N k) (g2 : md_V N1 (rl_S M N m (N 0 4)) (rl_e N)) (Q : fw_P) (hgo : ∀ Nx Kx, md_fc N1 K Nx Kx → ct_at Nx Kx (rl_E N K (rl_S M N m (N 0 4)) t) → fw_D mX6_away 75 [some (fw_r 0), some (fw_i m), some (fw_i t)] [] Nx Kx Q) : ∀ (q : Nat) (k : Int) (Nx : fw_F) (Kx : fw_G), 12 - k < q → 1 ≤ k → k ≤ 12 → md_fc N1 K Nx Kx → ct_at Nx Kx (pc_all [] (pc_os (rl_of (rl_S M N m (N 0 4)) t) (rl_fs N K (rl_S M N m (N 0 4))) k.toNat)) → fw_D mX6_away 45 [some (fw_r 0), some (fw_i m), some (fw_i t), some (fw_i k)] [] Nx Kx Q := by
  intro q
  induction q with
  | zero => intro k Nx Kx h0 h1 h2; omega
  | succ q ih =>
    intro k Nx Kx h0 h1 h2 hfc hc
    refine fw_iload_n dX6_away_45 rfl rfl ?_
    refine fw_bipush dX6_away_46 ⟨by decide, by decide⟩ (by decide) ?_
    refine fw_icmp_ge 75 dX6_away_48 (by decide) (fun h48 => ?_) (fun h48 => ?_)
    · skip
      refine fw_take 3 ?_
      rw [show k.toNat = 12 by omega] at hc
      exact hgo Nx Kx hfc hc
    · skip
      have hs := pc_os_s (rl_of (rl_S M N m (N 0 4)) t) (rl_fs N K (rl_S M N m (N 0 4))) (show 0 ≤ k by omega)
      have ho := rl_E_ok (K := K) hR m (N 0 4) t k.toNat (by omega)
      have hfl := md_isFl g2.1 (rl_ti hR m (N 0 4)) (u := k) (by omega) (by omega)
      have e11 := hfc.1 11 (by decide) (by decide)
      have e12 := hfc.1 12 (by decide) (by decide)
      refine fw_iload_n dX6_away_51 rfl rfl ?_
      refine fw_iload_n dX6_away_52 rfl rfl ?_
      refine fw_icmp_eq 69 dX6_away_53 (by decide) (fun h53 => ?_) (fun h53 => ?_)
      · skip
        refine fw_iinc (ls2 := [_, _, _, _]) dX6_away_69 rfl ⟨by omega, by omega⟩ (by decide) rfl ?_
        refine fw_goto 45 dX6_away_72 (by decide) ?_
        refine ih (k + 1) _ _ (by omega) (by omega) (by omega) hfc ?_
        rw [hs, if_neg (by simp only [rl_of, decide_eq_true_eq]; exact fun z => z.1 h53), List.append_nil]; exact hc
      · skip
        refine fw_aload_n dX6_away_56 rfl rfl ?_
        refine fw_iload_n dX6_away_57 rfl rfl ?_
        refine fw_pV mX6_isFile [_] dX6_away_58 mv_X6_isFile lk_6_211 ⟨⟨by decide, by decide⟩, rfl, rfl, rfl, by decide, by decide⟩ ly1_0 ⟨by decide, by decide⟩ rfl rfl (Nat.le_of_ble_eq_true rfl) (sp_X6_isFile _ _ _ (by omega)) ?_
        rw [e11, e12]
        refine fw_bifeq 69 dX6_away_61 (by decide) (fun h61 => ?_) (fun h61 => ?_)
        · skip
          refine fw_iinc (ls2 := [_, _, _, _]) dX6_away_69 rfl ⟨by omega, by omega⟩ (by decide) rfl ?_
          refine fw_goto 45 dX6_away_72 (by decide) ?_
          refine ih (k + 1) _ _ (by omega) (by omega) (by omega) hfc ?_
          rw [hs, if_neg (by simp only [rl_of, decide_eq_true_eq]; exact fun z => h61 (hfl.mpr z.2)), List.append_nil]; exact hc
        · skip
          refine fw_aload_n dX6_away_64 rfl rfl ?_
          refine fw_iload_n dX6_away_65 rfl rfl ?_
          refine fw_cV mX6_cutsFile [_] dX6_away_66 mv_X6_cutsFile lk_6_263 ⟨⟨by decide, by decide⟩, rfl, rfl, rfl, by decide, by decide⟩ ly1_0 ⟨by decide, by decide⟩ rfl rfl (Nat.le_of_ble_eq_true rfl) (rl_cutsFile hR (t := k) (by omega) g1 g2 hfc hc ho.1 (by omega)) (fun r Nb_ Kb_ hp hNb_ => ?_)
          obtain ⟨rfl, f1, f2⟩ := hp
          rw [← pc_all_app] at f2
          refine fw_iinc (ls2 := [_, _, _, _]) dX6_away_69 rfl ⟨by omega, by omega⟩ (by decide) rfl ?_
          refine fw_goto 45 dX6_away_72 (by decide) ?_
          refine ih (k + 1) _ _ (by omega) (by omega) (by omega) f1 ?_
          rw [hs, if_pos (by simp only [rl_of, decide_eq_true_eq]; exact ⟨h53, hfl.mp h61⟩)]; exact f2

set_option maxRecDepth 20000 in
set_option maxHeartbeats 4000000 in
theorem l2_X6_away (N N1 : fw_F) (K K1 : fw_G) (m t e : Int) (hm : 0 ≤ m ∧ m < 4) (hn : 1 ≤ N1 0 2 ∧ N1 0 2 ≤ 4) (E D : List pc_P) (he : e = (E.length : Int)) (hW : ct_at N1 K1 (E ++ D)) (hWl : (E ++ D).length ≤ 704) (hok : pc_ok D) (hq : ∀ q, 0 ≤ q → q < 4 → pm_at N1 K1 q (md_pl N K q) ∧ (md_pl N K q).length ≤ 200) (Q : fw_P) (hgo : (∀ a ∈ D.filter (pc_ya (md_pl N K m)), pc_el (md_pl N K) (N1 0 2) m a) → fw_D mX6_away 167 [some (fw_r 0), some (fw_i m), some (fw_i t), some (fw_i e), some (fw_i (pc_sz (D.filter (pc_ya (md_pl N K m)))))] [] N1 K1 Q) (hno : ¬ (∀ a ∈ D.filter (pc_ya (md_pl N K m)), pc_el (md_pl N K) (N1 0 2) m a) → Q (some (fw_i (-2))) N1 K1) : ∀ (q : Nat) (i v : Int), ((E ++ D).length : Int) - i < q → e ≤ i → i ≤ ((E ++ D).length : Int) → v = pc_sz ((D.take (i - e).toNat).filter (pc_ya (md_pl N K m))) → (∀ (j : Nat) (a : pc_P), (j : Int) < i - e → D[j]? = some a → a ∈ md_pl N K m → pc_el (md_pl N K) (N1 0 2) m a) → fw_D mX6_away 91 [some (fw_r 0), some (fw_i m), some (fw_i t), some (fw_i e), some (fw_i v), some (fw_i i)] [] N1 K1 Q := by
  intro q
  induction q with
  | zero => intro i v h0 h1 h2; omega
  | succ q ih =>
    intro i v h0 h1 h2 h3 h4
    have e1 := hW.1
    have hln : (E ++ D).length = E.length + D.length := List.length_append
    refine fw_iload dX6_away_91 rfl ?_
    refine fw_aload_n dX6_away_93 rfl rfl ?_
    refine fw_geti 28 rfl dX6_away_94 ff_6_200 ly1_0 ⟨by decide, by decide⟩ rfl ?_
    refine fw_icmp_ge 167 dX6_away_97 (by decide) (fun h97 => ?_) (fun h97 => ?_)
    · skip
      refine fw_take 5 ?_
      rw [h3, show (i - e).toNat = D.length by omega, List.take_length]
      refine hgo (fun a ha => ?_)
      have h9 := List.mem_filter.mp ha
      obtain ⟨j, hj⟩ := List.getElem?_of_mem h9.1
      have := (List.getElem?_eq_some_iff.mp hj).1
      exact h4 j a (by omega) hj (by simpa [pc_ya] using h9.2)
    · skip
      obtain ⟨a, ha, a1, a2⟩ := ct_at_get hW (show 0 ≤ i by omega) (by omega)
      rw [List.getElem?_append_right (by omega), show i.toNat - E.length = (i - e).toNat by omega] at ha
      have hs : (D.take (i + 1 - e).toNat).filter (pc_ya (md_pl N K m)) = (D.take (i - e).toNat).filter (pc_ya (md_pl N K m)) ++ [a].filter (pc_ya (md_pl N K m)) := by
        rw [show (i + 1 - e).toNat = (i - e).toNat + 1 by omega, List.take_add_one, ha, List.filter_append]; rfl
      have hf := pc_sz_len (l := (D.take (i - e).toNat).filter (pc_ya (md_pl N K m))) (fun b hb => hok b (List.mem_of_mem_take (List.mem_filter.mp hb).1))
      have hf2 := List.length_filter_le (pc_ya (md_pl N K m)) (D.take (i - e).toNat)
      rw [List.length_take] at hf2
      have hm2 := hok a (List.mem_of_getElem? ha)
      refine fw_aload_n dX6_away_100 rfl rfl ?_
      refine fw_iload_n dX6_away_101 rfl rfl ?_
      refine fw_aload_n dX6_away_102 rfl rfl ?_
      refine fw_getr 29 24 rfl dX6_away_103 ff_6_85 ly1_0 ⟨by decide, by decide⟩ rfl rfl (by decide) ?_
      refine fw_iload dX6_away_106 rfl ?_
      refine fw_laload dX6_away_108 ly1_24 ⟨by decide, by decide⟩ ⟨by omega, by omega⟩ ?_
      refine fw_aload_n dX6_away_109 rfl rfl ?_
      refine fw_getr 30 25 rfl dX6_away_110 ff_6_88 ly1_0 ⟨by decide, by decide⟩ rfl rfl (by decide) ?_
      refine fw_iload dX6_away_113 rfl ?_
      refine fw_iaload dX6_away_115 ly1_25 ⟨by decide, by decide⟩ ⟨by omega, by omega⟩ ?_
      refine fw_cV mX6_pieceAt [_, _, _] dX6_away_116 mv_X6_pieceAt lk_6_203 ⟨⟨by decide, by decide⟩, rfl, rfl, rfl, by decide, by decide⟩ ly1_0 ⟨by decide, by decide⟩ rfl rfl (Nat.le_of_ble_eq_true rfl) (sp_X6_pieceAt m hm (md_pl N K m) N1 K1 (hq m hm.1 hm.2).1 (hq m hm.1 hm.2).2 _ _) (fun r M1 L1 hp hM1 => ?_)
      obtain ⟨hM9, hL9, z, rfl, hz⟩ := hp
      rw [hM9, hL9]
      have hmz : z = -9 ↔ ¬ a ∈ md_pl N K m := by
        rw [show (K1 24 i, N1 25 i) = a from Prod.ext a1 a2] at hz
        rcases hz with hz | hz
        · exact ⟨fun _ => hz.2, fun _ => hz.1⟩
        · exact ⟨fun q => by omega, fun q => absurd (List.mem_of_getElem? hz.2) q⟩
      refine fw_bipush dX6_away_119 ⟨by decide, by decide⟩ (by decide) ?_
      refine fw_icmp_eq 161 dX6_away_121 (by decide) (fun h121 => ?_) (fun h121 => ?_)
      · skip
        refine fw_iinc (ls2 := [_, _, _, _, _, _]) dX6_away_161 rfl ⟨by omega, by omega⟩ (by decide) rfl ?_
        refine fw_goto 91 dX6_away_164 (by decide) ?_
        refine ih (i + 1) _ (by omega) (by omega) (by omega) ?_ (fun j b hj hb hx => ?_)
        · rw [hs, List.filter_cons_of_neg (by simp [pc_ya]; exact hmz.mp h121), List.filter_nil, List.append_nil]; exact h3
        · rcases (show (j : Int) < i - e ∨ j = (i - e).toNat by omega) with hji | hji
          · exact h4 j b hji hb hx
          · rw [hji, ha] at hb; injection hb with hb; subst hb
            exact absurd hx (hmz.mp h121)
      · skip
        refine fw_aload_n dX6_away_124 rfl rfl ?_
        refine fw_iload_n dX6_away_125 rfl rfl ?_
        refine fw_aload_n dX6_away_126 rfl rfl ?_
        refine fw_getr 29 24 rfl dX6_away_127 ff_6_85 ly1_0 ⟨by decide, by decide⟩ rfl rfl (by decide) ?_
        refine fw_iload dX6_away_130 rfl ?_
        refine fw_laload dX6_away_132 ly1_24 ⟨by decide, by decide⟩ ⟨by omega, by omega⟩ ?_
        refine fw_aload_n dX6_away_133 rfl rfl ?_
        refine fw_getr 30 25 rfl dX6_away_134 ff_6_88 ly1_0 ⟨by decide, by decide⟩ rfl rfl (by decide) ?_
        refine fw_iload dX6_away_137 rfl ?_
        refine fw_iaload dX6_away_139 ly1_25 ⟨by decide, by decide⟩ ⟨by omega, by omega⟩ ?_
        refine fw_cV mX6_isElsewhere [_, _, _] dX6_away_140 mv_X6_isElsewhere lk_6_266 ⟨⟨by decide, by decide⟩, rfl, rfl, rfl, by decide, by decide⟩ ly1_0 ⟨by decide, by decide⟩ rfl rfl (Nat.le_of_ble_eq_true rfl) (sp_X6_isElsewhere (md_pl N K) N1 K1 hq m hn _ _) (fun r M1 L1 hp hM1 => ?_)
        obtain ⟨hM9, hL9, y, rfl, hy1, hy2⟩ := hp
        rw [hM9, hL9]
        rw [show (K1 24 i, N1 25 i) = a from Prod.ext a1 a2] at hy2
        refine fw_if_ne 149 dX6_away_143 (by decide) (fun h143 => ?_) (fun h143 => ?_)
        · skip
          refine fw_iload dX6_away_149 rfl ?_
          refine fw_aload_n dX6_away_151 rfl rfl ?_
          refine fw_getr 30 25 rfl dX6_away_152 ff_6_88 ly1_0 ⟨by decide, by decide⟩ rfl rfl (by decide) ?_
          refine fw_iload dX6_away_155 rfl ?_
          refine fw_iaload dX6_away_157 ly1_25 ⟨by decide, by decide⟩ ⟨by omega, by omega⟩ ?_
          refine fw_iadd dX6_away_158 ⟨by omega, by omega⟩ ?_
          refine fw_istore (ls2 := [_, _, _, _, _, _]) dX6_away_159 (by decide) rfl ?_
          refine fw_iinc (ls2 := [_, _, _, _, _, _]) dX6_away_161 rfl ⟨by omega, by omega⟩ (by decide) rfl ?_
          refine fw_goto 91 dX6_away_164 (by decide) ?_
          refine ih (i + 1) _ (by omega) (by omega) (by omega) ?_ (fun j b hj hb hx => ?_)
          · rw [hs, List.filter_cons_of_pos (by simp [pc_ya]; exact Classical.byContradiction fun q => h121 (hmz.mpr q)), List.filter_nil, pc_sz_app, a2, h3]; simp [pc_sz]
          · rcases (show (j : Int) < i - e ∨ j = (i - e).toNat by omega) with hji | hji
            · exact h4 j b hji hb hx
            · rw [hji, ha] at hb; injection hb with hb; subst hb
              exact hy2.mp (by omega)
        · skip
          refine fw_bipush dX6_away_146 ⟨by decide, by decide⟩ (by decide) ?_
          refine fw_iret dX6_away_148 ⟨rfl, rfl, rfl⟩ ?_
          refine hno (fun h => ?_)
          have h9 := hy2.mpr (h a (List.mem_filter.mpr ⟨List.mem_of_getElem? ha, by simp [pc_ya]; exact Classical.byContradiction fun q => h121 (hmz.mpr q)⟩))
          omega

set_option maxRecDepth 20000 in
set_option maxHeartbeats 4000000 in
theorem l3_X6_away (N N1 : fw_F) (K K1 : fw_G) (m t e : Int) (hm : 0 ≤ m ∧ m < 4) (hn : 1 ≤ N1 0 2 ∧ N1 0 2 ≤ 4) (E D : List pc_P) (he : e = (E.length : Int)) (hW : ct_at N1 K1 (E ++ D)) (hWl : (E ++ D).length ≤ 704) (hok : pc_ok D) (hq : ∀ q, 0 ≤ q → q < 4 → pm_at N1 K1 q (md_pl N K q) ∧ (md_pl N K q).length ≤ 200) (Q : fw_P) (hnd : (md_pl N K m).Nodup) (v : Int) (hgo : ∀ N9 K9 l, l.Perm ((md_pl N K m).filter (pc_no D)) → pm_at N9 K9 m l → ((∀ k, ¬ k = 21 → ¬ k = 23 → N9 k = N1 k) ∧ (∀ k, ¬ k = 22 → K9 k = K1 k) ∧ (∀ u, ¬ u = m → N9 21 u = N1 21 u) ∧ (∀ j, j < 200 * m ∨ 200 * m + 200 ≤ j → K9 22 j = K1 22 j ∧ N9 23 j = N1 23 j)) → Q (some (fw_i v)) N9 K9) : ∀ (q : Nat) (i : Int) (N9 : fw_F) (K9 : fw_G) (l : List pc_P), ((E ++ D).length : Int) - i < q → e ≤ i → i ≤ ((E ++ D).length : Int) → l.Perm ((md_pl N K m).filter (pc_no (D.take (i - e).toNat))) → pm_at N9 K9 m l → ((∀ k, ¬ k = 21 → ¬ k = 23 → N9 k = N1 k) ∧ (∀ k, ¬ k = 22 → K9 k = K1 k) ∧ (∀ u, ¬ u = m → N9 21 u = N1 21 u) ∧ (∀ j, j < 200 * m ∨ 200 * m + 200 ≤ j → K9 22 j = K1 22 j ∧ N9 23 j = N1 23 j)) → fw_D mX6_away 170 [some (fw_r 0), some (fw_i m), some (fw_i t), some (fw_i e), some (fw_i v), some (fw_i i)] [] N9 K9 Q := by
  intro q
  induction q with
  | zero => intro i N9 K9 l h0 h1 h2; omega
  | succ q ih =>
    intro i N9 K9 l h0 h1 h2 hpl hl hf
    obtain ⟨f1, f2, f3, f4⟩ := hf
    have hW9 := ct_at_fr (M := N9) (L := K9) hW (by rw [f1 0 (by decide) (by decide)]) (f1 25 (by decide) (by decide)) (f2 24 (by decide))
    have e1 := hW9.1
    have hln : (E ++ D).length = E.length + D.length := List.length_append
    have hll : l.length ≤ 200 := by rw [hpl.length_eq]; exact Nat.le_trans (List.length_filter_le _ _) (hq m hm.1 hm.2).2
    have e2 := hl.1
    refine fw_iload dX6_away_170 rfl ?_
    refine fw_aload_n dX6_away_172 rfl rfl ?_
    refine fw_geti 28 rfl dX6_away_173 ff_6_200 ly1_0 ⟨by decide, by decide⟩ rfl ?_
    refine fw_icmp_ge 283 dX6_away_176 (by decide) (fun h176 => ?_) (fun h176 => ?_)
    · skip
      refine fw_iload dX6_away_283 rfl ?_
      refine fw_iret dX6_away_285 ⟨rfl, rfl, rfl⟩ ?_
      rw [show (i - e).toNat = D.length by omega, List.take_length] at hpl
      exact hgo N9 K9 l hpl hl ⟨f1, f2, f3, f4⟩
    · skip
      obtain ⟨a, ha, a1, a2⟩ := ct_at_get hW9 (show 0 ≤ i by omega) (by omega)
      rw [List.getElem?_append_right (by omega), show i.toNat - E.length = (i - e).toNat by omega] at ha
      have hs : (md_pl N K m).filter (pc_no (D.take (i + 1 - e).toNat)) = ((md_pl N K m).filter (pc_no (D.take (i - e).toNat))).filter (fun b => decide (¬ b = a)) := by
        rw [show (i + 1 - e).toNat = (i - e).toNat + 1 by omega, List.take_add_one, ha]; exact pc_no_snoc _ _ a
      have hlnd : l.Nodup := hpl.nodup_iff.mpr (hnd.filter _)
      refine fw_aload_n dX6_away_179 rfl rfl ?_
      refine fw_iload_n dX6_away_180 rfl rfl ?_
      refine fw_aload_n dX6_away_181 rfl rfl ?_
      refine fw_getr 29 24 rfl dX6_away_182 ff_6_85 ly1_0 ⟨by decide, by decide⟩ rfl rfl (by decide) ?_
      refine fw_iload dX6_away_185 rfl ?_
      refine fw_laload dX6_away_187 ly1_24 ⟨by decide, by decide⟩ ⟨by omega, by omega⟩ ?_
      refine fw_aload_n dX6_away_188 rfl rfl ?_
      refine fw_getr 30 25 rfl dX6_away_189 ff_6_88 ly1_0 ⟨by decide, by decide⟩ rfl rfl (by decide) ?_
      refine fw_iload dX6_away_192 rfl ?_
      refine fw_iaload dX6_away_194 ly1_25 ⟨by decide, by decide⟩ ⟨by omega, by omega⟩ ?_
      refine fw_cV mX6_pieceAt [_, _, _] dX6_away_195 mv_X6_pieceAt lk_6_203 ⟨⟨by decide, by decide⟩, rfl, rfl, rfl, by decide, by decide⟩ ly1_0 ⟨by decide, by decide⟩ rfl rfl (Nat.le_of_ble_eq_true rfl) (sp_X6_pieceAt m hm l N9 K9 hl hll _ _) (fun r M1 L1 hp hM1 => ?_)
      obtain ⟨hM9, hL9, z, rfl, hz⟩ := hp
      rw [hM9, hL9]
      rw [show (K9 24 i, N9 25 i) = a from Prod.ext a1 a2] at hz
      refine fw_istore (ls2 := [_, _, _, _, _, _, _]) dX6_away_198 (by decide) rfl ?_
      refine fw_iload dX6_away_200 rfl ?_
      refine fw_bipush dX6_away_202 ⟨by decide, by decide⟩ (by decide) ?_
      refine fw_icmp_eq 277 dX6_away_204 (by decide) (fun h204 => ?_) (fun h204 => ?_)
      · skip
        refine fw_iinc (ls2 := [_, _, _, _, _, _, _]) dX6_away_277 rfl ⟨by omega, by omega⟩ (by decide) rfl ?_
        refine fw_goto 170 dX6_away_280 (by decide) ?_
        refine fw_take 6 ?_
        refine ih (i + 1) _ _ l (by omega) (by omega) (by omega) ?_ hl ⟨f1, f2, f3, f4⟩
        rw [hs]
        have hx : ¬ a ∈ l := by
          rcases hz with hz | hz
          · exact hz.2
          · omega
        have h9 := hpl.filter (fun b => decide (¬ b = a))
        rw [pc_ne_self hx] at h9
        exact h9
      · skip
        have hz9 : 0 ≤ z ∧ l[z.toNat]? = some a := by
          rcases hz with hz | hz
          · exact absurd hz.1 h204
          · exact hz
        have hzl : z.toNat < l.length := (List.getElem?_eq_some_iff.mp hz9.2).1
        obtain ⟨w, hw⟩ : ∃ w, l[l.length - 1]? = some w := ⟨_, List.getElem?_eq_getElem (by omega)⟩
        have hpr := pc_rm_perm hz9.2 hw
        refine fw_aload_n dX6_away_207 rfl rfl ?_
        refine fw_getr 25 21 rfl dX6_away_208 ff_6_76 ly1_0 ⟨by decide, by decide⟩ rfl rfl (by decide) ?_
        refine fw_iload_n dX6_away_211 rfl rfl ?_
        refine fw_dup2 dX6_away_212 rfl rfl ?_
        refine fw_iaload dX6_away_213 ly1_21 ⟨by decide, by decide⟩ ⟨by omega, by omega⟩ ?_
        refine fw_iconst dX6_away_214 ⟨by decide, by decide⟩ ?_
        refine fw_isub dX6_away_215 ⟨by omega, by omega⟩ ?_
        refine fw_iastore dX6_away_216 ly1_21 (by decide) ⟨by decide, by decide⟩ ⟨by omega, by omega⟩ ?_
        refine fw_aload_n dX6_away_217 rfl rfl ?_
        refine fw_getr 26 22 rfl dX6_away_218 ff_6_79 ly1_0 ⟨by decide, by decide⟩ rfl rfl (by decide) ?_
        refine fw_sipush dX6_away_221 ⟨by decide, by decide⟩ (by decide) ?_
        refine fw_iload_n dX6_away_224 rfl rfl ?_
        refine fw_imul dX6_away_225 ⟨by omega, by omega⟩ ?_
        refine fw_iload dX6_away_226 rfl ?_
        refine fw_iadd dX6_away_228 ⟨by omega, by omega⟩ ?_
        refine fw_aload_n dX6_away_229 rfl rfl ?_
        refine fw_getr 26 22 rfl dX6_away_230 ff_6_79 ly1_0 ⟨by decide, by decide⟩ rfl rfl (by decide) ?_
        refine fw_sipush dX6_away_233 ⟨by decide, by decide⟩ (by decide) ?_
        refine fw_iload_n dX6_away_236 rfl rfl ?_
        refine fw_imul dX6_away_237 ⟨by omega, by omega⟩ ?_
        refine fw_aload_n dX6_away_238 rfl rfl ?_
        refine fw_getr 25 21 rfl dX6_away_239 ff_6_76 ly1_0 ⟨by decide, by decide⟩ rfl rfl (by decide) ?_
        refine fw_iload_n dX6_away_242 rfl rfl ?_
        refine fw_iaload dX6_away_243 ly1_21 ⟨by decide, by decide⟩ ⟨by omega, by omega⟩ ?_
        simp (disch := decide) only [fw_updne, fw_updj]
        refine fw_iadd dX6_away_244 ⟨by omega, by omega⟩ ?_
        refine fw_laload dX6_away_245 ly1_22 ⟨by decide, by decide⟩ ⟨by omega, by omega⟩ ?_
        refine fw_lastore dX6_away_246 ly1_22 (by decide) ⟨by decide, by decide⟩ ⟨by omega, by omega⟩ ?_
        refine fw_aload_n dX6_away_247 rfl rfl ?_
        refine fw_getr 27 23 rfl dX6_away_248 ff_6_82 ly1_0 ⟨by decide, by decide⟩ rfl rfl (by decide) ?_
        refine fw_sipush dX6_away_251 ⟨by decide, by decide⟩ (by decide) ?_
        refine fw_iload_n dX6_away_254 rfl rfl ?_
        refine fw_imul dX6_away_255 ⟨by omega, by omega⟩ ?_
        refine fw_iload dX6_away_256 rfl ?_
        refine fw_iadd dX6_away_258 ⟨by omega, by omega⟩ ?_
        refine fw_aload_n dX6_away_259 rfl rfl ?_
        refine fw_getr 27 23 rfl dX6_away_260 ff_6_82 ly1_0 ⟨by decide, by decide⟩ rfl rfl (by decide) ?_
        refine fw_sipush dX6_away_263 ⟨by decide, by decide⟩ (by decide) ?_
        refine fw_iload_n dX6_away_266 rfl rfl ?_
        refine fw_imul dX6_away_267 ⟨by omega, by omega⟩ ?_
        refine fw_aload_n dX6_away_268 rfl rfl ?_
        refine fw_getr 25 21 rfl dX6_away_269 ff_6_76 ly1_0 ⟨by decide, by decide⟩ rfl rfl (by decide) ?_
        refine fw_iload_n dX6_away_272 rfl rfl ?_
        refine fw_iaload dX6_away_273 ly1_21 ⟨by decide, by decide⟩ ⟨by omega, by omega⟩ ?_
        simp (disch := decide) only [fw_updne, fw_updj]
        refine fw_iadd dX6_away_274 ⟨by omega, by omega⟩ ?_
        refine fw_iaload dX6_away_275 ly1_23 ⟨by decide, by decide⟩ ⟨by omega, by omega⟩ ?_
        simp (disch := decide) only [fw_updne, fw_updj]
        refine fw_iastore dX6_away_276 ly1_23 (by decide) ⟨by decide, by decide⟩ ⟨by omega, by omega⟩ ?_
        refine fw_iinc (ls2 := [_, _, _, _, _, _, _]) dX6_away_277 rfl ⟨by omega, by omega⟩ (by decide) rfl ?_
        refine fw_goto 170 dX6_away_280 (by decide) ?_
        refine fw_take 6 ?_
        refine ih (i + 1) _ _ (pc_rm l z.toNat w) (by omega) (by omega) (by omega) ?_ (pm_at_rm hl hz9.1 (by omega) hw ?_ (fun j => ?_) (fun j => ?_)) ⟨fun k a b => ?_, fun k a => ?_, fun u a => ?_, fun j a => ?_⟩
        · rw [hs]
          have hnx : ¬ a ∈ pc_rm l z.toNat w := fun q => (List.nodup_cons.mp (hpr.nodup_iff.mp hlnd)).1 q
          have h9 := (hpr.symm.trans hpl).filter (fun b => decide (¬ b = a))
          rw [List.filter_cons_of_neg (by simp), pc_ne_self hnx] at h9
          exact h9
        · rw [fw_updne (by decide), fw_updj]
        · rw [fw_upleq]
        · rw [fw_updeq, fw_updne (by decide)]
        · rw [fw_updne b, fw_updne a]; exact f1 k a b
        · rw [fw_uplne a]; exact f2 k a
        · rw [fw_updne (by decide), fw_updjn a]; exact f3 u a
        · rw [fw_upleq, fw_updeq, fw_updne (by decide), if_neg (by omega), if_neg (by omega)]; exact f4 j a

set_option maxRecDepth 20000 in
set_option maxHeartbeats 4000000 in
theorem pm_X6_away (M N : fw_F) (L K : fw_G) (hR : Rel M L N K) (m t : Int) : fw_D mX6_away 5 [some (fw_r 0), some (fw_i m), some (fw_i t)] [] N K (fun r N2 K2 => r = some (fw_i (an_fetch (N 0 2) (rl_S M N m (N 0 4)) m t (ab_cv (∀ a ∈ (rl_X N K (rl_S M N m (N 0 4)) m t), pc_el (md_pl N K) (N 0 2) m a) (pc_sz (rl_X N K (rl_S M N m (N 0 4)) m t))))) ∧ ((((((0 ≤ m ∧ m < N 0 2) ∧ (0 ≤ t ∧ t < 12)) ∧ (¬ (rl_S M N m (N 0 4)).1 1 t = 0 ∧ (rl_S M N m (N 0 4)).1 2 t = 1)) ∧ (∀ a ∈ (rl_X N K (rl_S M N m (N 0 4)) m t), pc_el (md_pl N K) (N 0 2) m a)) → ∃ l, l.Perm ((md_pl N K m).filter (pc_no (rl_D N K (rl_S M N m (N 0 4)) t))) ∧ rl_mp m l N K N2 K2) ∧ (¬ ((((0 ≤ m ∧ m < N 0 2) ∧ (0 ≤ t ∧ t < 12)) ∧ (¬ (rl_S M N m (N 0 4)).1 1 t = 0 ∧ (rl_S M N m (N 0 4)).1 2 t = 1)) ∧ (∀ a ∈ (rl_X N K (rl_S M N m (N 0 4)) m t), pc_el (md_pl N K) (N 0 2) m a)) → rl_mq N K N2 K2))) := by
  obtain ⟨ha1, ha2, ha3, ha4, ha5, ha6⟩ := hR.1
  have hn1 := hR.2.1.1.1.1
  have hn2 := hR.2.1.1.1.2.1
  refine fw_aload_n dX6_away_5 rfl rfl ?_
  refine fw_iload_n dX6_away_6 rfl rfl ?_
  refine fw_pV mX6_isMachine [_] dX6_away_7 mv_X6_isMachine lk_6_179 ⟨⟨by decide, by decide⟩, rfl, rfl, rfl, by decide, by decide⟩ ly1_0 ⟨by decide, by decide⟩ rfl rfl (Nat.le_of_ble_eq_true rfl) (sp_X6_isMachine _ _ _ (by omega)) ?_
  refine fw_bifeq 20 dX6_away_10 (by decide) (fun h10 => ?_) (fun h10 => ?_)
  · skip
    refine fw_iconst dX6_away_20 ⟨by decide, by decide⟩ ?_
    refine fw_iret dX6_away_21 ⟨rfl, rfl, rfl⟩ ?_
    refine ⟨?_, fun z => ?_, fun _ => rl_mq_rf N K⟩
    · congr 2; unfold an_fetch; (repeat' split) <;> omega
    · have z1 := z.1; omega
  · skip
    refine fw_iload_n dX6_away_13 rfl rfl ?_
    refine fw_pS mX6_isThing [_] dX6_away_14 mv_X6_isThing lk_6_182 ⟨⟨by decide, by decide⟩, rfl, rfl, rfl, by decide, by decide⟩ rfl rfl (Nat.le_of_ble_eq_true rfl) (sp_X6_isThing _ _ _) ?_
    refine fw_bifne 22 dX6_away_17 (by decide) (fun h17 => ?_) (fun h17 => ?_)
    · skip
      refine fw_aload_n dX6_away_22 rfl rfl ?_
      refine fw_iload_n dX6_away_23 rfl rfl ?_
      refine fw_cV mX6_tellsNow [_] dX6_away_24 mv_X6_tellsNow lk_6_176 ⟨⟨by decide, by decide⟩, rfl, rfl, rfl, by decide, by decide⟩ ly1_0 ⟨by decide, by decide⟩ rfl rfl (Nat.le_of_ble_eq_true rfl) (rl_tellsNow hR (by omega)) (fun r Na_ La_ hp hNa_ => ?_)
      obtain ⟨rfl, rfl, g1, g2⟩ := hp
      obtain ⟨e0, e1, e2, e3, e4, e6, e7⟩ := g2.1 t (by omega) (by omega)
      have hfl := md_isFl g2.1 (rl_ti hR m (N 0 4)) (u := t) (by omega) (by omega)
      refine fw_aload_n dX6_away_27 rfl rfl ?_
      refine fw_iload_n dX6_away_28 rfl rfl ?_
      refine fw_pV mX6_isFile [_] dX6_away_29 mv_X6_isFile lk_6_211 ⟨⟨by decide, by decide⟩, rfl, rfl, rfl, by decide, by decide⟩ ly1_0 ⟨by decide, by decide⟩ rfl rfl (Nat.le_of_ble_eq_true rfl) (sp_X6_isFile _ _ _ (by omega)) ?_
      refine fw_bifne 38 dX6_away_32 (by decide) (fun h32 => ?_) (fun h32 => ?_)
      · skip
        obtain ⟨P, hP⟩ := rl_pcs hR
        obtain ⟨⟨p1, p2⟩, ⟨p3, p4, p5⟩, ⟨p6, p7, p8, p9⟩, q1, q2, q3, q4, q5⟩ := hP m (by omega) (by omega)
        refine fw_aload_n dX6_away_38 rfl rfl ?_
        refine fw_iconst dX6_away_39 ⟨by decide, by decide⟩ ?_
        refine fw_puti 28 rfl dX6_away_40 fp_6_200 ly1_0 (by decide) ⟨by decide, by decide⟩ rfl ?_
        refine fw_iconst dX6_away_43 ⟨by decide, by decide⟩ ?_
        refine fw_istore_n (ls2 := [_, _, _, _]) dX6_away_44 rfl (by decide) rfl ?_
        have eF := hfl.mp h32
        have eok := rl_E_ok (K := La_) hR m (N 0 4) t 12 (by decide)
        refine l1_X6_away M N Na_ L La_ hR m t g1 g2 _ (fun Nx Kx hfc hcE => ?_) 12 1 _ _ (by decide) (by decide) (by decide) (md_fc_upd Na_ La_ 0) ?_
        · skip
          refine fw_aload_n dX6_away_75 rfl rfl ?_
          refine fw_geti 28 rfl dX6_away_76 ff_6_200 ly1_0 ⟨by decide, by decide⟩ rfl ?_
          rw [hcE.1]
          refine fw_istore_n (ls2 := [_, _, _, _]) dX6_away_79 rfl (by decide) rfl ?_
          refine fw_aload_n dX6_away_80 rfl rfl ?_
          refine fw_iload_n dX6_away_81 rfl rfl ?_
          refine fw_cV mX6_cutsFile [_] dX6_away_82 mv_X6_cutsFile lk_6_263 ⟨⟨by decide, by decide⟩, rfl, rfl, rfl, by decide, by decide⟩ ly1_0 ⟨by decide, by decide⟩ rfl rfl (Nat.le_of_ble_eq_true rfl) (rl_cutsFile hR (t := t) (by omega) g1 g2 hfc hcE eok.1 (by have e4 : (rl_E N La_ (rl_S M N m (N 0 4)) t).length ≤ 384 := eok.2; omega)) (fun r Nb_ Lb_ hp hNb_ => ?_)
          obtain ⟨rfl, f1, f2⟩ := hp
          have hov := pc_all_over (C := (rl_E N La_ (rl_S M N m (N 0 4)) t)) (rl_fs N La_ (rl_S M N m (N 0 4)) t) []
          rw [List.filter_nil, List.append_nil] at hov
          rw [hov] at f2
          obtain ⟨o1, o2, o3⟩ := rl_W_ok (K := La_) hR m (N 0 4) (t := t) (by omega)
          have pk := fun q (a : 0 ≤ q) (b : q < 4) => rl_pm (hP q a b).1.2 g1 f1
          refine fw_iconst dX6_away_85 ⟨by decide, by decide⟩ ?_
          refine fw_istore (ls2 := [_, _, _, _, _]) dX6_away_86 (by decide) rfl ?_
          refine fw_iload_n dX6_away_88 rfl rfl ?_
          refine fw_istore (ls2 := [_, _, _, _, _, _]) dX6_away_89 (by decide) rfl ?_
          have e02 : Nb_ 0 2 = N 0 2 := by rw [f1.2.1 2 (by decide), g1 0 (by decide)]
          have dl := List.length_filter_le (pc_no (rl_E N La_ (rl_S M N m (N 0 4)) t)) (rl_W N La_ (rl_S M N m (N 0 4)) t)
          have hxx : (rl_D N La_ (rl_S M N m (N 0 4)) t).filter (pc_ya (md_pl N La_ m)) = (rl_X N La_ (rl_S M N m (N 0 4)) m t) := rfl
          have hql : ∀ q, 0 ≤ q → q < 4 → pm_at Nb_ Lb_ q (md_pl N La_ q) ∧ (md_pl N La_ q).length ≤ 200 := fun q a b => ⟨pk q a b, (hP q a b).2.2.2.2.1⟩
          have hdok : pc_ok (rl_D N La_ (rl_S M N m (N 0 4)) t) := fun a ha => o1 a (List.mem_filter.mp ha).1
          have hel2 : ((rl_E N La_ (rl_S M N m (N 0 4)) t) ++ (rl_D N La_ (rl_S M N m (N 0 4)) t)).length ≤ 704 := by
            rw [List.length_append]
            have dl2 : (rl_D N La_ (rl_S M N m (N 0 4)) t).length ≤ (rl_W N La_ (rl_S M N m (N 0 4)) t).length := dl
            have e3 := eok.2
            have e4 : (rl_E N La_ (rl_S M N m (N 0 4)) t).length ≤ 384 := e3
            omega
          refine l2_X6_away N Nb_ La_ Lb_ m t ((rl_E N La_ (rl_S M N m (N 0 4)) t).length : Int) (by omega) (by rw [e02]; omega) (rl_E N La_ (rl_S M N m (N 0 4)) t) (rl_D N La_ (rl_S M N m (N 0 4)) t) rfl f2 hel2 hdok hql _ (fun hel => ?_) (fun hel => ?_) 705 _ 0 (by omega) (Int.le_refl _) (by rw [List.length_append]; omega) (by simp [pc_sz]) (fun j a hj => by omega)
          · rw [e02, hxx] at hel
            rw [hxx]
            refine fw_iload_n dX6_away_167 rfl rfl ?_
            refine fw_istore (ls2 := [_, _, _, _, _, _]) dX6_away_168 (by decide) rfl ?_
            refine l3_X6_away N Nb_ La_ Lb_ m t ((rl_E N La_ (rl_S M N m (N 0 4)) t).length : Int) (by omega) (by rw [e02]; omega) (rl_E N La_ (rl_S M N m (N 0 4)) t) (rl_D N La_ (rl_S M N m (N 0 4)) t) rfl f2 hel2 hdok hql _ q4 _ (fun N9 K9 l l1 l2 l3 => ?_) 705 _ Nb_ Lb_ (md_pl N La_ m) (by omega) (Int.le_refl _) (by rw [List.length_append]; omega) ?_ (pk m (by omega) (by omega)) ⟨fun _ _ _ => rfl, fun _ _ => rfl, fun _ _ => rfl, fun _ _ => ⟨rfl, rfl⟩⟩
            · obtain ⟨x2, x3, x4, x5⟩ := l3
              refine ⟨?_, fun _ => ⟨l, l1, fun k a => ⟨?_, ?_⟩, fun j a b => ?_, ?_, l2, fun u a b e => pm_at_ot (hP u a b).2.2.2.2.1 e (pk u a b) (x4 u e) x5⟩, fun z => absurd ⟨by omega, hel⟩ z⟩
              · rw [ab_cv_1 hel]; congr 2; unfold an_fetch; (repeat' split) <;> omega
              · rw [x2 k (by omega) (by omega), f1.1 k (by omega) (by omega)]; exact g1 k (by omega)
              · rw [x3 k (by omega)]; exact f1.2.2 k (by omega)
              · rw [x2 0 (by decide) (by decide), f1.2.1 j b, g1 0 (by decide)]
              · rw [x3 0 (by decide)]; exact f1.2.2 0 (by decide)
            · rw [show (((rl_E N La_ (rl_S M N m (N 0 4)) t).length : Int) - ((rl_E N La_ (rl_S M N m (N 0 4)) t).length : Int)).toNat = 0 by omega, List.take_zero]
              rw [List.filter_eq_self.mpr (fun a _ => by simp [pc_no])]
          · rw [e02, hxx] at hel
            refine ⟨?_, fun z => absurd z.2 hel, fun _ => rl_mq_fc g1 f1⟩
            rw [ab_cv_0 hel]; congr 2; unfold an_fetch; (repeat' split) <;> omega
        · have hp0 : rl_of (rl_S M N m (N 0 4)) t 0 = false := by
            have h9 := (rl_ti hR m (N 0 4)).2.1.2.2.1
            simp [rl_of, h9]
          have h8 : pc_os (rl_of (rl_S M N m (N 0 4)) t) (rl_fs N La_ (rl_S M N m (N 0 4))) (1 : Int).toNat = [] := by
            show [] ++ (if rl_of (rl_S M N m (N 0 4)) t 0 = true then _ else []) = []
            rw [hp0]; rfl
          rw [h8]
          exact ⟨fw_updj, fun i a h => by simp [pc_all] at h⟩
      · skip
        refine fw_bipush dX6_away_35 ⟨by decide, by decide⟩ (by decide) ?_
        refine fw_iret dX6_away_37 ⟨rfl, rfl, rfl⟩ ?_
        refine ⟨?_, fun z => ?_, fun _ => rl_mq_of g1⟩
        · congr 2; unfold an_fetch; (repeat' split) <;> omega
        · have z1 := z.1; omega
    · skip
      refine fw_iconst dX6_away_20 ⟨by decide, by decide⟩ ?_
      refine fw_iret dX6_away_21 ⟨rfl, rfl, rfl⟩ ?_
      refine ⟨?_, fun z => ?_, fun _ => rl_mq_rf N K⟩
      · congr 2; unfold an_fetch; (repeat' split) <;> omega
      · have z1 := z.1; omega

set_option maxRecDepth 20000 in
set_option maxHeartbeats 4000000 in
theorem sp_X6_away (M N : fw_F) (L K : fw_G) (hR : Rel M L (fw_upd N 0 0 0) K) (m t : Int) : fw_SD mX6_away [fw_r 0, fw_i m, fw_i t] N K (fun r N2 K2 => r = some (fw_i (an_fetch ((fw_upd N 0 0 0) 0 2) (rl_S M (fw_upd N 0 0 0) m ((fw_upd N 0 0 0) 0 4)) m t (ab_cv (∀ a ∈ (rl_X (fw_upd N 0 0 0) K (rl_S M (fw_upd N 0 0 0) m ((fw_upd N 0 0 0) 0 4)) m t), pc_el (md_pl (fw_upd N 0 0 0) K) ((fw_upd N 0 0 0) 0 2) m a) (pc_sz (rl_X (fw_upd N 0 0 0) K (rl_S M (fw_upd N 0 0 0) m ((fw_upd N 0 0 0) 0 4)) m t))))) ∧ ((((((0 ≤ m ∧ m < (fw_upd N 0 0 0) 0 2) ∧ (0 ≤ t ∧ t < 12)) ∧ (¬ (rl_S M (fw_upd N 0 0 0) m ((fw_upd N 0 0 0) 0 4)).1 1 t = 0 ∧ (rl_S M (fw_upd N 0 0 0) m ((fw_upd N 0 0 0) 0 4)).1 2 t = 1)) ∧ (∀ a ∈ (rl_X (fw_upd N 0 0 0) K (rl_S M (fw_upd N 0 0 0) m ((fw_upd N 0 0 0) 0 4)) m t), pc_el (md_pl (fw_upd N 0 0 0) K) ((fw_upd N 0 0 0) 0 2) m a)) → ∃ l, l.Perm ((md_pl (fw_upd N 0 0 0) K m).filter (pc_no (rl_D (fw_upd N 0 0 0) K (rl_S M (fw_upd N 0 0 0) m ((fw_upd N 0 0 0) 0 4)) t))) ∧ rl_mp m l (fw_upd N 0 0 0) K N2 K2) ∧ (¬ ((((0 ≤ m ∧ m < (fw_upd N 0 0 0) 0 2) ∧ (0 ≤ t ∧ t < 12)) ∧ (¬ (rl_S M (fw_upd N 0 0 0) m ((fw_upd N 0 0 0) 0 4)).1 1 t = 0 ∧ (rl_S M (fw_upd N 0 0 0) m ((fw_upd N 0 0 0) 0 4)).1 2 t = 1)) ∧ (∀ a ∈ (rl_X (fw_upd N 0 0 0) K (rl_S M (fw_upd N 0 0 0) m ((fw_upd N 0 0 0) 0 4)) m t), pc_el (md_pl (fw_upd N 0 0 0) K) ((fw_upd N 0 0 0) 0 2) m a)) → rl_mq (fw_upd N 0 0 0) K N2 K2))) := by
  refine fw_SP_of pl_X6_away (ls := [_, _, _]) rfl (Nat.le_of_ble_eq_true rfl) fun hA hM => ?_
  refine fw_aload_n dX6_away_0 rfl rfl ?_
  refine fw_iconst dX6_away_1 ⟨by decide, by decide⟩ ?_
  refine fw_puti 0 rfl dX6_away_2 fp_6_106 ly1_0 (by decide) ⟨by decide, by decide⟩ rfl ?_
  exact pm_X6_away M (fw_upd N 0 0 0) L K hR m t
