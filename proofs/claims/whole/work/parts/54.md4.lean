theorem md_isF {N : fw_F} {S : ab_S} {G : fw_F} {O : Int → Int} {j : Nat} (hT : md_T N S) (hi : ab_ti G O j S) {u : Int} (h0 : 0 ≤ u) (h1 : u < 12) : (¬ N 11 u = 0 ∧ N 12 u = 2) ↔ ab_isF S.1 u := by
  obtain ⟨e0, e1, e2, -⟩ := hT u h0 h1
  have h2 := hi.1 u h0 h1
  unfold ab_tr at h2
  unfold ab_isF
  rw [e1]
  constructor
  · rintro ⟨a, b⟩
    rw [e2 (by omega)] at b
    exact ⟨a, b⟩
  · rintro ⟨a, b⟩
    rw [e2 (by omega)]
    exact ⟨a, b⟩
def md_new (N : fw_F) (t into nm kd od : Int) : fw_F := md_put (fw_upd (fw_upd (fw_upd (fw_upd N 10 t 1) 11 t 1) 12 t kd) 17 t 0) t into nm od
theorem md_new_v (N : fw_F) (t into nm kd od : Int) : (∀ k, ¬ k = 10 → ¬ k = 11 → ¬ k = 12 → ¬ k = 13 → ¬ k = 14 → ¬ k = 15 → ¬ k = 17 → md_new N t into nm kd od k = N k) ∧ (∀ u, md_new N t into nm kd od 10 u = if u = t then 1 else N 10 u) ∧ (∀ u, md_new N t into nm kd od 11 u = if u = t then 1 else N 11 u) ∧ (∀ u, md_new N t into nm kd od 12 u = if u = t then kd else N 12 u) ∧ (∀ u, md_new N t into nm kd od 13 u = if u = t then into else N 13 u) ∧ (∀ u, md_new N t into nm kd od 14 u = if u = t then nm else N 14 u) ∧ (∀ u, md_new N t into nm kd od 15 u = if u = t then od else N 15 u) ∧ (∀ u, md_new N t into nm kd od 17 u = if u = t then 0 else N 17 u) := by
  obtain ⟨w0, w1, w2, w3⟩ := md_put_v (fw_upd (fw_upd (fw_upd (fw_upd N 10 t 1) 11 t 1) 12 t kd) 17 t 0) t into nm od
  unfold md_new
  refine ⟨fun k a b c d e f g => ?_, fun u => ?_, fun u => ?_, fun u => ?_, fun u => ?_, fun u => ?_, fun u => ?_, fun u => ?_⟩
  · rw [w0 k d e f, fw_updne g, fw_updne c, fw_updne b, fw_updne a]
  · rw [w0 10 (by decide) (by decide) (by decide), fw_updne (by decide), fw_updne (by decide), fw_updne (by decide), fw_updeq]
  · rw [w0 11 (by decide) (by decide) (by decide), fw_updne (by decide), fw_updne (by decide), fw_updeq, fw_updne (by decide)]
  · rw [w0 12 (by decide) (by decide) (by decide), fw_updne (by decide), fw_updeq, fw_updne (by decide), fw_updne (by decide)]
  · rw [w1]; simp (disch := decide) only [fw_updne]
  · rw [w2]; simp (disch := decide) only [fw_updne]
  · rw [w3]; simp (disch := decide) only [fw_updne]
  · rw [w0 17 (by decide) (by decide) (by decide), fw_updeq]; simp (disch := decide) only [fw_updne]
theorem md_T_new {N : fw_F} {S : ab_S} {t into nm kd j od v : Int} (h : md_T N S) (hS : S.2 t = []) (hv : v = if ab_isF S.1 into then into else 0) : md_T (md_new N t v nm kd od) (ab_new S.1 t into nm kd j, S.2) := by
  intro u a b
  obtain ⟨e0, e1, e2, e3, e4, e6, e7⟩ := h u a b
  obtain ⟨v0, v1, v2, v3, v4, v5⟩ := ab_new_v S.1 t into nm kd j u
  obtain ⟨w0, w1, w2, w3, w4, w5, w6, w7⟩ := md_new_v N t v nm kd od
  refine ⟨?_, ?_, ?_, ?_, ?_, ?_, ?_⟩
  · rw [w1, e0]; exact v0.symm
  · rw [w2, e1]; exact v1.symm
  · intro q
    rw [w3]
    refine Eq.trans ?_ v2.symm
    by_cases hu : u = t
    · rw [if_pos hu, if_pos hu]
    · rw [if_neg hu, if_neg hu]
      refine e2 fun z => q ?_
      show ab_new S.1 t into nm kd j 0 u = 0
      rw [v0, if_neg hu, z]
  · rw [w4, e3, hv]; exact v3.symm
  · rw [w5, e4]; exact v4.symm
  · rw [w7, e6]
    by_cases hu : u = t
    · rw [if_pos hu, hu, hS]; rfl
    · rw [if_neg hu]
  · rw [w0 18 (by decide) (by decide) (by decide) (by decide) (by decide) (by decide) (by decide)]; exact e7

theorem ab_ap_w05 {G : fw_F} {ru x j : Int} {S : ab_S} (h : G x 0 = 3) (u : Int) : (ab_ap G ru x j S).1 0 u = S.1 0 u ∧ (ab_ap G ru x j S).1 5 u = S.1 5 u := by
  unfold ab_ap
  rw [if_neg (by omega), if_neg (by omega), if_neg (by omega)]
  split
  · exact ⟨rfl, rfl⟩
  · split
    · split
      · exact ⟨rfl, rfl⟩
      · exact ⟨(ab_back_v S.1 (G x 1) u).1, (ab_back_v S.1 (G x 1) u).2.2.2.2.2⟩
    · exact ⟨rfl, rfl⟩

set_option maxRecDepth 20000 in
set_option maxHeartbeats 4000000 in
theorem sp_X6_does (j : Nat) (n T : Int) (N : fw_F) (O : Int → Int) (mk : Int → Int) (S : ab_S) (L : fw_G) (hwf : ab_wf n mk (md_G N) O T) (hj : (j : Int) < T) (hti : ab_ti (md_G N) O j S) (hT : md_T N S) (m i od : Int) (hm : O j = 20 * m + i) (hm0 : 0 ≤ m ∧ m < 4) (hi0 : 0 ≤ i ∧ i < 20) (hod : 0 ≤ od) (hP : md_P N S od) : fw_SD mX6_does [fw_r 0, fw_i m, fw_i i, fw_i od] N L (fun r M2 L2 => r = none ∧ L2 = L ∧ md_T M2 (ab_ap (md_G N) (N 0 3) (O j) j S) ∧ md_P M2 (ab_ap (md_G N) (N 0 3) (O j) j S) (od + 1) ∧ (∀ k, k < 10 ∨ k = 16 ∨ 19 < k → M2 k = N k)) := by
  refine fw_SP_of pl_X6_does (ls := [_, _, _, _]) rfl (Nat.le_of_ble_eq_true rfl) fun hA hM => ?_
  have hx := hwf.2.2.2.2.1 j (by omega) hj
  have hx0 := hx.1
  have hx1 := hx.2.1
  have hrow := hwf.2.1 (O j) hx
  have ht0 := hrow.2.1.1
  have ht1 := hrow.2.1.2
  have hTt := hT (md_G N (O j) 1) ht0 (by omega)
  have hin := hti.1 (md_G N (O j) 1) ht0 (by omega)
  have hgr : ∀ p, 0 ≤ p → p < 4 → 0 ≤ md_G N (O j) (6 + p) ∧ md_G N (O j) (6 + p) ≤ 20 := fun p a b => by have h1 := (hwf.2.2.1 (O j) hx).2.1 p a b; have h2 := hwf.1.2.2 p a b; omega
  have hq := hrow.2.2.1
  have hrow0 := hrow.1
  have hac := ab_ac_congr hti.2.2.1.1 (fun t a b => (hT t a b).2.2.2.1)
  have hp5 : ∀ u, 1 ≤ u → u < 12 → S.1 0 u = 1 → S.1 5 u < j := fun u a b c => (hti.2.2.2.1 u a b c).2.1
  refine fw_iload_n dX6_does_0 rfl rfl ?_
  refine fw_iload_n dX6_does_1 rfl rfl ?_
  refine fw_pS mX6_changeAt [_, _] dX6_does_2 mv_X6_changeAt lk_6_119 ⟨⟨by decide, by decide⟩, rfl, rfl, rfl, by decide, by decide⟩ rfl rfl (Nat.le_of_ble_eq_true rfl) (sp_X6_changeAt _ _ _ _ (by omega) (by omega)) ?_
  rw [← hm]
  refine fw_istore (ls2 := [_, _, _, _, _]) dX6_does_5 (by decide) rfl ?_
  refine fw_aload_n dX6_does_7 rfl rfl ?_
  refine fw_getr 6 2 rfl dX6_does_8 ff_6_17 ly1_0 ⟨by decide, by decide⟩ rfl rfl (by decide) ?_
  refine fw_iload dX6_does_11 rfl ?_
  refine fw_iconst dX6_does_13 ⟨by decide, by decide⟩ ?_
  refine fw_iadd dX6_does_14 ⟨by omega, by omega⟩ ?_
  refine fw_iaload dX6_does_15 ly1_2 ⟨by decide, by decide⟩ ⟨by omega, by omega⟩ ?_
  rw [md_Gv N (O j) 1]
  refine fw_istore (ls2 := [_, _, _, _, _, _]) dX6_does_16 (by decide) rfl ?_
  refine fw_aload_n dX6_does_18 rfl rfl ?_
  refine fw_getr 6 2 rfl dX6_does_19 ff_6_17 ly1_0 ⟨by decide, by decide⟩ rfl rfl (by decide) ?_
  refine fw_iload dX6_does_22 rfl ?_
  refine fw_iconst dX6_does_24 ⟨by decide, by decide⟩ ?_
  refine fw_iadd dX6_does_25 ⟨by omega, by omega⟩ ?_
  refine fw_iaload dX6_does_26 ly1_2 ⟨by decide, by decide⟩ ⟨by omega, by omega⟩ ?_
  rw [md_Gv N (O j) 2]
  refine fw_istore (ls2 := [_, _, _, _, _, _, _]) dX6_does_27 (by decide) rfl ?_
  refine fw_aload_n dX6_does_29 rfl rfl ?_
  refine fw_getr 6 2 rfl dX6_does_30 ff_6_17 ly1_0 ⟨by decide, by decide⟩ rfl rfl (by decide) ?_
  refine fw_iload dX6_does_33 rfl ?_
  refine fw_iaload dX6_does_35 ly1_2 ⟨by decide, by decide⟩ ⟨by omega, by omega⟩ ?_
  rw [md_G0 N (O j)]
  refine fw_istore (ls2 := [_, _, _, _, _, _, _, _]) dX6_does_36 (by decide) rfl ?_
  refine fw_iload dX6_does_38 rfl ?_
  refine fw_if_ne 128 dX6_does_40 (by decide) (fun h40 => ?_) (fun h40 => ?_)
  · skip
    refine fw_iload dX6_does_128 rfl ?_
    refine fw_iconst dX6_does_130 ⟨by decide, by decide⟩ ?_
    refine fw_icmp_ne 190 dX6_does_131 (by decide) (fun h131 => ?_) (fun h131 => ?_)
    · skip
      refine fw_iload dX6_does_190 rfl ?_
      refine fw_iconst dX6_does_192 ⟨by decide, by decide⟩ ?_
      refine fw_icmp_ne 220 dX6_does_193 (by decide) (fun h193 => ?_) (fun h193 => ?_)
      · skip
        refine fw_aload_n dX6_does_220 rfl rfl ?_
        refine fw_iload dX6_does_221 rfl ?_
        refine fw_iload dX6_does_223 rfl ?_
        refine fw_cV mX6_writes [_, _] dX6_does_225 mv_X6_writes lk_6_149 ⟨⟨by decide, by decide⟩, rfl, rfl, rfl, by decide, by decide⟩ ly1_0 ⟨by decide, by decide⟩ rfl rfl (Nat.le_of_ble_eq_true rfl) (sp_X6_writes j n T N O mk S L hwf hj hti hT (by omega)) (fun r M1 L1 hp hM1 => ?_)
        obtain ⟨rfl, rfl, g1, g2⟩ := hp
        refine fw_vret dX6_does_228 ⟨rfl, rfl, rfl⟩ ?_
        refine ⟨rfl, rfl, g1, ?_, fun k hk => g2 k (by omega) (by omega) (by omega) (by omega)⟩
        have h3 : md_G N (O j) 0 = 3 := by omega
        exact md_P_same hP (by omega) (g2 15 (by decide) (by decide) (by decide) (by decide)) (fun u a b => (ab_ap_w05 h3 u).1) (fun u a b => (ab_ap_w05 h3 u).2)
      · skip
        refine fw_iload dX6_does_196 rfl ?_
        refine fw_if_eq 228 dX6_does_198 (by decide) (fun h198 => ?_) (fun h198 => ?_)
        · skip
          refine fw_vret dX6_does_228 ⟨rfl, rfl, rfl⟩ ?_
          refine ⟨rfl, rfl, ?_, ?_, fun _ _ => rfl⟩
          · rw [ab_ap_g2 h193 (fun q => q.1 h198)]; exact hT
          · rw [ab_ap_g2 h193 (fun q => q.1 h198)]; exact md_P_same hP (by omega) rfl (fun _ _ _ => rfl) (fun _ _ _ => rfl)
        · skip
          refine fw_aload_n dX6_does_201 rfl rfl ?_
          refine fw_getr 15 11 rfl dX6_does_202 ff_6_46 ly1_0 ⟨by decide, by decide⟩ rfl rfl (by decide) ?_
          refine fw_iload dX6_does_205 rfl ?_
          refine fw_baload dX6_does_207 ly1_11 ⟨by decide, by decide⟩ ⟨by omega, by omega⟩ ?_
          refine fw_if_eq 228 dX6_does_208 (by decide) (fun h208 => ?_) (fun h208 => ?_)
          · skip
            refine fw_vret dX6_does_228 ⟨rfl, rfl, rfl⟩ ?_
            refine ⟨rfl, rfl, ?_, ?_, fun _ _ => rfl⟩
            · rw [ab_ap_g2 h193 (fun q => q.2 (by rw [← hTt.2.1]; exact h208))]; exact hT
            · rw [ab_ap_g2 h193 (fun q => q.2 (by rw [← hTt.2.1]; exact h208))]; exact md_P_same hP (by omega) rfl (fun _ _ _ => rfl) (fun _ _ _ => rfl)
          · skip
            refine fw_aload_n dX6_does_211 rfl rfl ?_
            refine fw_iload dX6_does_212 rfl ?_
            refine fw_cV mX6_goes [_] dX6_does_214 mv_X6_goes lk_6_145 ⟨⟨by decide, by decide⟩, rfl, rfl, rfl, by decide, by decide⟩ ly1_0 ⟨by decide, by decide⟩ rfl rfl (Nat.le_of_ble_eq_true rfl) (sp_X6_goes _ _ _ hac (fun u a b => by rw [(hT u a b).2.1]; exact (hti.1 u a b).2.1)) (fun r M1 L1 hp hM1 => ?_)
            obtain ⟨rfl, rfl, g1, g2⟩ := hp
            refine fw_goto 228 dX6_does_217 (by decide) ?_
            refine fw_vret dX6_does_228 ⟨rfl, rfl, rfl⟩ ?_
            refine ⟨rfl, rfl, ?_, ?_, fun k hk => g1 k (by omega) (by omega)⟩
            · rw [ab_ap_g1 h193 ⟨h198, by rw [← hTt.2.1]; exact h208⟩]; exact md_T_gone hT g1 hti.2.2.1.1 g2
            · rw [ab_ap_g1 h193 ⟨h198, by rw [← hTt.2.1]; exact h208⟩]; exact md_P_same hP (by omega) (g1 15 (by decide) (by decide)) (fun u _ _ => (ab_gone_v S.1 (md_G N (O j) 1) u).1) (fun u _ _ => (ab_gone_v S.1 (md_G N (O j) 1) u).2.2.2.2.2)
    · skip
      refine fw_iload dX6_does_134 rfl ?_
      refine fw_if_eq 228 dX6_does_136 (by decide) (fun h136 => ?_) (fun h136 => ?_)
      · skip
        refine fw_vret dX6_does_228 ⟨rfl, rfl, rfl⟩ ?_
        have hmv : ¬ ab_mv S.1 (md_G N (O j) 1) (md_G N (O j) 2) := by
          rintro ⟨q1, q2, q3, q4⟩
          exact q1 h136
        refine ⟨rfl, rfl, ?_, ?_, fun _ _ => rfl⟩
        · rw [ab_ap_m2 h131 hmv]; exact hT
        · rw [ab_ap_m2 h131 hmv]; exact md_P_same hP (by omega) rfl (fun _ _ _ => rfl) (fun _ _ _ => rfl)
      · skip
        refine fw_aload_n dX6_does_139 rfl rfl ?_
        refine fw_getr 15 11 rfl dX6_does_140 ff_6_46 ly1_0 ⟨by decide, by decide⟩ rfl rfl (by decide) ?_
        refine fw_iload dX6_does_143 rfl ?_
        refine fw_baload dX6_does_145 ly1_11 ⟨by decide, by decide⟩ ⟨by omega, by omega⟩ ?_
        refine fw_if_eq 228 dX6_does_146 (by decide) (fun h146 => ?_) (fun h146 => ?_)
        · skip
          refine fw_vret dX6_does_228 ⟨rfl, rfl, rfl⟩ ?_
          have hmv : ¬ ab_mv S.1 (md_G N (O j) 1) (md_G N (O j) 2) := by
            rintro ⟨q1, q2, q3, q4⟩
            exact q2 (by rw [← hTt.2.1]; exact h146)
          refine ⟨rfl, rfl, ?_, ?_, fun _ _ => rfl⟩
          · rw [ab_ap_m2 h131 hmv]; exact hT
          · rw [ab_ap_m2 h131 hmv]; exact md_P_same hP (by omega) rfl (fun _ _ _ => rfl) (fun _ _ _ => rfl)
        · skip
          have hq := hq (by omega)
          refine fw_aload_n dX6_does_149 rfl rfl ?_
          refine fw_iload dX6_does_150 rfl ?_
          refine fw_pV mX6_isFolder [_] dX6_does_152 mv_X6_isFolder lk_6_137 ⟨⟨by decide, by decide⟩, rfl, rfl, rfl, by decide, by decide⟩ ly1_0 ⟨by decide, by decide⟩ rfl rfl (Nat.le_of_ble_eq_true rfl) (sp_X6_isFolder _ _ _ (by omega)) ?_
          refine fw_bifeq 228 dX6_does_155 (by decide) (fun h155 => ?_) (fun h155 => ?_)
          · skip
            refine fw_vret dX6_does_228 ⟨rfl, rfl, rfl⟩ ?_
            have hmv : ¬ ab_mv S.1 (md_G N (O j) 1) (md_G N (O j) 2) := by
              rintro ⟨q1, q2, q3, q4⟩
              exact h155 ((md_isF hT hti (by omega) (by omega)).mpr q3)
            refine ⟨rfl, rfl, ?_, ?_, fun _ _ => rfl⟩
            · rw [ab_ap_m2 h131 hmv]; exact hT
            · rw [ab_ap_m2 h131 hmv]; exact md_P_same hP (by omega) rfl (fun _ _ _ => rfl) (fun _ _ _ => rfl)
          · skip
            refine fw_aload_n dX6_does_158 rfl rfl ?_
            refine fw_iload dX6_does_159 rfl ?_
            refine fw_iload dX6_does_161 rfl ?_
            refine fw_pV mX6_liesIn [_, _] dX6_does_163 mv_X6_liesIn lk_6_130 ⟨⟨by decide, by decide⟩, rfl, rfl, rfl, by decide, by decide⟩ ly1_0 ⟨by decide, by decide⟩ rfl rfl (Nat.le_of_ble_eq_true rfl) (sp_X6_liesIn _ _ _ _ hac (by omega)) ?_
            refine fw_bifne 228 dX6_does_166 (by decide) (fun h166 => ?_) (fun h166 => ?_)
            · skip
              refine fw_vret dX6_does_228 ⟨rfl, rfl, rfl⟩ ?_
              have hmv : ¬ ab_mv S.1 (md_G N (O j) 1) (md_G N (O j) 2) := by
                rintro ⟨q1, q2, q3, q4⟩
                exact q4 (by unfold ab_win; rw [← ab_up_congr hti.2.2.1.1 (fun t a b => (hT t a b).2.2.2.1) _ 12 _ (by omega) (by omega)]; exact h166)
              refine ⟨rfl, rfl, ?_, ?_, fun _ _ => rfl⟩
              · rw [ab_ap_m2 h131 hmv]; exact hT
              · rw [ab_ap_m2 h131 hmv]; exact md_P_same hP (by omega) rfl (fun _ _ _ => rfl) (fun _ _ _ => rfl)
            · skip
              refine fw_aload_n dX6_does_169 rfl rfl ?_
              refine fw_iload dX6_does_170 rfl ?_
              refine fw_iload dX6_does_172 rfl ?_
              refine fw_aload_n dX6_does_174 rfl rfl ?_
              refine fw_getr 6 2 rfl dX6_does_175 ff_6_17 ly1_0 ⟨by decide, by decide⟩ rfl rfl (by decide) ?_
              refine fw_iload dX6_does_178 rfl ?_
              refine fw_iconst dX6_does_180 ⟨by decide, by decide⟩ ?_
              refine fw_iadd dX6_does_181 ⟨by omega, by omega⟩ ?_
              refine fw_iaload dX6_does_182 ly1_2 ⟨by decide, by decide⟩ ⟨by omega, by omega⟩ ?_
              refine fw_iload_n dX6_does_183 rfl rfl ?_
              rw [md_Gv N (O j) 3]
              refine fw_cV mX6_puts [_, _, _, _] dX6_does_184 mv_X6_puts lk_6_141 ⟨⟨by decide, by decide⟩, rfl, rfl, rfl, by decide, by decide⟩ ly1_0 ⟨by decide, by decide⟩ rfl rfl (Nat.le_of_ble_eq_true rfl) (sp_X6_puts _ _ _ _ _ _ (by omega)) (fun r M1 L1 hp hM1 => ?_)
              obtain ⟨rfl, rfl, rfl⟩ := hp
              refine fw_goto 228 dX6_does_187 (by decide) ?_
              refine fw_vret dX6_does_228 ⟨rfl, rfl, rfl⟩ ?_
              have hmv : ab_mv S.1 (md_G N (O j) 1) (md_G N (O j) 2) := ⟨h136, by rw [← hTt.2.1]; exact h146, (md_isF hT hti (by omega) (by omega)).mp h155, by unfold ab_win; rw [← ab_up_congr hti.2.2.1.1 (fun t a b => (hT t a b).2.2.2.1) _ 12 _ (by omega) (by omega)]; exact h166⟩
              refine ⟨rfl, rfl, ?_, ?_, fun k hk => (md_put_v N (md_G N (O j) 1) (md_G N (O j) 2) (md_G N (O j) 3) od).1 k (by omega) (by omega) (by omega)⟩
              · rw [ab_ap_m1 h131 hmv]; exact md_T_put hT _ _ _ _ _
              · rw [ab_ap_m1 h131 hmv]; exact md_P_put hP hod (fun u => (md_put_v N (md_G N (O j) 1) (md_G N (O j) 2) (md_G N (O j) 3) od).2.2.2 u) (fun u => (ab_put_v S.1 (md_G N (O j) 1) (md_G N (O j) 2) (md_G N (O j) 3) j u).2.2.2.2.2) (fun u _ => (ab_put_v S.1 (md_G N (O j) 1) (md_G N (O j) 2) (md_G N (O j) 3) j u).1) hp5
  · skip
    refine fw_aload_n dX6_does_43 rfl rfl ?_
    refine fw_getr 14 10 rfl dX6_does_44 ff_6_42 ly1_0 ⟨by decide, by decide⟩ rfl rfl (by decide) ?_
    refine fw_iload dX6_does_47 rfl ?_
    refine fw_baload dX6_does_49 ly1_10 ⟨by decide, by decide⟩ ⟨by omega, by omega⟩ ?_
    refine fw_if_ne 228 dX6_does_50 (by decide) (fun h50 => ?_) (fun h50 => ?_)
    · skip
      refine fw_vret dX6_does_228 ⟨rfl, rfl, rfl⟩ ?_
      refine ⟨rfl, rfl, ?_, ?_, fun _ _ => rfl⟩
      · rw [ab_ap_n2 h40 (by rw [← hTt.1]; exact h50)]; exact hT
      · rw [ab_ap_n2 h40 (by rw [← hTt.1]; exact h50)]; exact md_P_same hP (by omega) rfl (fun _ _ _ => rfl) (fun _ _ _ => rfl)
    · skip
      have hq := hq (by omega)
      have hne := (hrow.2.2.2.1 h40).2.1
      refine fw_aload_n dX6_does_53 rfl rfl ?_
      refine fw_getr 14 10 rfl dX6_does_54 ff_6_42 ly1_0 ⟨by decide, by decide⟩ rfl rfl (by decide) ?_
      refine fw_iload dX6_does_57 rfl ?_
      refine fw_iconst dX6_does_59 ⟨by decide, by decide⟩ ?_
      refine fw_bastore dX6_does_60 ly1_10 (by decide) ⟨by decide, by decide⟩ ⟨by omega, by omega⟩ (by omega) ?_
      refine fw_aload_n dX6_does_61 rfl rfl ?_
      refine fw_getr 15 11 rfl dX6_does_62 ff_6_46 ly1_0 ⟨by decide, by decide⟩ rfl rfl (by decide) ?_
      refine fw_iload dX6_does_65 rfl ?_
      refine fw_iconst dX6_does_67 ⟨by decide, by decide⟩ ?_
      refine fw_bastore dX6_does_68 ly1_11 (by decide) ⟨by decide, by decide⟩ ⟨by omega, by omega⟩ (by omega) ?_
      refine fw_aload_n dX6_does_69 rfl rfl ?_
      refine fw_getr 16 12 rfl dX6_does_70 ff_6_49 ly1_0 ⟨by decide, by decide⟩ rfl rfl (by decide) ?_
      refine fw_iload dX6_does_73 rfl ?_
      refine fw_aload_n dX6_does_75 rfl rfl ?_
      refine fw_getr 6 2 rfl dX6_does_76 ff_6_17 ly1_0 ⟨by decide, by decide⟩ rfl rfl (by decide) ?_
      refine fw_iload dX6_does_79 rfl ?_
      refine fw_bipush dX6_does_81 ⟨by decide, by decide⟩ (by decide) ?_
      refine fw_iadd dX6_does_83 ⟨by omega, by omega⟩ ?_
      refine fw_iaload dX6_does_84 ly1_2 ⟨by decide, by decide⟩ ⟨by omega, by omega⟩ ?_
      refine fw_iastore dX6_does_85 ly1_12 (by decide) ⟨by decide, by decide⟩ ⟨by omega, by omega⟩ ?_
      refine fw_aload_n dX6_does_86 rfl rfl ?_
      refine fw_getr 21 17 rfl dX6_does_87 ff_6_64 ly1_0 ⟨by decide, by decide⟩ rfl rfl (by decide) ?_
      refine fw_iload dX6_does_90 rfl ?_
      refine fw_iconst dX6_does_92 ⟨by decide, by decide⟩ ?_
      refine fw_iastore dX6_does_93 ly1_17 (by decide) ⟨by decide, by decide⟩ ⟨by omega, by omega⟩ ?_
      refine fw_aload_n dX6_does_94 rfl rfl ?_
      refine fw_iload dX6_does_95 rfl ?_
      refine fw_aload_n dX6_does_97 rfl rfl ?_
      refine fw_iload dX6_does_98 rfl ?_
      refine fw_pV mX6_isFolder [_] dX6_does_100 mv_X6_isFolder lk_6_137 ⟨⟨by decide, by decide⟩, rfl, rfl, rfl, by decide, by decide⟩ ly1_0 ⟨by decide, by decide⟩ rfl rfl (Nat.le_of_ble_eq_true rfl) (sp_X6_isFolder _ _ _ (by omega)) ?_
      refine fw_bifeq 111 dX6_does_103 (by decide) (fun h103 => ?_) (fun h103 => ?_)
      · skip
        refine fw_iconst dX6_does_111 ⟨by decide, by decide⟩ ?_
        refine fw_aload_n dX6_does_112 rfl rfl ?_
        refine fw_getr 6 2 rfl dX6_does_113 ff_6_17 ly1_0 ⟨by decide, by decide⟩ rfl rfl (by decide) ?_
        refine fw_iload dX6_does_116 rfl ?_
        refine fw_iconst dX6_does_118 ⟨by decide, by decide⟩ ?_
        refine fw_iadd dX6_does_119 ⟨by omega, by omega⟩ ?_
        refine fw_iaload dX6_does_120 ly1_2 ⟨by decide, by decide⟩ ⟨by omega, by omega⟩ ?_
        refine fw_iload_n dX6_does_121 rfl rfl ?_
        have e2 : (fw_upd (fw_upd (fw_upd (fw_upd N 10 (md_G N (O j) 1) 1) 11 (md_G N (O j) 1) 1) 12 (md_G N (O j) 1) (fw_upd (fw_upd N 10 (md_G N (O j) 1) 1) 11 (md_G N (O j) 1) 1 2 (12 * O j + 10))) 17 (md_G N (O j) 1) 0) 2 (12 * O j + 3) = md_G N (O j) 3 := by simp (disch := decide) only [fw_updne]; rfl
        have e10 : fw_upd (fw_upd N 10 (md_G N (O j) 1) 1) 11 (md_G N (O j) 1) 1 2 (12 * O j + 10) = md_G N (O j) 10 := by simp (disch := decide) only [fw_updne]; rfl
        rw [e2, e10]
        rw [e10] at h103
        refine fw_cV mX6_puts [_, _, _, _] dX6_does_122 mv_X6_puts lk_6_141 ⟨⟨by decide, by decide⟩, rfl, rfl, rfl, by decide, by decide⟩ ly1_0 ⟨by decide, by decide⟩ rfl rfl (Nat.le_of_ble_eq_true rfl) (sp_X6_puts _ _ _ _ _ _ (by omega)) (fun r M1 L1 hp hM1 => ?_)
        obtain ⟨rfl, rfl, rfl⟩ := hp
        refine fw_goto 228 dX6_does_125 (by decide) ?_
        refine fw_vret dX6_does_228 ⟨rfl, rfl, rfl⟩ ?_
        have hn0 : S.1 0 (md_G N (O j) 1) = 0 := by rw [← hTt.1]; exact h50
        have hS0 := (hti.2.2.2.2 (md_G N (O j) 1) ht0 (by omega)).1 (Or.inl hn0)
        rw [fw_updne (show ¬ (11 : Int) = 17 by decide), fw_updne (show ¬ (11 : Int) = 12 by decide), fw_updeq, if_neg (by omega), fw_updne (show ¬ (11 : Int) = 10 by decide), fw_updne (show ¬ (12 : Int) = 17 by decide), fw_updeq, if_neg (by omega), fw_updne (show ¬ (12 : Int) = 11 by decide), fw_updne (show ¬ (12 : Int) = 10 by decide), md_isF hT hti (by omega) (by omega)] at h103
        have hfr := md_new_v N (md_G N (O j) 1) (if ab_isF S.1 (md_G N (O j) 2) then md_G N (O j) 2 else 0) (md_G N (O j) 3) (md_G N (O j) 10) od
        have hTn := md_T_new (t := md_G N (O j) 1) (into := md_G N (O j) 2) (nm := md_G N (O j) 3) (kd := md_G N (O j) 10) (j := j) (od := od) hT hS0 rfl
        have hPn := md_P_put (M' := md_new N (md_G N (O j) 1) (if ab_isF S.1 (md_G N (O j) 2) then md_G N (O j) 2 else 0) (md_G N (O j) 3) (md_G N (O j) 10) od) (T' := ab_new S.1 (md_G N (O j) 1) (md_G N (O j) 2) (md_G N (O j) 3) (md_G N (O j) 10) j) (t := md_G N (O j) 1) (j := j) hP hod hfr.2.2.2.2.2.2.1 (fun u => (ab_new_v S.1 (md_G N (O j) 1) (md_G N (O j) 2) (md_G N (O j) 3) (md_G N (O j) 10) j u).2.2.2.2.2) (fun u hu => by rw [(ab_new_v S.1 (md_G N (O j) 1) (md_G N (O j) 2) (md_G N (O j) 3) (md_G N (O j) 10) j u).1, if_neg hu]) hp5
        rw [if_neg h103] at hTn hPn hfr
        rw [ab_ap_n1 h40 hn0]
        exact ⟨rfl, rfl, hTn, hPn, fun k hk => hfr.1 k (by omega) (by omega) (by omega) (by omega) (by omega) (by omega) (by omega)⟩
      · skip
        refine fw_iload dX6_does_106 rfl ?_
        refine fw_goto 112 dX6_does_108 (by decide) ?_
        refine fw_aload_n dX6_does_112 rfl rfl ?_
        refine fw_getr 6 2 rfl dX6_does_113 ff_6_17 ly1_0 ⟨by decide, by decide⟩ rfl rfl (by decide) ?_
        refine fw_iload dX6_does_116 rfl ?_
        refine fw_iconst dX6_does_118 ⟨by decide, by decide⟩ ?_
        refine fw_iadd dX6_does_119 ⟨by omega, by omega⟩ ?_
        refine fw_iaload dX6_does_120 ly1_2 ⟨by decide, by decide⟩ ⟨by omega, by omega⟩ ?_
        refine fw_iload_n dX6_does_121 rfl rfl ?_
        have e2 : (fw_upd (fw_upd (fw_upd (fw_upd N 10 (md_G N (O j) 1) 1) 11 (md_G N (O j) 1) 1) 12 (md_G N (O j) 1) (fw_upd (fw_upd N 10 (md_G N (O j) 1) 1) 11 (md_G N (O j) 1) 1 2 (12 * O j + 10))) 17 (md_G N (O j) 1) 0) 2 (12 * O j + 3) = md_G N (O j) 3 := by simp (disch := decide) only [fw_updne]; rfl
        have e10 : fw_upd (fw_upd N 10 (md_G N (O j) 1) 1) 11 (md_G N (O j) 1) 1 2 (12 * O j + 10) = md_G N (O j) 10 := by simp (disch := decide) only [fw_updne]; rfl
        rw [e2, e10]
        rw [e10] at h103
        refine fw_cV mX6_puts [_, _, _, _] dX6_does_122 mv_X6_puts lk_6_141 ⟨⟨by decide, by decide⟩, rfl, rfl, rfl, by decide, by decide⟩ ly1_0 ⟨by decide, by decide⟩ rfl rfl (Nat.le_of_ble_eq_true rfl) (sp_X6_puts _ _ _ _ _ _ (by omega)) (fun r M1 L1 hp hM1 => ?_)
        obtain ⟨rfl, rfl, rfl⟩ := hp
        refine fw_goto 228 dX6_does_125 (by decide) ?_
        refine fw_vret dX6_does_228 ⟨rfl, rfl, rfl⟩ ?_
        have hn0 : S.1 0 (md_G N (O j) 1) = 0 := by rw [← hTt.1]; exact h50
        have hS0 := (hti.2.2.2.2 (md_G N (O j) 1) ht0 (by omega)).1 (Or.inl hn0)
        rw [fw_updne (show ¬ (11 : Int) = 17 by decide), fw_updne (show ¬ (11 : Int) = 12 by decide), fw_updeq, if_neg (by omega), fw_updne (show ¬ (11 : Int) = 10 by decide), fw_updne (show ¬ (12 : Int) = 17 by decide), fw_updeq, if_neg (by omega), fw_updne (show ¬ (12 : Int) = 11 by decide), fw_updne (show ¬ (12 : Int) = 10 by decide), md_isF hT hti (by omega) (by omega)] at h103
        have hfr := md_new_v N (md_G N (O j) 1) (if ab_isF S.1 (md_G N (O j) 2) then md_G N (O j) 2 else 0) (md_G N (O j) 3) (md_G N (O j) 10) od
        have hTn := md_T_new (t := md_G N (O j) 1) (into := md_G N (O j) 2) (nm := md_G N (O j) 3) (kd := md_G N (O j) 10) (j := j) (od := od) hT hS0 rfl
        have hPn := md_P_put (M' := md_new N (md_G N (O j) 1) (if ab_isF S.1 (md_G N (O j) 2) then md_G N (O j) 2 else 0) (md_G N (O j) 3) (md_G N (O j) 10) od) (T' := ab_new S.1 (md_G N (O j) 1) (md_G N (O j) 2) (md_G N (O j) 3) (md_G N (O j) 10) j) (t := md_G N (O j) 1) (j := j) hP hod hfr.2.2.2.2.2.2.1 (fun u => (ab_new_v S.1 (md_G N (O j) 1) (md_G N (O j) 2) (md_G N (O j) 3) (md_G N (O j) 10) j u).2.2.2.2.2) (fun u hu => by rw [(ab_new_v S.1 (md_G N (O j) 1) (md_G N (O j) 2) (md_G N (O j) 3) (md_G N (O j) 10) j u).1, if_neg hu]) hp5
        rw [if_pos h103] at hTn hPn hfr
        rw [ab_ap_n1 h40 hn0]
        exact ⟨rfl, rfl, hTn, hPn, fun k hk => hfr.1 k (by omega) (by omega) (by omega) (by omega) (by omega) (by omega) (by omega)⟩
