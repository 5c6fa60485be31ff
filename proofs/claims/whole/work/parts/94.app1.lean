/-! a new change, both sides -/
theorem ab_lt_tr {G : fw_F} {x y z : Int} (h : ab_lt G x y) (h2 : ab_lt G y z) : ab_lt G x z := by
  unfold ab_lt at *
  omega
theorem ab_wf_ins {n : Int} {mk mk' : Int → Int} {G G' : fw_F} {O O' : Int → Int} {T m x : Int} (h : ab_wf n mk G O T) (hm : 0 ≤ m ∧ m < n) (hf : mk m < 20) (hx : x = m * 20 + mk m) (hmk : ∀ p, mk' p = if p = m then mk m + 1 else mk p) (hG : ∀ y, ab_lv mk y → ∀ f, 0 ≤ f → f < 12 → G' y f = G y f) (hrow : ab_row G' x) (h1 : 1 ≤ G' x 4) (hT : G' x 4 ≤ T + 1) (hg : ∀ p, 0 ≤ p → p < 4 → 0 ≤ G' x (6 + p) ∧ G' x (6 + p) ≤ mk p) (hgm : G' x (6 + m) = mk m) (hhi : ∀ p j, 0 ≤ p → p < 4 → 0 ≤ j → j < G' x (6 + p) → G (20 * p + j) 4 < G' x 4) {pl : Int} (hp : 0 ≤ pl ∧ pl ≤ T) (ha : ∀ j, 0 ≤ j → j < pl → O' j = O j) (hb : O' pl = x) (hc : ∀ j, pl < j → j ≤ T → O' j = O (j - 1)) (hd : ∀ j, pl ≤ j → j < T → ab_lt G' x (O j)) (he : 0 < pl → ¬ ab_lt G' x (O (pl - 1))) : ab_wf n mk' G' O' (T + 1) := by
  have hn4 := h.1.2.1
  have hmkm := h.1.2.2 m hm.1 (by omega)
  have hx1 : x / 20 = m := by omega
  have hx2 : x % 20 = mk m := by omega
  have lv1 : ∀ y, ab_lv mk' y → ab_lv mk y ∨ y = x := fun y hy => by
    obtain ⟨a, b, c⟩ := hy
    rw [hmk] at c
    by_cases hq : y / 20 = m
    · rw [if_pos hq] at c
      by_cases hz : y % 20 = mk m
      · right; omega
      · left; exact ⟨a, b, by rw [hq]; omega⟩
    · rw [if_neg hq] at c
      left
      exact ⟨a, b, c⟩
  have lv2 : ∀ y, ab_lv mk y → ab_lv mk' y := fun y hy => by
    refine ⟨hy.1, hy.2.1, ?_⟩
    have h9 := hy.2.2
    rw [hmk]
    split
    · rename_i q
      rw [q] at h9
      omega
    · exact h9
  have lvx : ab_lv mk' x := ⟨by omega, by omega, by rw [hmk, hx1, hx2, if_pos rfl]; omega⟩
  have Ol := h.2.2.2.2.1
  have Oc := h.2.2.2.2.2.1
  have ltG : ∀ y z, ab_lv mk y → ab_lv mk z → ab_lt G y z → ab_lt G' y z := fun y z hy hz q => by
    unfold ab_lt
    rw [hG y hy 4 (by decide) (by decide), hG z hz 4 (by decide) (by decide)]
    exact q
  have tot : ∀ y, ab_lv mk y → ¬ ab_lt G' x y → ab_lt G' y x := fun y hy hn => by
    by_cases hq : y / 20 = m
    · left
      rw [hG y hy 4 (by decide) (by decide)]
      have h9 := hhi m (y % 20) hm.1 (by omega) (by omega) (by rw [hgm]; have := hy.2.2; rw [hq] at this; exact this)
      rw [show 20 * m + y % 20 = y by omega] at h9
      exact h9
    · unfold ab_lt at hn ⊢
      rw [hx1] at hn ⊢
      omega
  have bx : ∀ j, 0 ≤ j → j < pl → ab_lt G' (O j) x := fun j a b => by
    have hl := tot (O (pl - 1)) (Ol (pl - 1) (by omega) (by omega)) (he (by omega))
    rcases (show j = pl - 1 ∨ j < pl - 1 by omega) with c | c
    · rw [c]; exact hl
    · exact ab_lt_tr (ltG _ _ (Ol j a (by omega)) (Ol (pl - 1) (by omega) (by omega)) (Oc j (pl - 1) a c (by omega))) hl
  have mkle : ∀ p, mk p ≤ mk' p := fun p => by
    rw [hmk]
    split
    · rename_i q; rw [q]; omega
    · exact Int.le_refl _
  refine ⟨⟨h.1.1, hn4, fun p a b => ?_⟩, fun y hy => ?_, fun y hy => ?_, ⟨by have := h.2.2.2.1.1; omega, ?_⟩, fun j a b => ?_, fun j k a b c => ?_, fun y hy => ?_, fun y hy => ?_⟩
  · have h9 := h.1.2.2 p a b
    rw [hmk]
    split
    · rename_i q
      rw [q] at h9
      exact ⟨by omega, by omega, fun z => by omega⟩
    · exact h9
  · rcases lv1 y hy with q | q
    · have h9 := h.2.1 y q
      unfold ab_row at h9 ⊢
      simp (disch := decide) only [hG y q]
      exact h9
    · rw [q]; exact hrow
  · rcases lv1 y hy with q | q
    · obtain ⟨g1, g2, g3, g4⟩ := h.2.2.1 y q
      have hy3 : 0 ≤ y / 20 ∧ y / 20 < 4 := by have := q.1; have := q.2.1; omega
      refine ⟨by rw [hG y q 4 (by decide) (by decide)]; exact g1, fun p a b => ?_, by rw [hG y q _ (by omega) (by omega)]; exact g3, fun p j a b c d => ?_⟩
      · rw [hG y q _ (by omega) (by omega)]
        have := g2 p a b
        have := mkle p
        omega
      · rw [hG y q _ (by omega) (by omega)] at d
        rw [hG y q 4 (by decide) (by decide)]
        have h8 := g2 p a b
        rw [hG _ (ab_lv_of a b c (by omega) (h.1.2.2 p a b).2.1) 4 (by decide) (by decide)]
        exact g4 p j a b c d
    · rw [q]
      refine ⟨h1, fun p a b => ?_, by rw [hx1, hx2]; exact hgm, fun p j a b c d => ?_⟩
      · have := hg p a b
        have := mkle p
        omega
      · have h8 := hg p a b
        rw [hG _ (ab_lv_of a b c (by omega) (h.1.2.2 p a b).2.1) 4 (by decide) (by decide)]
        exact hhi p j a b c d
  · have h9 := h.2.2.2.1.2
    simp only [hmk]
    rcases (show m = 0 ∨ m = 1 ∨ m = 2 ∨ m = 3 by omega) with q | q | q | q <;> subst q <;> simp <;> omega
  · rcases Int.lt_trichotomy j pl with q | q | q
    · rw [ha j a q]; exact lv2 _ (Ol j a (by omega))
    · rw [q, hb]; exact lvx
    · rw [hc j q (by omega)]; exact lv2 _ (Ol (j - 1) (by omega) (by omega))
  · rcases Int.lt_trichotomy j pl with q | q | q
    · rw [ha j a q]
      rcases Int.lt_trichotomy k pl with r | r | r
      · rw [ha k (by omega) r]; exact ltG _ _ (Ol j a (by omega)) (Ol k (by omega) (by omega)) (Oc j k a b (by omega))
      · rw [r, hb]; exact bx j a q
      · rw [hc k r (by omega)]; exact ltG _ _ (Ol j a (by omega)) (Ol (k - 1) (by omega) (by omega)) (Oc j (k - 1) a (by omega) (by omega))
    · rw [q, hb, hc k (by omega) (by omega)]; exact hd (k - 1) (by omega) (by omega)
    · rw [hc j q (by omega), hc k (by omega) (by omega)]; exact ltG _ _ (Ol (j - 1) (by omega) (by omega)) (Ol (k - 1) (by omega) (by omega)) (Oc (j - 1) (k - 1) (by omega) (by omega) (by omega))
  · rcases lv1 y hy with q | q
    · obtain ⟨j, j0, j1, j2⟩ := h.2.2.2.2.2.2.1 y q
      rcases Int.lt_or_le j pl with r | r
      · exact ⟨j, j0, by omega, by rw [ha j j0 r]; exact j2⟩
      · exact ⟨j + 1, by omega, by omega, by rw [hc (j + 1) (by omega) (by omega), show j + 1 - 1 = j by omega]; exact j2⟩
    · exact ⟨pl, hp.1, by omega, by rw [hb, q]⟩
  · rcases lv1 y hy with q | q
    · rw [hG y q 4 (by decide) (by decide)]
      have := h.2.2.2.2.2.2.2 y q
      omega
    · rw [q]; exact hT
theorem ab_LF_G {G G' : fw_F} {O ap : Int → Int} : ∀ n : Nat, (∀ j : Nat, j < n → G (O j) 6 = G' (O j) 6 ∧ G (O j) 7 = G' (O j) 7 ∧ G (O j) 8 = G' (O j) 8 ∧ G (O j) 9 = G' (O j) 9) → ab_LF G O ap n = ab_LF G' O ap n := by
  intro n
  induction n with
  | zero => intro _; rfl
  | succ n ih =>
    intro h
    funext p
    rw [ab_LF_s, ab_LF_s, ih (fun j hj => h j (by omega))]
    obtain ⟨a, b, c, d⟩ := h n (by omega)
    unfold ab_sd
    rw [a, b, c, d]
/-- what stands made came by a change that is known -/
theorem ab_TT_made {G : fw_F} {O v lf : Int → Int} {ru : Int} : ∀ (j : Nat) (u : Int), 1 ≤ u → ¬ (ab_TT G O v lf ru j).1 0 u = 0 → ∃ i : Nat, i < j ∧ O i % 20 < v (O i / 20) ∧ G (O i) 0 = 0 ∧ G (O i) 1 = u := by
  intro j
  induction j with
  | zero =>
    intro u hu h
    exfalso
    apply h
    show (if u = 0 then (if (0 : Int) = 0 ∨ (0 : Int) = 1 then (1 : Int) else if (0 : Int) = 2 then 2 else 0) else if (0 : Int) = 2 then 1 else 0) = 0
    rw [if_neg (by omega)]
    rfl
  | succ j ih =>
    intro u hu h
    have old : ¬ (ab_TT G O v lf ru j).1 0 u = 0 → ∃ i : Nat, i < j + 1 ∧ O i % 20 < v (O i / 20) ∧ G (O i) 0 = 0 ∧ G (O i) 1 = u := fun q => by
      obtain ⟨i, i1, i2⟩ := ih u hu q
      exact ⟨i, by omega, i2⟩
    simp only [ab_TT] at h
    split at h
    · rename_i hk
      unfold ab_ap at h
      split at h
      · rename_i h0
        split at h
        · by_cases he : u = G (O j) 1
          · exact ⟨j, by omega, hk.1, h0, he.symm⟩
          · refine old (fun q => h ?_)
            exact (ab_new_v (ab_TT G O v lf ru j).1 (G (O j) 1) (G (O j) 2) (G (O j) 3) (G (O j) 10) j u).1.trans (by rw [if_neg he]; exact q)
        · exact old h
      · split at h
        · split at h
          · exact old (fun q => h ((ab_put_v (ab_TT G O v lf ru j).1 (G (O j) 1) (G (O j) 2) (G (O j) 3) j u).1.trans q))
          · exact old h
        · split at h
          · split at h
            · exact old (fun q => h ((ab_gone_v (ab_TT G O v lf ru j).1 (G (O j) 1) u).1.trans q))
            · exact old h
          · split at h
            · exact old h
            · split at h
              · split at h
                · exact old h
                · exact old (fun q => h ((ab_back_v (ab_TT G O v lf ru j).1 (G (O j) 1) u).1.trans q))
              · exact old h
    · exact old h

def cl_AP (m act su d T : Int) (M : fw_F) (L : fw_G) (G : fw_F) : fw_P := fun r M2 L2 => r = some (fw_r (8 + 2 * (m * 20 + M 4 m))) ∧ L2 = L ∧ (∀ k, ¬ k = 1 → ¬ k = 3 → ¬ k = 4 → ¬ k = 5 → ¬ k = 7 → ¬ k = (8 + 2 * (m * 20 + M 4 m)) → ¬ k = (8 + 2 * (m * 20 + M 4 m)) + 1 → M2 k = M k) ∧ (M2 1 6 = T + 1 ∧ ∀ j, ¬ j = 6 → M2 1 j = M 1 j) ∧ (∀ p, M2 4 p = if p = m then M 4 m + 1 else M 4 p) ∧ (∀ z, M2 5 z = if z = (d * 4 + m) * 4 + m then M 5 z + 1 else M 5 z) ∧ (M2 (8 + 2 * (m * 20 + M 4 m)) 1 = m ∧ M2 (8 + 2 * (m * 20 + M 4 m)) 2 = M 4 m ∧ M2 (8 + 2 * (m * 20 + M 4 m)) 3 = act ∧ M2 (8 + 2 * (m * 20 + M 4 m)) 4 = su ∧ M2 (8 + 2 * (m * 20 + M 4 m)) 5 = ab_hh (fun p => M 5 ((d * 4 + m) * 4 + p)) (fun p => M (8 + 2 * (p * 20 + (M 5 ((d * 4 + m) * 4 + p) - 1))) 5) 4 ∧ M2 (8 + 2 * (m * 20 + M 4 m)) 6 = d) ∧ (∀ f, f < 1 ∨ 6 < f → M2 (8 + 2 * (m * 20 + M 4 m)) f = M (8 + 2 * (m * 20 + M 4 m)) f) ∧ (∀ u, 0 ≤ u → u < 4 → M2 ((8 + 2 * (m * 20 + M 4 m)) + 1) u = M 5 ((d * 4 + m) * 4 + u)) ∧ cl_ins M2 (m * 20 + M 4 m) T (M 3) (M2 3) ∧ ∀ p, 0 ≤ p → p < 4 → M2 7 p = ab_LF G (M2 3) (M 6) (T + 1).toNat p

def md_AP (m wh t into nm kd : Int) (N : fw_F) (K : fw_G) : fw_P := fun r M2 L2 => r = some (fw_i (N 1 m)) ∧ L2 = K ∧ (∀ k, ¬ k = 1 → ¬ k = 2 → ¬ k = 4 → M2 k = N k) ∧ (∀ p, M2 1 p = if p = m then N 1 m + 1 else N 1 p) ∧ (∀ z, M2 4 z = if z = 4 * m + m then N 1 m + 1 else N 4 z) ∧ (∀ z, z < 12 * (20 * m + N 1 m) ∨ 12 * (20 * m + N 1 m) + 12 ≤ z → M2 2 z = N 2 z) ∧ (M2 2 (12 * (20 * m + N 1 m)) = wh ∧ M2 2 (12 * (20 * m + N 1 m) + 1) = t ∧ M2 2 (12 * (20 * m + N 1 m) + 2) = into ∧ M2 2 (12 * (20 * m + N 1 m) + 3) = nm ∧ M2 2 (12 * (20 * m + N 1 m) + 4) = ab_hh (fun p => N 4 (4 * m + p)) (fun p => md_G N (20 * p + (N 4 (4 * m + p) - 1)) 4) 4 ∧ M2 2 (12 * (20 * m + N 1 m) + 5) = N 0 4 ∧ M2 2 (12 * (20 * m + N 1 m) + 10) = kd) ∧ (∀ p, 0 ≤ p → p < N 0 2 → M2 2 (12 * (20 * m + N 1 m) + 6 + p) = N 4 (4 * m + p)) ∧ (∀ p, N 0 2 ≤ p → p < 4 → M2 2 (12 * (20 * m + N 1 m) + 6 + p) = 0)

def rl_apG (N : fw_F) (m : Int) : fw_F := fun y f => if y = m * 20 + N 1 m ∧ 6 ≤ f ∧ f < 10 then N 4 (4 * m + (f - 6)) else md_G N y f
theorem rl_apG_x (N : fw_F) (m : Int) {p : Int} (h : 0 ≤ p ∧ p < 4) : rl_apG N m (m * 20 + N 1 m) (6 + p) = N 4 (4 * m + p) := by
  unfold rl_apG
  rw [if_pos ⟨rfl, by omega, by omega⟩, show 6 + p - 6 = p by omega]
theorem rl_apG_o {N : fw_F} {m y : Int} (h : ¬ y = m * 20 + N 1 m) : rl_apG N m y = md_G N y := by
  funext f
  unfold rl_apG
  rw [if_neg (fun q => h q.1)]
theorem rl_hg {M N : fw_F} {L K : fw_G} (hR : Rel M L N K) {m p : Int} (hm : 0 ≤ m ∧ m < 4) (hp : 0 ≤ p ∧ p < 4) (hk : 0 < N 4 (4 * m + p)) : ab_lv (N 1) (20 * p + (N 4 (4 * m + p) - 1)) ∧ 1 ≤ md_G N (20 * p + (N 4 (4 * m + p) - 1)) 4 ∧ md_G N (20 * p + (N 4 (4 * m + p) - 1)) 4 ≤ M 1 6 := by
  have h1 := rl_now hR m p hm.1 hm.2 hp.1 hp.2
  have h2 := (rl_mk hR p hp.1 hp.2).1
  have hl := ab_lv_of (mk := N 1) hp.1 hp.2 (show 0 ≤ N 4 (4 * m + p) - 1 by omega) (by omega) h2
  exact ⟨hl, (hR.2.1.1.2.2.1 _ hl).1, hR.2.1.1.2.2.2.2.2.2.2 _ hl⟩
theorem rl_kn5 {M N : fw_F} {L K : fw_G} (hR : Rel M L N K) {m p : Int} (hm : 0 ≤ m ∧ m < 4) (hp : 0 ≤ p ∧ p < 4) : M 5 ((M 1 7 * 4 + m) * 4 + p) = N 4 (4 * m + p) := by
  have h9 := (hR.2.2.1.1 (N 0 4) m p hR.1.2.2.2.2.1.1 (Int.le_refl _) hm.1 hm.2 hp.1 hp.2).1
  simp only [rl_kn_now] at h9
  rw [hR.1.2.2.2.1]
  exact h9
/-- a new one's height, in both -/
theorem rl_hh {M N : fw_F} {L K : fw_G} (hR : Rel M L N K) {m : Int} (hm : 0 ≤ m ∧ m < 4) : ∀ n : Nat, n ≤ 4 → ab_hh (fun p => M 5 ((M 1 7 * 4 + m) * 4 + p)) (fun p => M (8 + 2 * (p * 20 + (M 5 ((M 1 7 * 4 + m) * 4 + p) - 1))) 5) n = ab_hh (fun p => N 4 (4 * m + p)) (fun p => md_G N (20 * p + (N 4 (4 * m + p) - 1)) 4) n := by
  intro n
  induction n with
  | zero => intro _; rfl
  | succ n ih =>
    intro hn
    simp only [ab_hh]
    rw [ih (by omega), rl_kn5 hR hm (p := n) ⟨by omega, by omega⟩]
    split
    · rename_i q
      have h1 := (rl_hg hR hm (p := n) ⟨by omega, by omega⟩ q).1
      have h2 := (hR.2.1.2.1 _ h1).1.2.2.2.2.1
      rw [show (n : Int) * 20 = 20 * (n : Int) by omega, h2]
    · rfl
theorem rl_appendC {M N : fw_F} {L K : fw_G} (hR : Rel M L N K) {m act su : Int} (hm : 0 ≤ m ∧ m < N 0 2) (hf : N 1 m < 20) : fw_SC mX1_append [fw_r 1, fw_i m, fw_i act, fw_i su] M L (cl_AP m act su (M 1 7) (M 1 6) M L (rl_apG N m)) := by
  have hn2 := hR.2.1.1.1.2.1
  have hm4 : 0 ≤ m ∧ m < 4 := ⟨hm.1, by omega⟩
  have h4 := hR.2.1.2.2.2 m hm4.1 hm4.2
  have hmk := hR.2.1.1.1.2.2 m hm4.1 hm4.2
  have hT := ab_T80 hR.2.1.1
  have ha := hR.1
  have hTl : M 1 6 < 80 := by
    have h9 := hR.2.1.1.2.2.2.1.2
    have k0 := (rl_mk hR 0 (by decide) (by decide)).1
    have k1 := (rl_mk hR 1 (by decide) (by decide)).1
    have k2 := (rl_mk hR 2 (by decide) (by decide)).1
    have k3 := (rl_mk hR 3 (by decide) (by decide)).1
    rcases (show m = 0 ∨ m = 1 ∨ m = 2 ∨ m = 3 by omega) with q | q | q | q <;> subst q <;> omega
  refine sp_X1_append m act su (M 1 6) (M 1 7) M L hm4 rfl (by rw [ha.2.2.2.1]; exact ha.2.2.2.2.1) (by omega) (fun p a b => ?_) (fun p a b q => ?_) (rl_apG N m) rfl ⟨hT.1, hTl⟩ (fun j a b => ?_) (fun p a b => ?_) (fun p a b => ?_)
  · rw [rl_kn5 hR hm4 ⟨a, b⟩]
    have h7 := rl_now hR m p hm4.1 hm4.2 a b
    have h8 := (rl_mk hR p a b).1
    refine ⟨by omega, by omega, fun e => ?_⟩
    rw [e, h4]
    exact hR.2.2.1.2 m hm4.1 hm4.2
  · rw [rl_kn5 hR hm4 ⟨a, b⟩] at q ⊢
    obtain ⟨h1, h2, h3⟩ := rl_hg hR hm4 ⟨a, b⟩ q
    rw [show p * 20 = 20 * p by omega, (hR.2.1.2.1 _ h1).1.2.2.2.2.1]
    omega
  · have hlv := hR.2.1.1.2.2.2.2.1 j a b
    have hx := hR.2.1.2.1 _ hlv
    have hne : ¬ M 3 j = m * 20 + N 1 m := fun e => by
      have h9 := hlv.2.2
      rw [e, show (m * 20 + N 1 m) / 20 = m by omega, show (m * 20 + N 1 m) % 20 = N 1 m by omega] at h9
      omega
    refine ⟨⟨hlv.1, hlv.2.1⟩, hx.1.1, hx.1.2.1, fun p a b => ?_, by rw [h4]; exact hne⟩
    rw [rl_apG_o hne]
    exact hx.2.2.2.2 p a b
  · rw [h4, rl_apG_x N m ⟨a, b⟩, rl_kn5 hR hm4 ⟨a, b⟩]
  · rw [(hR.2.2.2.1.2 p a b).1]; exact hR.2.2.2.1.1 p a b

theorem rl_append {M N M1 M2 N2 : fw_F} {L K L1 L2 K2 Kx Ky : fw_G} (hR : Rel M L N K) {m wh t into nm kd : Int} (hm : 0 ≤ m ∧ m < N 0 2) (hf : N 1 m < 20) (hw : (0 ≤ wh ∧ wh ≤ 3) ∧ (0 ≤ t ∧ t ≤ 11) ∧ (wh ≤ 1 → 0 ≤ into ∧ into ≤ 11 ∧ 0 ≤ nm ∧ nm ≤ 9) ∧ (wh = 0 → 1 ≤ t ∧ ¬ t = into ∧ 1 ≤ kd ∧ kd ≤ 2) ∧ (wh = 3 → 0 ≤ nm ∧ nm ≤ 8)) {r1 r2 : Option fw_V} (hc : cl_AP m wh t (M 1 7) (M 1 6) M L (rl_apG N m) r1 M1 L1)
    (c1 : ∀ k, ¬ k = 8 + 2 * (m * 20 + N 1 m) → M2 k = M1 k) (c2 : ∀ f, f < 7 → M2 (8 + 2 * (m * 20 + N 1 m)) f = M1 (8 + 2 * (m * 20 + N 1 m)) f) (c3 : wh = 0 → M2 (8 + 2 * (m * 20 + N 1 m)) 7 = kd) (c4 : wh ≤ 1 → M2 (8 + 2 * (m * 20 + N 1 m)) 8 = into ∧ M2 (8 + 2 * (m * 20 + N 1 m)) 9 = nm) (c5 : wh = 3 → M2 (8 + 2 * (m * 20 + N 1 m)) 10 = nm) (l1 : ∀ k, ¬ k = 8 + 2 * (m * 20 + N 1 m) → L2 k = L k) (l2 : wh = 3 → L2 (8 + 2 * (m * 20 + N 1 m)) 11 = K2 3 (m * 20 + N 1 m))
    (hd : md_AP m wh t into nm kd N Kx r2 N2 Ky) (k1 : ∀ k, ¬ k = 3 → K2 k = K k) (k2 : ∀ y, ¬ y = m * 20 + N 1 m → K2 3 y = K 3 y) : Rel M2 L2 N2 K2 := by
  have hn2 := hR.2.1.1.1.2.1
  have hm4 : 0 ≤ m ∧ m < 4 := ⟨hm.1, by omega⟩
  have h4 := hR.2.1.2.2.2 m hm4.1 hm4.2
  have hmk := hR.2.1.1.1.2.2 m hm4.1 hm4.2
  have hT := ab_T80 hR.2.1.1
  have hown := hR.2.2.1.2 m hm4.1 hm4.2
  obtain ⟨-, -, a1, a2, a3, a4, a5, a6, a7, a8, a9⟩ := hc
  obtain ⟨-, -, d1, d2, d3, d4, d5, d6, d7⟩ := hd
  rw [h4] at a1 a3 a5 a6 a7 a8
  rw [show 20 * m + N 1 m = m * 20 + N 1 m by omega] at d4 d5 d6 d7
  obtain ⟨x, hx⟩ : ∃ x, x = m * 20 + N 1 m := ⟨_, rfl⟩
  rw [← hx] at a1 a5 a6 a7 a8 c1 c2 c3 c4 c5 l1 l2 d4 d5 d6 d7 k2
  have hx1 : x / 20 = m := by omega
  have hx2 : x % 20 = N 1 m := by omega
  have hx0 : 0 ≤ x ∧ x < 80 := by omega
  have M2k : ∀ k, ¬ k = 1 → ¬ k = 3 → ¬ k = 4 → ¬ k = 5 → ¬ k = 7 → ¬ k = 8 + 2 * x → ¬ k = 8 + 2 * x + 1 → M2 k = M k := fun k b1 b3 b4 b5 b7 b8 b9 => (c1 k b8).trans (a1 k b1 b3 b4 b5 b7 b8 b9)
  have e1 : M2 1 = M1 1 := c1 1 (by omega)
  have e3 : M2 3 = M1 3 := c1 3 (by omega)
  have e4 : M2 4 = M1 4 := c1 4 (by omega)
  have e5 : M2 5 = M1 5 := c1 5 (by omega)
  have e7 : M2 7 = M1 7 := c1 7 (by omega)
  have n0 : N2 0 = N 0 := d1 0 (by decide) (by decide) (by decide)
  have gx : ∀ p, 0 ≤ p → p < 4 → md_G N2 x (6 + p) = N 4 (4 * m + p) := fun p a b => by
    show N2 2 (12 * x + (6 + p)) = _
    rw [show 12 * x + (6 + p) = 12 * x + 6 + p by omega]
    rcases Int.lt_or_le p (N 0 2) with q | q
    · exact d6 p a q
    · rw [d7 p q b]
      have h8 := rl_now hR m p hm4.1 hm4.2 a b
      have h9 := (rl_mk hR p a b).2 q
      omega
  have go : ∀ y, ¬ y = x → ∀ f, 0 ≤ f → f < 12 → md_G N2 y f = md_G N y f := fun y hy f a b => d4 (12 * y + f) (by omega)
  have ne_x : ∀ y, ab_lv (N 1) y → ¬ y = x := fun y hy e => by
    have h9 := hy.2.2
    rw [e, hx1, hx2] at h9
    omega
  have hh := rl_hh hR hm4 4 (by decide)
  have gx4 : md_G N2 x 4 = ab_hh (fun p => N 4 (4 * m + p)) (fun p => md_G N (20 * p + (N 4 (4 * m + p) - 1)) 4) 4 := d5.2.2.2.2.1
  have gx0 : md_G N2 x 0 = wh := by show N2 2 (12 * x + 0) = wh; rw [Int.add_zero]; exact d5.1
  have gx1 : md_G N2 x 1 = t := d5.2.1
  have gx2 : md_G N2 x 2 = into := d5.2.2.1
  have gx3 : md_G N2 x 3 = nm := d5.2.2.2.1
  have gx5 : md_G N2 x 5 = N 0 4 := d5.2.2.2.2.2.1
  have gx10 : md_G N2 x 10 = kd := d5.2.2.2.2.2.2
  have hrng := ab_hh_rng (kn := fun p => N 4 (4 * m + p)) (hg := fun p => md_G N (20 * p + (N 4 (4 * m + p) - 1)) 4) (B := M 1 6) hT.1 (fun p a b q => by have h9 := rl_hg hR hm4 (p := p) ⟨a, b⟩ q; exact ⟨by omega, h9.2.2⟩) 4 (by decide)
  have hge : ∀ n : Nat, n ≤ 4 → ∀ p : Nat, p < n → 0 < N 4 (4 * m + p) → 1 + md_G N (20 * p + (N 4 (4 * m + p) - 1)) 4 ≤ ab_hh (fun p => N 4 (4 * m + p)) (fun p => md_G N (20 * p + (N 4 (4 * m + p) - 1)) 4) n := by
    intro n
    induction n with
    | zero => intro _ p hp; omega
    | succ n ih =>
      intro hn p hp hk
      simp only [ab_hh]
      rcases (show p < n ∨ p = n by omega) with c | c
      · have := ih (by omega) p c hk
        split <;> omega
      · subst c
        rw [if_pos hk]
        omega
  have hmkN : ∀ p, N2 1 p = if p = m then N 1 m + 1 else N 1 p := d2
  have hxlv : ∀ y, ab_lv (N2 1) y → ab_lv (N 1) y ∨ y = x := fun y hy => by
    obtain ⟨b1, b2, b3⟩ := hy
    rw [hmkN] at b3
    by_cases hq : y / 20 = m
    · rw [if_pos hq] at b3
      by_cases hz : y % 20 = N 1 m
      · right; omega
      · left; exact ⟨b1, b2, by rw [hq]; omega⟩
    · rw [if_neg hq] at b3
      left
      exact ⟨b1, b2, b3⟩
  have oldc : ∀ y, ab_lv (N 1) y → M2 (8 + 2 * y) = M (8 + 2 * y) ∧ M2 (8 + 2 * y + 1) = M (8 + 2 * y + 1) := fun y hy => by
    have h9 := ne_x y hy
    have h8 := hy.1
    exact ⟨M2k _ (by omega) (by omega) (by omega) (by omega) (by omega) (by omega) (by omega), M2k _ (by omega) (by omega) (by omega) (by omega) (by omega) (by omega) (by omega)⟩
  have hwf : ab_wf (N 0 2) (N2 1) (md_G N2) (M1 3) (M 1 6 + 1) := by
    obtain ⟨pl, p0, p1, p2, p3, p4, p5, p6⟩ := a8
    have ah : ∀ y, ab_lv (N 1) y → (cl_ah M1 x y ↔ ab_lt (md_G N2) x y) := fun y hy => by
      have h9 := ne_x y hy
      have h8 := hy.1
      have hold := (oldc y hy).1
      rw [c1 _ (by omega)] at hold
      obtain ⟨⟨w1, w2, w3, w4, w5, w6⟩, -⟩ := hR.2.1.2.1 y hy
      unfold cl_ah ab_lt
      rw [hold, w1, w5, a5.1, a5.2.2.2.2.1, hh, gx4, go y h9 4 (by decide) (by decide), hx1]
    refine ab_wf_ins (x := x) hR.2.1.1 hm hf hx hmkN (fun y hy f a b => go y (ne_x y hy) f a b) ?_ (by rw [gx4]; exact hrng.1) (by rw [gx4]; exact hrng.2) (fun p a b => by rw [gx p a b]; exact rl_now hR m p hm4.1 hm4.2 a b) (by rw [gx m hm4.1 hm4.2]; exact hown) (fun p j a b c d => ?_) ⟨p0, p1⟩ p2 p3 p4 (fun j a b => (ah _ (hR.2.1.1.2.2.2.2.1 j (by omega) b)).mp (p5 j a b)) (fun a => fun q => p6 a ((ah _ (hR.2.1.1.2.2.2.2.1 (pl - 1) (by omega) (by omega))).mpr q))
    · unfold ab_row
      rw [gx0, gx1, gx2, gx3, gx5, gx10]
      exact ⟨hw.1, hw.2.1, hw.2.2.1, hw.2.2.2.1, hw.2.2.2.2, hR.1.2.2.2.2.1⟩
    · rw [gx p a b] at d
      have hk : 0 < N 4 (4 * m + p) := by omega
      obtain ⟨f1, f2, f3⟩ := rl_hg hR hm4 (p := p) ⟨a, b⟩ hk
      have h9 := hge 4 (by decide) p.toNat (by omega) (by rw [show ((p.toNat : Nat) : Int) = p by omega]; exact hk)
      rw [show ((p.toNat : Nat) : Int) = p by omega, ← gx4] at h9
      rcases (show j = N 4 (4 * m + p) - 1 ∨ j < N 4 (4 * m + p) - 1 by omega) with q | q
      · rw [q]; omega
      · have hgr := hR.2.1.1.2.2.1 _ f1
        have h8 := hgr.2.2.2 p j a b c (by
          have h7 := hgr.2.2.1
          rw [show (20 * p + (N 4 (4 * m + p) - 1)) / 20 = p by have := (rl_mk hR p a b).1; have := rl_now hR m p hm4.1 hm4.2 a b; omega, show (20 * p + (N 4 (4 * m + p) - 1)) % 20 = N 4 (4 * m + p) - 1 by have := (rl_mk hR p a b).1; have := rl_now hR m p hm4.1 hm4.2 a b; omega] at h7
          rw [h7]
          exact q)
        omega
  have ha := hR.1
  refine ⟨?_, ⟨by rw [n0, e3, e1, a2.1]; exact hwf, fun y hy => ?_, fun y hy hy3 => ?_, fun p a b => ?_⟩, ⟨fun d u p x0 x1 x2 x3 x4 x5 => ?_, fun u x0 x1 => ?_⟩, ⟨by rw [d1 6 (by decide) (by decide) (by decide)]; exact hR.2.2.2.1.1, fun p a b => ⟨?_, ?_⟩⟩, rl_p_c hR.2.2.2.2.1 (fun k a b => ⟨M2k k (by omega) (by omega) (by omega) (by omega) (by omega) (by omega) (by omega), l1 k (by omega)⟩) (M2k 197 (by omega) (by omega) (by omega) (by omega) (by omega) (by omega) (by omega)) (d1 20 (by decide) (by decide) (by decide)) (d1 21 (by decide) (by decide) (by decide)) (d1 23 (by decide) (by decide) (by decide)) (k1 22 (by decide)), rl_s_c hR.2.2.2.2.2 (by rw [M2k 198 (by omega) (by omega) (by omega) (by omega) (by omega) (by omega) (by omega)]) (M2k 199 (by omega) (by omega) (by omega) (by omega) (by omega) (by omega) (by omega)) (M2k 200 (by omega) (by omega) (by omega) (by omega) (by omega) (by omega) (by omega)) (M2k 201 (by omega) (by omega) (by omega) (by omega) (by omega) (by omega) (by omega)) (M2k 202 (by omega) (by omega) (by omega) (by omega) (by omega) (by omega) (by omega)) (by rw [n0]) (d1 26 (by decide) (by decide) (by decide)) (d1 27 (by decide) (by decide) (by decide)) (d1 28 (by decide) (by decide) (by decide)) (d1 29 (by decide) (by decide) (by decide))⟩
  · unfold rl_a at ha ⊢
    rw [M2k 0 (by omega) (by omega) (by omega) (by omega) (by omega) (by omega) (by omega), n0, e1, a2.2 7 (by decide), l1 0 (by omega), k1 0 (by decide)]
    exact ha
  · rcases hxlv y hy with q | q
    · have hz := hR.2.1.2.1 y q
      have hne := ne_x y q
      unfold cl_x at hz ⊢
      rw [(oldc y q).1, (oldc y q).2]
      have g6 : ∀ p, 0 ≤ p → p < 4 → md_G N2 y (6 + p) = md_G N y (6 + p) := fun p a b => go y hne _ (by omega) (by omega)
      rw [go y hne 0 (by decide) (by decide), go y hne 1 (by decide) (by decide), go y hne 2 (by decide) (by decide), go y hne 3 (by decide) (by decide), go y hne 4 (by decide) (by decide), go y hne 5 (by decide) (by decide), go y hne 10 (by decide) (by decide)]
      exact ⟨hz.1, hz.2.1, hz.2.2.1, hz.2.2.2.1, fun p a b => by rw [g6 p a b]; exact hz.2.2.2.2 p a b⟩
    · rw [q]
      unfold cl_x
      rw [c2 1 (by decide), c2 2 (by decide), c2 3 (by decide), c2 4 (by decide), c2 5 (by decide), c2 6 (by decide), c1 (8 + 2 * x + 1) (by omega), gx0, gx1, gx2, gx3, gx4, gx5, gx10, hx1, hx2]
      refine ⟨⟨a5.1, a5.2.1, a5.2.2.1, a5.2.2.2.1, a5.2.2.2.2.1.trans hh, a5.2.2.2.2.2.trans ha.2.2.2.1⟩, c3, c4, c5, fun p a b => ?_⟩
      rw [a7 p a b, gx p a b]
      exact rl_kn5 hR hm4 ⟨a, b⟩
  · rcases hxlv y hy with q | q
    · have hne := ne_x y q
      rw [go y hne 0 (by decide) (by decide)] at hy3
      rw [l1 _ (by omega), k2 y hne]
      exact hR.2.1.2.2.1 y q hy3
    · rw [q, gx0] at hy3
      rw [q]
      exact l2 hy3
  · rw [e4, a3, d2]
    split
    · rfl
    · exact hR.2.1.2.2.2 p a b
  · rw [n0] at x1
    have hz := hR.2.2.1.1 d u p x0 x1 x2 x3 x4 x5
    have ha4 := ha.2.2.2.1
    have ha5 := ha.2.2.2.2.1
    have hmp := (hR.2.1.1.1.2.2 p x4 x5).1
    unfold rl_kn at hz ⊢
    rw [n0, d1 5 (by decide) (by decide) (by decide), e5, a4, d3, d2]
    by_cases hq : d = N 0 4
    · simp only [if_pos hq] at hz ⊢
      by_cases hu : u = m ∧ p = m
      · obtain ⟨hu1, hu2⟩ := hu
        rw [hu1, hu2] at hz ⊢
        rw [if_pos (by rw [ha4, hq]), if_pos rfl, if_pos rfl, hz.1, hown]
        exact ⟨rfl, by omega, Int.le_refl _⟩
      · rw [if_neg (by rw [ha4, hq]; omega), if_neg (by omega)]
        refine ⟨hz.1, hz.2.1, ?_⟩
        have h9 := hz.2.2
        split
        · rename_i hp
          rw [hp] at h9 ⊢
          omega
        · exact h9
    · simp only [if_neg hq] at hz ⊢
      rw [if_neg (by rw [ha4]; omega)]
      refine ⟨hz.1, hz.2.1, ?_⟩
      have h9 := hz.2.2
      split
      · rename_i hp
        rw [hp] at h9 ⊢
        omega
      · exact h9
  · rw [d3, d2]
    have hz := hR.2.2.1.2 u x0 x1
    by_cases hu : u = m
    · rw [if_pos (by omega), if_pos hu]
    · rw [if_neg (by omega), if_neg hu]; exact hz
  · rw [M2k 6 (by omega) (by omega) (by omega) (by omega) (by omega) (by omega) (by omega), d1 6 (by decide) (by decide) (by decide)]
    exact (hR.2.2.2.1.2 p a b).1
  · rw [e7, a9 p a b, e3, e1, a2.1, d1 6 (by decide) (by decide) (by decide)]
    rw [ab_LF_ap (ap' := N 6) (fun p a b => (hR.2.2.2.1.2 p a b).1) _ p a b]
    rw [ab_LF_G (G := rl_apG N m) (G' := md_G N2) (M 1 6 + 1).toNat (fun j hj => ?_)]
    have hlv := hwf.2.2.2.2.1 j (by omega) (by omega)
    rcases hxlv _ hlv with q | q
    · have hne := ne_x _ q
      rw [rl_apG_o (by rw [← hx]; exact hne)]
      exact ⟨(go _ hne 6 (by decide) (by decide)).symm, (go _ hne 7 (by decide) (by decide)).symm, (go _ hne 8 (by decide) (by decide)).symm, (go _ hne 9 (by decide) (by decide)).symm⟩
    · rw [q]
      have w := fun p a b => (hx ▸ rl_apG_x N m (p := p) ⟨a, b⟩ : rl_apG N m x (6 + p) = N 4 (4 * m + p))
      exact ⟨(w 0 (by decide) (by decide)).trans (gx 0 (by decide) (by decide)).symm, (w 1 (by decide) (by decide)).trans (gx 1 (by decide) (by decide)).symm, (w 2 (by decide) (by decide)).trans (gx 2 (by decide) (by decide)).symm, (w 3 (by decide) (by decide)).trans (gx 3 (by decide) (by decide)).symm⟩
