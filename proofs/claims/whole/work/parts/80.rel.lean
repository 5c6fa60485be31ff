/-! CLASS AGAINST MODEL -/
def rl_kn (N : fw_F) (d m p : Int) : Int := if d = N 0 4 then N 4 (4 * m + p) else N 5 (16 * d + 4 * m + p)
def rl_a (M : fw_F) (L : fw_G) (N : fw_F) (K : fw_G) : Prop := M 0 7 = N 0 2 ∧ M 0 8 = N 0 3 ∧ L 0 9 = K 0 1 ∧ M 1 7 = N 0 4 ∧ (0 ≤ N 0 4 ∧ N 0 4 < 30) ∧ (0 ≤ N 0 3 ∧ N 0 3 ≤ 3)
def rl_g (M : fw_F) (L : fw_G) (N : fw_F) (K : fw_G) : Prop := ab_wf (N 0 2) (N 1) (md_G N) (M 3) (M 1 6) ∧ cl_G M (N 1) (md_G N) ∧ (∀ x, ab_lv (N 1) x → md_G N x 0 = 3 → L (8 + 2 * x) 11 = K 3 x) ∧ (∀ p, 0 ≤ p → p < 4 → M 4 p = N 1 p)
def rl_k (M : fw_F) (N : fw_F) : Prop := (∀ d m p, 0 ≤ d → d ≤ N 0 4 → 0 ≤ m → m < 4 → 0 ≤ p → p < 4 → M 5 ((d * 4 + m) * 4 + p) = rl_kn N d m p ∧ 0 ≤ rl_kn N d m p ∧ rl_kn N d m p ≤ N 1 p) ∧ (∀ m, 0 ≤ m → m < 4 → N 4 (4 * m + m) = N 1 m)
def rl_o (M : fw_F) (N : fw_F) : Prop := ab_apok (N 6) ∧ (∀ p, 0 ≤ p → p < 4 → M 6 p = N 6 p ∧ M 7 p = ab_LF (md_G N) (M 3) (N 6) (M 1 6).toNat p)
def rl_p (M : fw_F) (L : fw_G) (N : fw_F) (K : fw_G) : Prop := ∃ P Q : Int → List pc_P, ∀ m, 0 ≤ m → m < 4 → (ps_at M L (179 + 3 * m) (P m) ∧ pm_at N K m (Q m)) ∧ ((P m).Perm (Q m) ∧ (P m).Nodup ∧ pc_ok (P m)) ∧ pc_sz (P m) ≤ N 20 m ∧ M 197 m = N 20 m ∧ 0 ≤ N 20 m ∧ N 20 m ≤ 200
def rl_s (M : fw_F) (N : fw_F) : Prop := M 198 4 = N 0 31 ∧ (0 ≤ N 0 31 ∧ N 0 31 ≤ 20) ∧ ∀ i, 0 ≤ i → i < N 0 31 → M 199 i = N 26 i ∧ M 200 i = N 27 i ∧ M 201 i = N 28 i ∧ M 202 i = N 29 i
def Rel (M : fw_F) (L : fw_G) (N : fw_F) (K : fw_G) : Prop := rl_a M L N K ∧ rl_g M L N K ∧ rl_k M N ∧ rl_o M N ∧ rl_p M L N K ∧ rl_s M N
/-- what the model may change unseen -/
def rl_mq (N : fw_F) (K : fw_G) (N2 : fw_F) (K2 : fw_G) : Prop := (∀ k, (1 ≤ k ∧ k ≤ 6) ∨ (20 ≤ k ∧ k ≤ 23) ∨ 26 ≤ k → N2 k = N k ∧ K2 k = K k) ∧ (∀ j, ¬ j = 0 → ¬ j = 28 → N2 0 j = N 0 j) ∧ K2 0 = K 0
theorem rl_mq_kn {N N2 : fw_F} {K K2 : fw_G} (h : rl_mq N K N2 K2) (d m p : Int) : rl_kn N2 d m p = rl_kn N d m p := by
  unfold rl_kn
  rw [h.2.1 4 (by decide) (by decide), (h.1 4 (by omega)).1, (h.1 5 (by omega)).1]
theorem rl_md {M N N2 : fw_F} {L K K2 : fw_G} (hR : Rel M L N K) (h : rl_mq N K N2 K2) : Rel M L N2 K2 := by
  obtain ⟨ha, hg, hk, ho, hp, hs⟩ := hR
  have e2 := h.2.1 2 (by decide) (by decide)
  have e3 := h.2.1 3 (by decide) (by decide)
  have e4 := h.2.1 4 (by decide) (by decide)
  have e31 := h.2.1 31 (by decide) (by decide)
  have c1 := (h.1 1 (by omega)).1
  have c2 := md_G_of (h.1 2 (by omega)).1
  have c3 := (h.1 3 (by omega)).2
  have c4 := (h.1 4 (by omega)).1
  have c6 := (h.1 6 (by omega)).1
  have c20 := (h.1 20 (by omega)).1
  have c21 := (h.1 21 (by omega)).1
  have c22 := (h.1 22 (by omega)).2
  have c23 := (h.1 23 (by omega)).1
  have c26 := (h.1 26 (by omega)).1
  have c27 := (h.1 27 (by omega)).1
  have c28 := (h.1 28 (by omega)).1
  have c29 := (h.1 29 (by omega)).1
  refine ⟨?_, ?_, ?_, ?_, ?_, ?_⟩
  · unfold rl_a at ha ⊢
    rw [e2, e3, e4, h.2.2]; exact ha
  · unfold rl_g at hg ⊢
    rw [e2, c1, c2, c3]; exact hg
  · refine ⟨fun d m p a b c d' e f => ?_, fun m a b => ?_⟩
    · rw [rl_mq_kn h, c1]; rw [e4] at b; exact hk.1 d m p a b c d' e f
    · rw [c4, c1]; exact hk.2 m a b
  · unfold rl_o at ho ⊢
    rw [c2, c6]; exact ho
  · obtain ⟨P, Q, hPQ⟩ := hp
    refine ⟨P, Q, fun m a b => ?_⟩
    rw [c20]
    obtain ⟨⟨p1, p2⟩, p3⟩ := hPQ m a b
    exact ⟨⟨p1, pm_at_fr p2 c21 c23 c22⟩, p3⟩
  · unfold rl_s at hs ⊢
    rw [e31, c26, c27, c28, c29]; exact hs
/-- what the class may change unseen -/
def rl_cq (M : fw_F) (L : fw_G) (M2 : fw_F) (L2 : fw_G) : Prop := ∀ k, (k < 169 ∨ 177 < k) → (k < 191 ∨ 196 < k) → M2 k = M k ∧ L2 k = L k
theorem rl_cl {M M2 N : fw_F} {L L2 K : fw_G} (hR : Rel M L N K) (h : rl_cq M L M2 L2) : Rel M2 L2 N K := by
  obtain ⟨ha, hg, hk, ho, hp, hs⟩ := hR
  have c0 := h 0 (by omega) (by omega)
  have c1 := (h 1 (by omega) (by omega)).1
  have c3 := (h 3 (by omega) (by omega)).1
  have c4 := (h 4 (by omega) (by omega)).1
  have c5 := (h 5 (by omega) (by omega)).1
  have c6 := (h 6 (by omega) (by omega)).1
  have c7 := (h 7 (by omega) (by omega)).1
  have c197 := (h 197 (by omega) (by omega)).1
  have c198 := (h 198 (by omega) (by omega)).1
  have c199 := (h 199 (by omega) (by omega)).1
  have c200 := (h 200 (by omega) (by omega)).1
  have c201 := (h 201 (by omega) (by omega)).1
  have c202 := (h 202 (by omega) (by omega)).1
  refine ⟨?_, ?_, ?_, ?_, ?_, ?_⟩
  · unfold rl_a at ha ⊢
    rw [c0.1, c0.2, c1]; exact ha
  · obtain ⟨g1, g2, g3, g4⟩ := hg
    refine ⟨by rw [c3, c1]; exact g1, cl_G_of g2 (fun k a b => (h k (by omega) (by omega)).1), fun x hx hx3 => ?_, by rw [c4]; exact g4⟩
    rw [(h (8 + 2 * x) (by have := hx.1; have := hx.2.1; omega) (by have := hx.1; have := hx.2.1; omega)).2]
    exact g3 x hx hx3
  · unfold rl_k at hk ⊢
    rw [c5]; exact hk
  · unfold rl_o at ho ⊢
    rw [c6, c7, c3, c1]; exact ho
  · obtain ⟨P, Q, hPQ⟩ := hp
    refine ⟨P, Q, fun m a b => ?_⟩
    rw [c197]
    obtain ⟨⟨p1, p2⟩, p3⟩ := hPQ m a b
    exact ⟨⟨ps_at_fr p1 (h _ (by omega) (by omega)).1 (h _ (by omega) (by omega)).1 (h _ (by omega) (by omega)).2, p2⟩, p3⟩
  · unfold rl_s at hs ⊢
    rw [c198, c199, c200, c201, c202]; exact hs
/-! names, told of the tree alone -/
noncomputable def ab_LB (S : ab_S) (e : Int) : Int → Int := fun t => if t = 0 then 0 else (Classical.epsilon (fun lab : Int → Int => ab_lab (S.1 1) (S.1 3) (S.1 4) (S.1 5) e lab)) t
theorem ab_LB_rng {S : ab_S} {G : fw_F} {O : Int → Int} {j : Nat} {e : Int} {lab : Int → Int} (hi : ab_ti G O j S) (h : ab_lab (S.1 1) (S.1 3) (S.1 4) (S.1 5) e lab) (h0 : lab 0 = 0) : ∀ t, 0 ≤ t → t < 12 → ¬ S.1 1 t = 0 → 0 ≤ lab t ∧ lab t ≤ 21 := by
  intro t t0 t1 ht
  by_cases hz : t = 0
  · rw [hz, h0]; decide
  · have hth : ab_th (S.1 1) t := ⟨by omega, t1, ht⟩
    have h1 := h t hth
    by_cases hq : ab_at (S.1 1) (S.1 3) (S.1 5) e lab t (S.1 4 t)
    · obtain ⟨a, b, c⟩ := h1.1 hq
      refine ⟨by omega, ab_names (lab := lab) (fun v v0 v1 => ?_)⟩
      obtain ⟨u, u1, u2, u3, u4⟩ := c v v0 v1
      exact ⟨u, u1.1, u1.2.1, u4⟩
    · rw [h1.2 hq]
      have := (hi.1 t t0 t1).2.2.2.2
      omega
theorem ab_LB_of {S : ab_S} {G : fw_F} {O : Int → Int} {j : Nat} {e : Int} {lab : Int → Int} (hi : ab_ti G O j S) (h : ab_lab (S.1 1) (S.1 3) (S.1 4) (S.1 5) e lab) (h0 : lab 0 = 0) : ∀ t, 0 ≤ t → t < 12 → ¬ S.1 1 t = 0 → lab t = ab_LB S e t ∧ 0 ≤ lab t ∧ lab t ≤ 21 := by
  intro t t0 t1 ht
  refine ⟨?_, ab_LB_rng hi h h0 t t0 t1 ht⟩
  unfold ab_LB
  by_cases hz : t = 0
  · rw [if_pos hz, hz]; exact h0
  · rw [if_neg hz]
    have hs := Classical.epsilon_spec (p := fun lab : Int → Int => ab_lab (S.1 1) (S.1 3) (S.1 4) (S.1 5) e lab) ⟨lab, h⟩
    refine ab_lab_uniq (B := (j : Int)) (fun u hu => ?_) h hs t ⟨by omega, t1, ht⟩
    have h1 := hi.1 u (by have := hu.1; omega) hu.2.1
    have h2 : S.1 0 u = 1 := h1.2.2.1 (by rcases h1.2.1 with q | q; exact absurd q hu.2.2; exact q)
    have h3 := hi.2.2.2.1 u hu.1 hu.2.1 h2
    exact ⟨h3.1, h3.2.1⟩
def ab_apt (S : ab_S) (e : Int) : Prop := ∀ a b, 1 ≤ a → a < 12 → 1 ≤ b → b < 12 → ¬ S.1 1 a = 0 → ¬ S.1 1 b = 0 → S.1 3 a = S.1 3 b → ab_LB S e a = ab_LB S e b → a = b
theorem ab_apt_of {S : ab_S} {G : fw_F} {O : Int → Int} {j : Nat} {e : Int} {lab : Int → Int} (hi : ab_ti G O j S) (h : ab_lab (S.1 1) (S.1 3) (S.1 4) (S.1 5) e lab) (h0 : lab 0 = 0) : ab_apt S e := by
  intro a b a0 a1 b0 b1 ha hb hf hl
  have e1 := (ab_LB_of hi h h0 a (by omega) a1 ha).1
  have e2 := (ab_LB_of hi h h0 b (by omega) b1 hb).1
  have made : ∀ u, ab_th (S.1 1) u → S.1 0 u = 1 := fun u hu => by
    have h1 := hi.1 u (by have := hu.1; omega) hu.2.1
    exact h1.2.2.1 (by rcases h1.2.1 with q | q; exact absurd q hu.2.2; exact q)
  refine ab_lab_apart (fun u hu => (hi.1 u (by have := hu.1; omega) hu.2.1).2.2.2.2) (fun u v hu hv huv => ?_) h a b ⟨a0, a1, ha⟩ ⟨b0, b1, hb⟩ hf (by rw [e1, e2]; exact hl)
  have h1 := (hi.2.2.2.1 u hu.1 hu.2.1 (made u hu)).2.2
  have h2 := (hi.2.2.2.1 v hv.1 hv.2.1 (made v hv)).2.2
  rw [huv] at h1
  exact h1.symm.trans h2
def cl_V (M : fw_F) (S : ab_S) (e : Int) : Prop := cl_T M S ∧ (∀ t, 0 ≤ t → t < 12 → ¬ S.1 1 t = 0 → M 174 t = ab_LB S e t ∧ 0 ≤ M 174 t ∧ M 174 t ≤ 21) ∧ ab_apt S e
def md_V (N : fw_F) (S : ab_S) (e : Int) : Prop := md_T N S ∧ (∀ t, 0 ≤ t → t < 12 → ¬ S.1 1 t = 0 → N 16 t = ab_LB S e t ∧ 0 ≤ N 16 t ∧ N 16 t ≤ 21) ∧ ab_apt S e
theorem cl_V_of {M : fw_F} {S : ab_S} {G : fw_F} {O : Int → Int} {j : Nat} {e : Int} (hi : ab_ti G O j S) (hT : cl_T M S) (h0 : M 174 0 = 0) (h : ab_lab (M 170) (M 172) (M 173) (M 175) e (M 174)) : cl_V M S e := by
  suffices h' : ab_lab (S.1 1) (S.1 3) (S.1 4) (S.1 5) e (M 174) from ⟨hT, ab_LB_of hi h' h0, ab_apt_of hi h' h0⟩
  refine ab_lab_congr (fun t a b => ?_) (fun t a => ?_) (fun t a => ?_) (fun t u a b => ?_) h
  · exact (hT t (by omega) b).2.1.symm
  · exact (hT t (by have := a.1; omega) a.2.1).2.2.2.1.symm
  · exact (hT t (by have := a.1; omega) a.2.1).2.2.2.2.1.symm
  · rw [(hT t (by have := a.1; omega) a.2.1).2.2.2.2.2.1, (hT u (by have := b.1; omega) b.2.1).2.2.2.2.2.1]
theorem md_V_of {N : fw_F} {S : ab_S} {G : fw_F} {O : Int → Int} {j : Nat} {e od : Int} (hi : ab_ti G O j S) (hT : md_T N S) (hP : md_P N S od) (h0 : N 16 0 = 0) (h : ab_lab (N 11) (N 13) (N 14) (N 15) e (N 16)) : md_V N S e := by
  have h9 := (md_inj hT hi hP).2.2
  suffices h' : ab_lab (S.1 1) (S.1 3) (S.1 4) (S.1 5) e (N 16) from ⟨hT, ab_LB_of hi h' h0, ab_apt_of hi h' h0⟩
  refine ab_lab_congr (fun t a b => ?_) (fun t a => ?_) (fun t a => ?_) (fun t u a b => ?_) h
  · exact (hT t (by omega) b).2.1.symm
  · exact (hT t (by have := a.1; omega) a.2.1).2.2.2.1.symm
  · exact (hT t (by have := a.1; omega) a.2.1).2.2.2.2.1.symm
  · exact (hP.2 t u a.1 a.2.1 b.1 b.2.1 (h9 t a) (h9 u b)).symm
/-- the tree of a machine at a day -/
noncomputable def rl_S (M N : fw_F) (m d : Int) : ab_S := ab_TT (md_G N) (M 3) (rl_kn N d m) (ab_LF (md_G N) (M 3) (N 6) (M 1 6).toNat) (N 0 3) (M 1 6).toNat
noncomputable def rl_e (N : fw_F) : Int := fw_and (N 0 3) 2
theorem rl_ti {M N : fw_F} {L K : fw_G} (hR : Rel M L N K) (m d : Int) : ab_ti (md_G N) (M 3) (M 1 6).toNat (rl_S M N m d) := by
  have hT := ab_T80 hR.2.1.1
  exact ab_ti_TT hR.2.1.1 _ _ _ _ (by omega)
theorem rl_S_cl {M N : fw_F} {L K : fw_G} (hR : Rel M L N K) {m d : Int} (hm : 0 ≤ m ∧ m < 4) (hd : 0 ≤ d ∧ d ≤ N 0 4) : ab_TT (md_G N) (M 3) (fun p => M 5 ((d * 4 + m) * 4 + p)) (M 7) (N 0 3) (M 1 6).toNat = rl_S M N m d := by
  have hT := ab_T80 hR.2.1.1
  refine ab_TT_congr hR.2.1.1 (fun p a b => (hR.2.2.1.1 d m p hd.1 hd.2 hm.1 hm.2 a b).1) (fun p i a b c e => ?_) _ (by omega)
  rw [(hR.2.2.2.1.2 p a b).2]
theorem rl_grow {M N : fw_F} {L K : fw_G} (hR : Rel M L N K) {m d : Int} (hm : 0 ≤ m ∧ m < 4) (hd : 0 ≤ d ∧ d ≤ N 0 4) : fw_SC mX4_grow [fw_r 168, fw_i m, fw_i d, fw_i (N 0 3)] M L (fun r M2 L2 => r = none ∧ L2 = L ∧ (∀ k, k < 169 ∨ 177 < k → M2 k = M k) ∧ cl_V M2 (rl_S M N m d) (rl_e N)) := by
  refine fw_SP_mono (sp_X4_grow m d (N 0 3) (N 0 2) M (md_G N) (N 1) L hR.2.1.1 hR.2.1.2.1 hm ⟨hd.1, by have := hR.1.2.2.2.2.1; omega⟩) (fun r M2 L2 _ h => ?_)
  obtain ⟨h1, h2, h3, h4, h5, h6⟩ := h
  rw [rl_S_cl hR hm hd] at h4
  exact ⟨h1, h2, h3, cl_V_of (rl_ti hR m d) h4 h5 h6⟩
theorem rl_growNow {M N : fw_F} {L K : fw_G} (hR : Rel M L N K) {m : Int} (hm : 0 ≤ m ∧ m < 4) : fw_SC mX5_growNow [fw_r 0, fw_i m] M L (fun r M2 L2 => r = none ∧ L2 = L ∧ (∀ k, k < 169 ∨ 177 < k → M2 k = M k) ∧ cl_V M2 (rl_S M N m (N 0 4)) (rl_e N)) := by
  have ha := hR.1
  refine fw_SP_mono (sp_X5_growNow m (N 0 2) M (md_G N) (N 1) L hR.2.1.1 hR.2.1.2.1 hm (by rw [ha.2.2.2.1]; exact ha.2.2.2.2.1)) (fun r M2 L2 _ h => ?_)
  obtain ⟨h1, h2, h3, h4, h5, h6⟩ := h
  rw [ha.2.2.2.1, ha.2.1, rl_S_cl hR hm ⟨ha.2.2.2.2.1.1, Int.le_refl _⟩] at h4
  rw [ha.2.1] at h6
  exact ⟨h1, h2, h3, cl_V_of (rl_ti hR m _) h4 h5 h6⟩
theorem rl_thr {M N : fw_F} {L K : fw_G} (hR : Rel M L N K) (v : Int) : Rel M L (fw_upd N 0 0 v) K := rl_md hR ⟨fun k a => ⟨fw_updne (by omega), rfl⟩, fun j a b => fw_updjn a, rfl⟩
theorem rl_mq_thr (N : fw_F) (K : fw_G) (v : Int) : rl_mq N K (fw_upd N 0 0 v) K := ⟨fun k a => ⟨fw_updne (by omega), rfl⟩, fun j a b => fw_updjn a, rfl⟩
theorem rl_mq_tr {N N2 N3 : fw_F} {K K2 K3 : fw_G} (h : rl_mq N K N2 K2) (h2 : rl_mq N2 K2 N3 K3) : rl_mq N K N3 K3 := ⟨fun k a => ⟨(h2.1 k a).1.trans (h.1 k a).1, (h2.1 k a).2.trans (h.1 k a).2⟩, fun j a b => (h2.2.1 j a b).trans (h.2.1 j a b), h2.2.2.trans h.2.2⟩
theorem rl_mq_of {N N2 : fw_F} {K : fw_G} (h : ∀ k, k < 7 ∨ 19 < k → N2 k = N k) : rl_mq N K N2 K := ⟨fun k a => ⟨h k (by omega), rfl⟩, fun j _ _ => by rw [h 0 (by omega)], rfl⟩
theorem rl_mq_rf (N : fw_F) (K : fw_G) : rl_mq N K N K := ⟨fun _ _ => ⟨rfl, rfl⟩, fun _ _ _ => rfl, rfl⟩
theorem rl_tellsOf {M N : fw_F} {L K : fw_G} (hR : Rel M L N K) {m d : Int} (hm : 0 ≤ m ∧ m < 4) (hd : 0 ≤ d ∧ d ≤ N 0 4) : fw_SD mX6_tellsOf [fw_r 0, fw_i m, fw_i d] N K (fun r N2 K2 => r = none ∧ K2 = K ∧ (∀ k, k < 7 ∨ 19 < k → N2 k = N k) ∧ md_V N2 (rl_S M N m d) (rl_e N)) := by
  refine fw_SP_mono (sp_X6_tellsOf (M 1 6) N (M 3) K hR.2.1.1 hR.2.2.2.1.1 m hm d ⟨hd.1, by have := hR.1.2.2.2.2.1; omega⟩ (fun p a b => (hR.2.2.1.1 d m p hd.1 hd.2 hm.1 hm.2 a b).2)) (fun r M2 L2 _ h => ?_)
  obtain ⟨h1, h2, h3, h4, ⟨od, h5⟩, h6, h7⟩ := h
  exact ⟨h1, h2, h3, md_V_of (rl_ti hR m d) h4 h5 h6 h7⟩
theorem rl_kn_now {N : fw_F} (m : Int) : rl_kn N (N 0 4) m = fun p => N 4 (4 * m + p) := by
  funext p
  unfold rl_kn
  rw [if_pos rfl]
theorem rl_tellsNow {M N : fw_F} {L K : fw_G} (hR : Rel M L N K) {m : Int} (hm : 0 ≤ m ∧ m < 4) : fw_SD mX6_tellsNow [fw_r 0, fw_i m] N K (fun r N2 K2 => r = none ∧ K2 = K ∧ (∀ k, k < 7 ∨ 19 < k → N2 k = N k) ∧ md_V N2 (rl_S M N m (N 0 4)) (rl_e N)) := by
  have hk := fun p a b => (hR.2.2.1.1 (N 0 4) m p hR.1.2.2.2.2.1.1 (Int.le_refl _) hm.1 hm.2 a b).2
  rw [rl_kn_now] at hk
  refine fw_SP_mono (sp_X6_tellsNow (M 1 6) N (M 3) K hR.2.1.1 hR.2.2.2.1.1 m hm hk) (fun r M2 L2 _ h => ?_)
  obtain ⟨h1, h2, h3, h4, ⟨od, h5⟩, h6, h7⟩ := h
  rw [← rl_kn_now] at h4 h5
  exact ⟨h1, h2, h3, md_V_of (rl_ti hR m _) h4 h5 h6 h7⟩
