/-! rows of things, told of the tree -/
def ab_rwf (S : ab_S) (t r : Int) : Int := ((S.2 t)[r.toNat]?).getD 0
theorem rl_rows {M N : fw_F} {L K : fw_G} (hR : Rel M L N K) (m d : Int) {t : Int} (ht : 0 ≤ t ∧ t < 12) : ((rl_S M N m d).2 t).length ≤ 4 ∧ ∀ r, 0 ≤ r → r < (((rl_S M N m d).2 t).length : Int) → ((rl_S M N m d).2 t)[r.toNat]? = some (ab_rwf (rl_S M N m d) t r) ∧ ab_lv (N 1) (ab_rwf (rl_S M N m d) t r) ∧ md_G N (ab_rwf (rl_S M N m d) t r) 0 = 3 ∧ 0 ≤ md_G N (ab_rwf (rl_S M N m d) t r) 3 ∧ md_G N (ab_rwf (rl_S M N m d) t r) 3 ≤ 8 := by
  have hT := ab_T80 hR.2.1.1
  have hti := rl_ti hR m d
  obtain ⟨h1, h2⟩ := ab_rows hR.2.1.1 (j := (M 1 6).toNat) (by omega) hti ht.1 ht.2
  refine ⟨h2, fun r r0 r1 => ?_⟩
  have hlt : r.toNat < ((rl_S M N m d).2 t).length := by omega
  obtain ⟨y, hy⟩ : ∃ y, ((rl_S M N m d).2 t)[r.toNat]? = some y := ⟨_, List.getElem?_eq_getElem hlt⟩
  have e : ab_rwf (rl_S M N m d) t r = y := by unfold ab_rwf; rw [hy]; rfl
  rw [e]
  have hm := List.mem_of_getElem? hy
  have h3 := (hti.2.2.2.2 t ht.1 ht.2).2.1 y hm
  have h4 := hR.2.1.1.2.1 y (h1 y hm)
  have h5 := h4.2.2.2.2.1 h3.2.1
  exact ⟨hy, h1 y hm, h3.2.1, h5⟩
theorem rl_crw {M N M1 : fw_F} {L K : fw_G} (hR : Rel M L N K) {m d t : Int} (ht : 0 ≤ t ∧ t < 12) (g1 : ∀ k, k < 169 ∨ 177 < k → M1 k = M k) (g2 : cl_V M1 (rl_S M N m d) (rl_e N)) : cl_rw M1 t ∧ M1 176 t = (((rl_S M N m d).2 t).length : Int) ∧ ∀ r, 0 ≤ r → r < (((rl_S M N m d).2 t).length : Int) → M1 177 (t * 4 + r) = ab_rwf (rl_S M N m d) t r ∧ M1 (8 + 2 * ab_rwf (rl_S M N m d) t r) 10 = md_G N (ab_rwf (rl_S M N m d) t r) 3 ∧ L (8 + 2 * ab_rwf (rl_S M N m d) t r) 11 = K 3 (ab_rwf (rl_S M N m d) t r) ∧ (0 ≤ ab_rwf (rl_S M N m d) t r ∧ ab_rwf (rl_S M N m d) t r < 80) := by
  obtain ⟨h4, hr⟩ := rl_rows hR m d ht
  obtain ⟨-, -, -, -, -, -, e6, e7⟩ := g2.1 t ht.1 ht.2
  have key : ∀ r, 0 ≤ r → r < (((rl_S M N m d).2 t).length : Int) → M1 177 (t * 4 + r) = ab_rwf (rl_S M N m d) t r ∧ M1 (8 + 2 * ab_rwf (rl_S M N m d) t r) 10 = md_G N (ab_rwf (rl_S M N m d) t r) 3 ∧ L (8 + 2 * ab_rwf (rl_S M N m d) t r) 11 = K 3 (ab_rwf (rl_S M N m d) t r) ∧ (0 ≤ ab_rwf (rl_S M N m d) t r ∧ ab_rwf (rl_S M N m d) t r < 80) := by
    intro r r0 r1
    obtain ⟨a1, a2, a3, a4⟩ := hr r r0 r1
    have h7 := e7 r.toNat _ a1
    rw [show ((r.toNat : Nat) : Int) = r by omega] at h7
    have hb := cl_x_rng a2
    refine ⟨h7, ?_, hR.2.1.2.2.1 _ a2 a3, a2.1, a2.2.1⟩
    rw [g1 _ (by omega)]
    exact (hR.2.1.2.1 _ a2).2.2.2.1 a3
  refine ⟨⟨ht, by omega, fun r r0 r1 => ?_⟩, e6, key⟩
  obtain ⟨b1, b2, b3, b4⟩ := key r r0 (by omega)
  rw [b1, b2]
  exact ⟨b4, (hr r r0 (by omega)).2.2.2⟩
theorem rl_mrw {M N N1 : fw_F} {L K : fw_G} (hR : Rel M L N K) {m d t : Int} (ht : 0 ≤ t ∧ t < 12) (g1 : ∀ k, k < 7 ∨ 19 < k → N1 k = N k) (g2 : md_V N1 (rl_S M N m d) (rl_e N)) : md_rw N1 t ∧ N1 17 t = (((rl_S M N m d).2 t).length : Int) ∧ ∀ r, 0 ≤ r → r < (((rl_S M N m d).2 t).length : Int) → N1 18 (16 * t + r) = ab_rwf (rl_S M N m d) t r ∧ N1 2 (12 * ab_rwf (rl_S M N m d) t r + 3) = md_G N (ab_rwf (rl_S M N m d) t r) 3 ∧ (0 ≤ ab_rwf (rl_S M N m d) t r ∧ ab_rwf (rl_S M N m d) t r < 80) := by
  obtain ⟨h4, hr⟩ := rl_rows hR m d ht
  obtain ⟨-, -, -, -, -, e6, e7⟩ := g2.1 t ht.1 ht.2
  have key : ∀ r, 0 ≤ r → r < (((rl_S M N m d).2 t).length : Int) → N1 18 (16 * t + r) = ab_rwf (rl_S M N m d) t r ∧ N1 2 (12 * ab_rwf (rl_S M N m d) t r + 3) = md_G N (ab_rwf (rl_S M N m d) t r) 3 ∧ (0 ≤ ab_rwf (rl_S M N m d) t r ∧ ab_rwf (rl_S M N m d) t r < 80) := by
    intro r r0 r1
    obtain ⟨a1, a2, a3, a4⟩ := hr r r0 r1
    have h7 := e7 r.toNat _ a1
    rw [show ((r.toNat : Nat) : Int) = r by omega] at h7
    refine ⟨h7, ?_, a2.1, a2.2.1⟩
    rw [g1 2 (by omega)]
    rfl
  refine ⟨⟨ht, by omega, fun r r0 r1 => ?_⟩, e6, key⟩
  obtain ⟨b1, b2, b4⟩ := key r r0 (by omega)
  rw [b1, b2]
  exact ⟨b4, (hr r r0 (by omega)).2.2.2⟩
def rl_bc (N : fw_F) (S : ab_S) (t : Int) : Int := ab_sm (fun r => md_G N (ab_rwf S t r) 3) (S.2 t).length
def rl_bt (N : fw_F) (K : fw_G) (S : ab_S) (t : Int) : Int := ab_sm (fun r => ab_sm (fun i => ab_by (K 3 (ab_rwf S t r)) (md_G N (ab_rwf S t r) 3) i) (md_G N (ab_rwf S t r) 3).toNat) (S.2 t).length
def rl_fs (N : fw_F) (K : fw_G) (S : ab_S) (t : Int) : List pc_P := pc_fr (fun y => K 3 y) (fun y => md_G N y 3) (ab_rwf S t) (S.2 t).length
theorem rl_cbc {M N M1 : fw_F} {L K : fw_G} (hR : Rel M L N K) {m d t : Int} (ht : 0 ≤ t ∧ t < 12) (g1 : ∀ k, k < 169 ∨ 177 < k → M1 k = M k) (g2 : cl_V M1 (rl_S M N m d) (rl_e N)) : cl_bc M1 t = rl_bc N (rl_S M N m d) t ∧ cl_bt M1 L t = rl_bt N K (rl_S M N m d) t ∧ cl_fs M1 L t = rl_fs N K (rl_S M N m d) t := by
  obtain ⟨-, h1, h2⟩ := rl_crw hR ht g1 g2
  unfold cl_bc cl_bt cl_fs rl_bc rl_bt rl_fs
  rw [show (M1 176 t).toNat = ((rl_S M N m d).2 t).length by omega]
  refine ⟨ab_sm_congr _ (fun r a b => ?_), ab_sm_congr _ (fun r a b => ?_), pc_fr_congr _ (fun r a b => ?_)⟩ <;> obtain ⟨b1, b2, b3, b4⟩ := h2 r a b
  · rw [b1, b2]
  · rw [b1, b2, b3]
  · rw [b1, b2, b3]; exact ⟨rfl, rfl⟩
theorem rl_mbc {M N N1 : fw_F} {L K : fw_G} (hR : Rel M L N K) {m d t : Int} (ht : 0 ≤ t ∧ t < 12) (g1 : ∀ k, k < 7 ∨ 19 < k → N1 k = N k) (g2 : md_V N1 (rl_S M N m d) (rl_e N)) : md_bc N1 t = rl_bc N (rl_S M N m d) t ∧ md_fs N1 K t = rl_fs N K (rl_S M N m d) t := by
  obtain ⟨-, h1, h2⟩ := rl_mrw hR ht g1 g2
  unfold md_bc md_fs rl_bc rl_fs
  rw [show (N1 17 t).toNat = ((rl_S M N m d).2 t).length by omega]
  refine ⟨ab_sm_congr _ (fun r a b => ?_), pc_fr_congr _ (fun r a b => ?_)⟩ <;> obtain ⟨b1, b2, b4⟩ := h2 r a b
  · rw [b1, b2]
  · rw [b1, b2]; exact ⟨rfl, rfl⟩
theorem rl_l0 {M N : fw_F} {L K L2 K2 : fw_G} (hR : Rel M L N K) (h1 : ∀ k, ¬ k = 0 → L2 k = L k) (h2 : ∀ k, ¬ k = 0 → K2 k = K k) (h : L2 0 9 = K2 0 1) : Rel M L2 N K2 := by
  obtain ⟨ha, hg, hk, ho, hp, hs⟩ := hR
  refine ⟨⟨ha.1, ha.2.1, h, ha.2.2.2⟩, ⟨hg.1, hg.2.1, fun x hx hx3 => ?_, hg.2.2.2⟩, hk, ho, ?_, hs⟩
  · rw [h1 _ (by have := hx.1; omega), h2 3 (by decide)]; exact hg.2.2.1 x hx hx3
  · obtain ⟨P, Q, hPQ⟩ := hp
    refine ⟨P, Q, fun m a b => ?_⟩
    obtain ⟨⟨p1, p2⟩, p3⟩ := hPQ m a b
    exact ⟨⟨ps_at_fr p1 rfl rfl (h1 _ (by omega)), pm_at_fr p2 rfl rfl (h2 _ (by decide))⟩, p3⟩
/-- is a file -/
theorem md_isFl {N : fw_F} {S : ab_S} {G : fw_F} {O : Int → Int} {j : Nat} (hT : md_T N S) (hi : ab_ti G O j S) {u : Int} (h0 : 0 ≤ u) (h1 : u < 12) : (¬ N 11 u = 0 ∧ N 12 u = 1) ↔ (¬ S.1 1 u = 0 ∧ S.1 2 u = 1) := by
  obtain ⟨e0, e1, e2, -⟩ := hT u h0 h1
  have h := ti_there hi ⟨h0, h1⟩
  rw [e1]
  constructor
  · rintro ⟨a, b⟩; exact ⟨a, by rw [← e2 (h.2 a)]; exact b⟩
  · rintro ⟨a, b⟩; exact ⟨a, by rw [e2 (h.2 a)]; exact b⟩
def an_bytes (n : Int) (S : ab_S) (m t i w sz bb : Int) : Int := if ¬ ((0 ≤ m ∧ m < n) ∧ (0 ≤ t ∧ t < 12)) then -1 else if ¬ (¬ S.1 1 t = 0 ∧ S.1 2 t = 1) then -2 else if ¬ (0 ≤ i ∧ i < ((S.2 t).length : Int)) then -1 else if w = -1 then sz else if ¬ (0 ≤ w ∧ w < sz) then -1 else bb

set_option maxRecDepth 20000 in
set_option maxHeartbeats 4000000 in
theorem sp_X5_bytes (M N : fw_F) (L K : fw_G) (hR : Rel M L N K) (m t i w : Int) : fw_SC mX5_bytes [fw_r 0, fw_i m, fw_i t, fw_i i, fw_i w] M L (fun r M2 L2 => r = some (fw_i (an_bytes (N 0 2) (rl_S M N m (N 0 4)) m t i w (md_G N (ab_rwf (rl_S M N m (N 0 4)) t i) 3) (ab_by (K 3 (ab_rwf (rl_S M N m (N 0 4)) t i)) (md_G N (ab_rwf (rl_S M N m (N 0 4)) t i) 3) w))) ∧ Rel M2 L2 N K) := by
  refine fw_SP_of pl_X5_bytes (ls := [_, _, _, _, _]) rfl (Nat.le_of_ble_eq_true rfl) fun hA hM => ?_
  obtain ⟨ha1, ha2, ha3, ha4, ha5, ha6⟩ := hR.1
  have hn1 := hR.2.1.1.1.1
  have hn2 := hR.2.1.1.1.2.1
  refine fw_aload_n dX5_bytes_0 rfl rfl ?_
  refine fw_iload_n dX5_bytes_1 rfl rfl ?_
  refine fw_pV mX5_isMachine [_] dX5_bytes_2 mv_X5_isMachine lk_5_62 ⟨⟨by decide, by decide⟩, rfl, rfl, rfl, by decide, by decide⟩ ly0_0 ⟨by decide, by decide⟩ rfl rfl (Nat.le_of_ble_eq_true rfl) (sp_X5_isMachine _ _ _) ?_
  refine fw_bifeq 15 dX5_bytes_5 (by decide) (fun h5 => ?_) (fun h5 => ?_)
  · skip
    refine fw_iconst dX5_bytes_15 ⟨by decide, by decide⟩ ?_
    exact fw_iret dX5_bytes_16 ⟨rfl, rfl, rfl⟩ (⟨(by congr 2; unfold an_bytes; (repeat' split) <;> omega), hR⟩)
  · skip
    refine fw_iload_n dX5_bytes_8 rfl rfl ?_
    refine fw_pS mX5_isThing [_] dX5_bytes_9 mv_X5_isThing lk_5_66 ⟨⟨by decide, by decide⟩, rfl, rfl, rfl, by decide, by decide⟩ rfl rfl (Nat.le_of_ble_eq_true rfl) (sp_X5_isThing _ _ _) ?_
    refine fw_bifne 17 dX5_bytes_12 (by decide) (fun h12 => ?_) (fun h12 => ?_)
    · skip
      refine fw_aload_n dX5_bytes_17 rfl rfl ?_
      refine fw_iload_n dX5_bytes_18 rfl rfl ?_
      refine fw_cV mX5_growNow [_] dX5_bytes_19 mv_X5_growNow lk_5_72 ⟨⟨by decide, by decide⟩, rfl, rfl, rfl, by decide, by decide⟩ ly0_0 ⟨by decide, by decide⟩ rfl rfl (Nat.le_of_ble_eq_true rfl) (rl_growNow hR (by omega)) (fun r M1 L1 hp hM1 => ?_)
      obtain ⟨rfl, rfl, g1, g2⟩ := hp
      obtain ⟨e0, e1, e2, e3, e4, e5, e6, e7⟩ := g2.1 t (by omega) (by omega)
      obtain ⟨r1, r2, r3⟩ := rl_crw hR (t := t) (by omega) g1 g2
      have r4 := (rl_rows hR m (N 0 4) (t := t) (by omega)).1
      have r5 := (rl_rows hR m (N 0 4) (t := t) (by omega)).2
      refine fw_aload_n dX5_bytes_22 rfl rfl ?_
      refine fw_getr 1 168 rfl dX5_bytes_23 ff_5_21 ly0_0 ⟨by decide, by decide⟩ rfl rfl (by decide) ?_
      refine fw_iload_n dX5_bytes_26 rfl rfl ?_
      refine fw_pV mX4_isFile [_] dX5_bytes_27 mv_X4_isFile lk_5_110 ⟨⟨by decide, by decide⟩, rfl, rfl, rfl, by decide, by decide⟩ ly0_168 ⟨by decide, by decide⟩ rfl rfl (Nat.le_of_ble_eq_true rfl) (sp_X4_isFile _ _ _ (by omega)) ?_
      rw [e1, e2]
      refine fw_bifne 36 dX5_bytes_30 (by decide) (fun h30 => ?_) (fun h30 => ?_)
      · skip
        refine fw_iload_n dX5_bytes_36 rfl rfl ?_
        refine fw_if_lt 53 dX5_bytes_37 (by decide) (fun h37 => ?_) (fun h37 => ?_)
        · skip
          refine fw_iconst dX5_bytes_53 ⟨by decide, by decide⟩ ?_
          exact fw_iret dX5_bytes_54 ⟨rfl, rfl, rfl⟩ (⟨(by congr 2; unfold an_bytes; (repeat' split) <;> omega), (rl_cl hR (fun k a b => ⟨g1 k a, rfl⟩))⟩)
        · skip
          refine fw_iload_n dX5_bytes_40 rfl rfl ?_
          refine fw_aload_n dX5_bytes_41 rfl rfl ?_
          refine fw_getr 1 168 rfl dX5_bytes_42 ff_5_21 ly0_0 ⟨by decide, by decide⟩ rfl rfl (by decide) ?_
          refine fw_getr 8 176 rfl dX5_bytes_45 ff_5_172 ly0_168 ⟨by decide, by decide⟩ rfl rfl (by decide) ?_
          refine fw_iload_n dX5_bytes_48 rfl rfl ?_
          refine fw_iaload dX5_bytes_49 ly0_176 ⟨by decide, by decide⟩ ⟨by omega, by omega⟩ ?_
          refine fw_icmp_lt 55 dX5_bytes_50 (by decide) (fun h50 => ?_) (fun h50 => ?_)
          · skip
            obtain ⟨b1, b2, b3, b4⟩ := r3 i (by omega) (by omega)
            have b5 := (r5 i (by omega) (by omega)).2.2.2
            refine fw_aload_n dX5_bytes_55 rfl rfl ?_
            refine fw_getr 1 168 rfl dX5_bytes_56 ff_5_21 ly0_0 ⟨by decide, by decide⟩ rfl rfl (by decide) ?_
            refine fw_iload_n dX5_bytes_59 rfl rfl ?_
            refine fw_iload_n dX5_bytes_60 rfl rfl ?_
            refine fw_pV mX4_rowOf [_, _] dX5_bytes_61 mv_X4_rowOf lk_5_181 ⟨⟨by decide, by decide⟩, rfl, rfl, rfl, by decide, by decide⟩ ly0_168 ⟨by decide, by decide⟩ rfl rfl (Nat.le_of_ble_eq_true rfl) (sp_X4_rowOf _ _ _ _ (by omega) (by omega) (by rw [b1]; exact b4)) ?_
            rw [b1]
            refine fw_astore (ls2 := [_, _, _, _, _, _]) dX5_bytes_64 (by decide) rfl ?_
            refine fw_iload dX5_bytes_66 rfl ?_
            refine fw_iconst dX5_bytes_68 ⟨by decide, by decide⟩ ?_
            refine fw_icmp_ne 78 dX5_bytes_69 (by decide) (fun h69 => ?_) (fun h69 => ?_)
            · skip
              refine fw_iload dX5_bytes_78 rfl ?_
              refine fw_if_lt 93 dX5_bytes_80 (by decide) (fun h80 => ?_) (fun h80 => ?_)
              · skip
                refine fw_iconst dX5_bytes_93 ⟨by decide, by decide⟩ ?_
                exact fw_iret dX5_bytes_94 ⟨rfl, rfl, rfl⟩ (⟨(by congr 2; unfold an_bytes; (repeat' split) <;> omega), (rl_cl hR (fun k a b => ⟨g1 k a, rfl⟩))⟩)
              · skip
                refine fw_iload dX5_bytes_83 rfl ?_
                refine fw_aload dX5_bytes_85 rfl ?_
                refine fw_geti 10 rfl dX5_bytes_87 ff_5_127 (ly_ch (by omega) (by omega) (by omega)) ⟨by omega, by omega⟩ rfl ?_
                refine fw_icmp_lt 95 dX5_bytes_90 (by decide) (fun h90 => ?_) (fun h90 => ?_)
                · skip
                  refine fw_aload dX5_bytes_95 rfl ?_
                  refine fw_getl 11 rfl dX5_bytes_97 ff_5_123 (ly_ch (by omega) (by omega) (by omega)) ⟨by omega, by omega⟩ rfl ?_
                  refine fw_aload dX5_bytes_100 rfl ?_
                  refine fw_geti 10 rfl dX5_bytes_102 ff_5_127 (ly_ch (by omega) (by omega) (by omega)) ⟨by omega, by omega⟩ rfl ?_
                  refine fw_iload dX5_bytes_105 rfl ?_
                  rw [b2, b3]
                  refine fw_pS mX5_byteOf [_, _, _] dX5_bytes_107 mv_X5_byteOf lk_5_184 ⟨⟨by decide, by decide⟩, rfl, rfl, rfl, by decide, by decide⟩ rfl rfl (Nat.le_of_ble_eq_true rfl) (sp_X5_byteOf _ _ _ _ _ (by omega) (by omega)) ?_
                  exact fw_iret dX5_bytes_110 ⟨rfl, rfl, rfl⟩ (⟨(by congr 2; unfold an_bytes; (repeat' split) <;> omega), (rl_cl hR (fun k a b => ⟨g1 k a, rfl⟩))⟩)
                · skip
                  refine fw_iconst dX5_bytes_93 ⟨by decide, by decide⟩ ?_
                  exact fw_iret dX5_bytes_94 ⟨rfl, rfl, rfl⟩ (⟨(by congr 2; unfold an_bytes; (repeat' split) <;> omega), (rl_cl hR (fun k a b => ⟨g1 k a, rfl⟩))⟩)
            · skip
              refine fw_aload dX5_bytes_72 rfl ?_
              refine fw_geti 10 rfl dX5_bytes_74 ff_5_127 (ly_ch (by omega) (by omega) (by omega)) ⟨by omega, by omega⟩ rfl ?_
              exact fw_iret dX5_bytes_77 ⟨rfl, rfl, rfl⟩ (⟨(by congr 2; unfold an_bytes; (repeat' split) <;> omega), (rl_cl hR (fun k a b => ⟨g1 k a, rfl⟩))⟩)
          · skip
            refine fw_iconst dX5_bytes_53 ⟨by decide, by decide⟩ ?_
            exact fw_iret dX5_bytes_54 ⟨rfl, rfl, rfl⟩ (⟨(by congr 2; unfold an_bytes; (repeat' split) <;> omega), (rl_cl hR (fun k a b => ⟨g1 k a, rfl⟩))⟩)
      · skip
        refine fw_bipush dX5_bytes_33 ⟨by decide, by decide⟩ (by decide) ?_
        exact fw_iret dX5_bytes_35 ⟨rfl, rfl, rfl⟩ (⟨(by congr 2; unfold an_bytes; (repeat' split) <;> omega), (rl_cl hR (fun k a b => ⟨g1 k a, rfl⟩))⟩)
    · skip
      refine fw_iconst dX5_bytes_15 ⟨by decide, by decide⟩ ?_
      exact fw_iret dX5_bytes_16 ⟨rfl, rfl, rfl⟩ (⟨(by congr 2; unfold an_bytes; (repeat' split) <;> omega), hR⟩)

set_option maxRecDepth 20000 in
set_option maxHeartbeats 4000000 in
theorem pm_X6_bytes (M N : fw_F) (L K : fw_G) (hR : Rel M L N K) (m t i w : Int) : fw_D mX6_bytes 5 [some (fw_r 0), some (fw_i m), some (fw_i t), some (fw_i i), some (fw_i w)] [] N K (fun r N2 K2 => r = some (fw_i (an_bytes (N 0 2) (rl_S M N m (N 0 4)) m t i w (md_G N (ab_rwf (rl_S M N m (N 0 4)) t i) 3) (ab_by (K 3 (ab_rwf (rl_S M N m (N 0 4)) t i)) (md_G N (ab_rwf (rl_S M N m (N 0 4)) t i) 3) w))) ∧ rl_mq N K N2 K2) := by
  obtain ⟨ha1, ha2, ha3, ha4, ha5, ha6⟩ := hR.1
  have hn1 := hR.2.1.1.1.1
  have hn2 := hR.2.1.1.1.2.1
  refine fw_aload_n dX6_bytes_5 rfl rfl ?_
  refine fw_iload_n dX6_bytes_6 rfl rfl ?_
  refine fw_pV mX6_isMachine [_] dX6_bytes_7 mv_X6_isMachine lk_6_179 ⟨⟨by decide, by decide⟩, rfl, rfl, rfl, by decide, by decide⟩ ly1_0 ⟨by decide, by decide⟩ rfl rfl (Nat.le_of_ble_eq_true rfl) (sp_X6_isMachine _ _ _ (by omega)) ?_
  refine fw_bifeq 20 dX6_bytes_10 (by decide) (fun h10 => ?_) (fun h10 => ?_)
  · skip
    refine fw_iconst dX6_bytes_20 ⟨by decide, by decide⟩ ?_
    exact fw_iret dX6_bytes_21 ⟨rfl, rfl, rfl⟩ (⟨(by congr 2; unfold an_bytes; (repeat' split) <;> omega), rl_mq_rf N K⟩)
  · skip
    refine fw_iload_n dX6_bytes_13 rfl rfl ?_
    refine fw_pS mX6_isThing [_] dX6_bytes_14 mv_X6_isThing lk_6_182 ⟨⟨by decide, by decide⟩, rfl, rfl, rfl, by decide, by decide⟩ rfl rfl (Nat.le_of_ble_eq_true rfl) (sp_X6_isThing _ _ _) ?_
    refine fw_bifne 22 dX6_bytes_17 (by decide) (fun h17 => ?_) (fun h17 => ?_)
    · skip
      refine fw_aload_n dX6_bytes_22 rfl rfl ?_
      refine fw_iload_n dX6_bytes_23 rfl rfl ?_
      refine fw_cV mX6_tellsNow [_] dX6_bytes_24 mv_X6_tellsNow lk_6_176 ⟨⟨by decide, by decide⟩, rfl, rfl, rfl, by decide, by decide⟩ ly1_0 ⟨by decide, by decide⟩ rfl rfl (Nat.le_of_ble_eq_true rfl) (rl_tellsNow hR (by omega)) (fun r M1 L1 hp hM1 => ?_)
      obtain ⟨rfl, rfl, g1, g2⟩ := hp
      obtain ⟨e0, e1, e2, e3, e4, e6, e7⟩ := g2.1 t (by omega) (by omega)
      obtain ⟨r1, r2, r3⟩ := rl_mrw hR (t := t) (by omega) g1 g2
      have r4 := (rl_rows hR m (N 0 4) (t := t) (by omega)).1
      have r5 := (rl_rows hR m (N 0 4) (t := t) (by omega)).2
      have hfl := md_isFl g2.1 (rl_ti hR m (N 0 4)) (u := t) (by omega) (by omega)
      refine fw_aload_n dX6_bytes_27 rfl rfl ?_
      refine fw_iload_n dX6_bytes_28 rfl rfl ?_
      refine fw_pV mX6_isFile [_] dX6_bytes_29 mv_X6_isFile lk_6_211 ⟨⟨by decide, by decide⟩, rfl, rfl, rfl, by decide, by decide⟩ ly1_0 ⟨by decide, by decide⟩ rfl rfl (Nat.le_of_ble_eq_true rfl) (sp_X6_isFile _ _ _ (by omega)) ?_
      refine fw_bifne 38 dX6_bytes_32 (by decide) (fun h32 => ?_) (fun h32 => ?_)
      · skip
        refine fw_iload_n dX6_bytes_38 rfl rfl ?_
        refine fw_iconst dX6_bytes_39 ⟨by decide, by decide⟩ ?_
        refine fw_aload_n dX6_bytes_40 rfl rfl ?_
        refine fw_getr 21 17 rfl dX6_bytes_41 ff_6_64 ly1_0 ⟨by decide, by decide⟩ rfl rfl (by decide) ?_
        refine fw_iload_n dX6_bytes_44 rfl rfl ?_
        refine fw_iaload dX6_bytes_45 ly1_17 ⟨by decide, by decide⟩ ⟨by omega, by omega⟩ ?_
        refine fw_iconst dX6_bytes_46 ⟨by decide, by decide⟩ ?_
        refine fw_isub dX6_bytes_47 ⟨by omega, by omega⟩ ?_
        refine fw_pS mX6_in [_, _, _] dX6_bytes_48 mv_X6_in lk_6_115 ⟨⟨by decide, by decide⟩, rfl, rfl, rfl, by decide, by decide⟩ rfl rfl (Nat.le_of_ble_eq_true rfl) (sp_X6_in _ _ _ _ _) ?_
        refine fw_bifne 56 dX6_bytes_51 (by decide) (fun h51 => ?_) (fun h51 => ?_)
        · skip
          obtain ⟨b1, b2, b4⟩ := r3 i (by omega) (by omega)
          have b5 := (r5 i (by omega) (by omega)).2.2.2
          refine fw_aload_n dX6_bytes_56 rfl rfl ?_
          refine fw_getr 22 18 rfl dX6_bytes_57 ff_6_67 ly1_0 ⟨by decide, by decide⟩ rfl rfl (by decide) ?_
          refine fw_bipush dX6_bytes_60 ⟨by decide, by decide⟩ (by decide) ?_
          refine fw_iload_n dX6_bytes_62 rfl rfl ?_
          refine fw_imul dX6_bytes_63 ⟨by omega, by omega⟩ ?_
          refine fw_iload_n dX6_bytes_64 rfl rfl ?_
          refine fw_iadd dX6_bytes_65 ⟨by omega, by omega⟩ ?_
          refine fw_iaload dX6_bytes_66 ly1_18 ⟨by decide, by decide⟩ ⟨by omega, by omega⟩ ?_
          rw [b1]
          refine fw_istore (ls2 := [_, _, _, _, _, _]) dX6_bytes_67 (by decide) rfl ?_
          refine fw_iload dX6_bytes_69 rfl ?_
          refine fw_iconst dX6_bytes_71 ⟨by decide, by decide⟩ ?_
          refine fw_aload_n dX6_bytes_72 rfl rfl ?_
          refine fw_iload dX6_bytes_73 rfl ?_
          refine fw_pV mX6_sizeOf [_] dX6_bytes_75 mv_X6_sizeOf lk_6_230 ⟨⟨by decide, by decide⟩, rfl, rfl, rfl, by decide, by decide⟩ ly1_0 ⟨by decide, by decide⟩ rfl rfl (Nat.le_of_ble_eq_true rfl) (sp_X6_sizeOf _ _ _ (by omega)) ?_
          rw [b2]
          refine fw_iconst dX6_bytes_78 ⟨by decide, by decide⟩ ?_
          refine fw_isub dX6_bytes_79 ⟨by omega, by omega⟩ ?_
          refine fw_pS mX6_in [_, _, _] dX6_bytes_80 mv_X6_in lk_6_115 ⟨⟨by decide, by decide⟩, rfl, rfl, rfl, by decide, by decide⟩ rfl rfl (Nat.le_of_ble_eq_true rfl) (sp_X6_in _ _ _ _ _) ?_
          refine fw_bifne 88 dX6_bytes_83 (by decide) (fun h83 => ?_) (fun h83 => ?_)
          · skip
            refine fw_iload dX6_bytes_88 rfl ?_
            refine fw_if_ge 102 dX6_bytes_90 (by decide) (fun h90 => ?_) (fun h90 => ?_)
            · skip
              refine fw_aload_n dX6_bytes_102 rfl rfl ?_
              refine fw_getr 7 3 rfl dX6_bytes_103 ff_6_20 ly1_0 ⟨by decide, by decide⟩ rfl rfl (by decide) ?_
              refine fw_iload dX6_bytes_106 rfl ?_
              refine fw_laload dX6_bytes_108 ly1_3 ⟨by decide, by decide⟩ ⟨by omega, by omega⟩ ?_
              refine fw_aload_n dX6_bytes_109 rfl rfl ?_
              refine fw_iload dX6_bytes_110 rfl ?_
              refine fw_pV mX6_sizeOf [_] dX6_bytes_112 mv_X6_sizeOf lk_6_230 ⟨⟨by decide, by decide⟩, rfl, rfl, rfl, by decide, by decide⟩ ly1_0 ⟨by decide, by decide⟩ rfl rfl (Nat.le_of_ble_eq_true rfl) (sp_X6_sizeOf _ _ _ (by omega)) ?_
              rw [b2]
              refine fw_iload dX6_bytes_115 rfl ?_
              refine fw_pS mX6_byteOf [_, _, _] dX6_bytes_117 mv_X6_byteOf lk_6_194 ⟨⟨by decide, by decide⟩, rfl, rfl, rfl, by decide, by decide⟩ rfl rfl (Nat.le_of_ble_eq_true rfl) (sp_X6_byteOf _ _ _ _ _ (by omega) (by omega)) ?_
              exact fw_iret dX6_bytes_120 ⟨rfl, rfl, rfl⟩ (⟨(by congr 2; unfold an_bytes; (repeat' split) <;> omega), (rl_mq_of g1)⟩)
            · skip
              refine fw_aload_n dX6_bytes_93 rfl rfl ?_
              refine fw_iload dX6_bytes_94 rfl ?_
              refine fw_pV mX6_sizeOf [_] dX6_bytes_96 mv_X6_sizeOf lk_6_230 ⟨⟨by decide, by decide⟩, rfl, rfl, rfl, by decide, by decide⟩ ly1_0 ⟨by decide, by decide⟩ rfl rfl (Nat.le_of_ble_eq_true rfl) (sp_X6_sizeOf _ _ _ (by omega)) ?_
              rw [b2]
              refine fw_goto 120 dX6_bytes_99 (by decide) ?_
              exact fw_iret dX6_bytes_120 ⟨rfl, rfl, rfl⟩ (⟨(by congr 2; unfold an_bytes; (repeat' split) <;> omega), (rl_mq_of g1)⟩)
          · skip
            refine fw_iconst dX6_bytes_86 ⟨by decide, by decide⟩ ?_
            exact fw_iret dX6_bytes_87 ⟨rfl, rfl, rfl⟩ (⟨(by congr 2; unfold an_bytes; (repeat' split) <;> omega), (rl_mq_of g1)⟩)
        · skip
          refine fw_iconst dX6_bytes_54 ⟨by decide, by decide⟩ ?_
          exact fw_iret dX6_bytes_55 ⟨rfl, rfl, rfl⟩ (⟨(by congr 2; unfold an_bytes; (repeat' split) <;> omega), (rl_mq_of g1)⟩)
      · skip
        refine fw_bipush dX6_bytes_35 ⟨by decide, by decide⟩ (by decide) ?_
        exact fw_iret dX6_bytes_37 ⟨rfl, rfl, rfl⟩ (⟨(by congr 2; unfold an_bytes; (repeat' split) <;> omega), (rl_mq_of g1)⟩)
    · skip
      refine fw_iconst dX6_bytes_20 ⟨by decide, by decide⟩ ?_
      exact fw_iret dX6_bytes_21 ⟨rfl, rfl, rfl⟩ (⟨(by congr 2; unfold an_bytes; (repeat' split) <;> omega), rl_mq_rf N K⟩)

set_option maxRecDepth 20000 in
set_option maxHeartbeats 4000000 in
theorem sp_X6_bytes (M N : fw_F) (L K : fw_G) (hR : Rel M L (fw_upd N 0 0 0) K) (m t i w : Int) : fw_SD mX6_bytes [fw_r 0, fw_i m, fw_i t, fw_i i, fw_i w] N K (fun r N2 K2 => r = some (fw_i (an_bytes ((fw_upd N 0 0 0) 0 2) (rl_S M (fw_upd N 0 0 0) m ((fw_upd N 0 0 0) 0 4)) m t i w (md_G (fw_upd N 0 0 0) (ab_rwf (rl_S M (fw_upd N 0 0 0) m ((fw_upd N 0 0 0) 0 4)) t i) 3) (ab_by (K 3 (ab_rwf (rl_S M (fw_upd N 0 0 0) m ((fw_upd N 0 0 0) 0 4)) t i)) (md_G (fw_upd N 0 0 0) (ab_rwf (rl_S M (fw_upd N 0 0 0) m ((fw_upd N 0 0 0) 0 4)) t i) 3) w))) ∧ rl_mq (fw_upd N 0 0 0) K N2 K2) := by
  refine fw_SP_of pl_X6_bytes (ls := [_, _, _, _, _]) rfl (Nat.le_of_ble_eq_true rfl) fun hA hM => ?_
  refine fw_aload_n dX6_bytes_0 rfl rfl ?_
  refine fw_iconst dX6_bytes_1 ⟨by decide, by decide⟩ ?_
  refine fw_puti 0 rfl dX6_bytes_2 fp_6_106 ly1_0 (by decide) ⟨by decide, by decide⟩ rfl ?_
  exact pm_X6_bytes M (fw_upd N 0 0 0) L K hR m t i w
