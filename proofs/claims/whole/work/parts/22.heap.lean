/-! the heap: fields and arrays of a world -/
def fw_upd (M : fw_F) (k j v : Int) : fw_F := fun k' j' => if k' = k ∧ j' = j then v else M k' j'
def fw_upl (L : fw_G) (k j : Int) (v : Int64) : fw_G := fun k' j' => if k' = k ∧ j' = j then v else L k' j'
theorem fw_upd_ok {M : fw_F} {k j v : Int} (h : ∀ k j, fw_ok (M k j)) (hv : fw_ok v) : ∀ k' j', fw_ok (fw_upd M k j v k' j') := by
  intro k' j'
  unfold fw_upd
  split
  · exact hv
  · exact h k' j'
theorem fw_nat {k : Int} {K : Nat} (h : 0 ≤ k ∧ k < K) : k.toNat < K ∧ ((k.toNat : Nat) : Int) = k := ⟨by omega, by omega⟩
def fw_cls (ci : Nat) (C : String) (T : u_T) (N : Nat) (ty : Nat → FieldType) : Prop :=
  vwCl[ci]? = some (C, T, N) ∧ (∀ w ∈ u_ws C T N, w ∈ fw_tbl) ∧ (∀ k, k < N → parseFieldDescriptor (T k).2.2.1 = some (ty k)) ∧ (∀ a, a < N → ∀ b, b < N → a ≠ b → (T a).2.1 ≠ (T b).2.1)
/-- a field instruction's words: class ci of N fields, field f -/
def fw_fld (o idx ci N f : Nat) : Prop := ∃ (C : String) (T : u_T) (ty : Nat → FieldType), fw_cls ci C T N ty ∧ f < N ∧ Cond.fieldLink (fw_cn o) idx (T f).1 (T f).2.1 (T f).2.2.1 ∈ fw_tbl ∧ ci < 10
def fw_fldW (o idx ci N f : Nat) (t : FieldType) : Prop := ∃ (C : String) (T : u_T) (ty : Nat → FieldType), fw_cls ci C T N ty ∧ f < N ∧ Cond.fieldLink (fw_cn o) idx (T f).1 (T f).2.1 (T f).2.2.1 ∈ fw_tbl ∧ ci < 10 ∧ (T f).2.2.2 = false ∧ ty f = t
theorem fw_cell_kept {D : va_G} {cA : Nat → ClassId} {b w : Nat} {R M R' M' : fw_F} {L L' : fw_G} {H H' : Heap} {k : Nat} (h : fw_cell D cA b w R M L H k) (hq : H'[b + k]? = H[b + k]?) (hv : ∀ j : Int, R' k j = R k j ∧ M' k j = M k j ∧ L' k j = L k j) : fw_cell D cA b w R' M' L' H' k := by
  refine ⟨fun hc => ((h.1 hc).kept hq).to fun f _ => ?_, fun hc => ?_⟩
  · obtain ⟨e1, e2, e3⟩ := hv f
    rw [e1, e2, e3]
  · rw [hq, h.2 hc]
    congr 2
    funext j
    obtain ⟨e1, e2, e3⟩ := hv j
    rw [e1, e2, e3]
theorem fw_Wd_put {D : va_G} {cA : Nat → ClassId} {b w K : Nat} {R M R' M' : fw_F} {L L' : fw_G} {H H' : Heap} {q : Nat} (h : fw_Wd D cA b w K R M L H) (ho : ∀ x, x ≠ b + q → H'[x]? = H[x]?)
    (hv : ∀ (k : Nat) (j : Int), k ≠ q → R' k j = R k j ∧ M' k j = M k j ∧ L' k j = L k j) (hn : fw_cell D cA b w R' M' L' H' q) : fw_Wd D cA b w K R' M' L' H' := by
  intro k hk
  by_cases hkq : k = q
  · subst hkq
    exact hn
  · exact fw_cell_kept (h k hk) (ho _ (by omega)) (fun j => hv k j hkq)
theorem fw_getv {y : fw_M} {K0 pc K sl : Nat} {ls : List (Option fw_V)} {st : List fw_V} {R M : fw_F} {L : fw_G} {Q : fw_Q} {idx ci N f : Nat} {k : Int} {v : fw_V} (hd : decode (fw_mC y) pc = .ok (.getfield idx, 3)) (hf : fw_fld (fw_mO y) idx ci N f) (hl : fw_lay (fw_mW y) k = (ci, N)) (hk : 0 ≤ k ∧ k < K)
    (hv : ∀ b, fw_vv (fw_ftg ci f) b (R k f) (M k f) (L k f) = fw_cv b v) (hov : (∀ k j, fw_ok (M k j)) → fw_okV v) (kk : fw_WP y K0 (pc + 3) ls (v :: st) K sl R M L Q) : fw_WP y K0 pc ls (fw_r k :: st) K sl R M L Q := by
  intro l D cA p e s m args below meth c bb H locs la hZ hO hY
  obtain ⟨C, T, ty, ⟨hc, hin, -, -⟩, hfN, hw, hci⟩ := hf
  obtain ⟨hkn, hke⟩ := fw_nat hk
  have hcell := (hY.2.2.1 k.toNat hkn).1
  rw [hke, hl] at hcell
  have hob := hcell hci
  have hP : va_P D vwCl [(bb + k.toNat, .inr (ci, (List.range N).map (fun f => fw_vv (fw_ftg ci f) bb (R k f) (M k f) (L k f))))] H := by
    intro k' q hq
    have hz : k' < 1 := (List.getElem?_eq_some_iff.mp hq).1
    rw [show k' = 0 by omega] at hq
    cases hq
    refine ⟨_, hc, hob.to fun f hf => ?_⟩
    simp [vp_V, hf]
  refine va_get (ws := [(bb + k.toNat, .inr (ci, (List.range N).map (fun f => fw_vv (fw_ftg ci f) bb (R k f) (M k f) (L k f))))]) (v := fw_cv bb v) hZ.1 hZ.2.1 hZ.2.2.2.2.2.1 hin hZ.2.2.2.2.1 hZ.2.2.2.2.2.2.2.2.1.1 hP 0 rfl hc f hfN (hZ.2.2.2.2.2.1 _ hw) (fun _ h9 => h9) ?_ hd ?_
  · rw [← hv bb]
    simp [hfN]
  · exact kk l D cA p e s m args below meth c bb H locs la hZ (fw_oc (hov hY.2.1) (fw_ot hO)) hY
theorem fw_geti {y : fw_M} {K0 pc K sl : Nat} {ls : List (Option fw_V)} {st : List fw_V} {R M : fw_F} {L : fw_G} {Q : fw_Q} {idx ci N f : Nat} {k : Int} (j : Int) (hj : (f : Int) = j) (hd : decode (fw_mC y) pc = .ok (.getfield idx, 3)) (hf : fw_fld (fw_mO y) idx ci N f) (hl : fw_lay (fw_mW y) k = (ci, N)) (hk : 0 ≤ k ∧ k < K)
    (hg : fw_ftg ci f = 0) (kk : fw_WP y K0 (pc + 3) ls (fw_i (M k j) :: st) K sl R M L Q) : fw_WP y K0 pc ls (fw_r k :: st) K sl R M L Q := by
  subst hj
  exact fw_getv (v := fw_i (M k f)) hd hf hl hk (fun b => by rw [hg]; rfl) (fun h => h k f) kk
theorem fw_getl {y : fw_M} {K0 pc K sl : Nat} {ls : List (Option fw_V)} {st : List fw_V} {R M : fw_F} {L : fw_G} {Q : fw_Q} {idx ci N f : Nat} {k : Int} (j : Int) (hj : (f : Int) = j) (hd : decode (fw_mC y) pc = .ok (.getfield idx, 3)) (hf : fw_fld (fw_mO y) idx ci N f) (hl : fw_lay (fw_mW y) k = (ci, N)) (hk : 0 ≤ k ∧ k < K)
    (hg : fw_ftg ci f = 1) (kk : fw_WP y K0 (pc + 3) ls (fw_l (L k j) :: st) K sl R M L Q) : fw_WP y K0 pc ls (fw_r k :: st) K sl R M L Q := by
  subst hj
  exact fw_getv (v := fw_l (L k f)) hd hf hl hk (fun b => by rw [hg]; rfl) (fun _ => fw_okl) kk
theorem fw_getr {y : fw_M} {K0 pc K sl : Nat} {ls : List (Option fw_V)} {st : List fw_V} {R M : fw_F} {L : fw_G} {Q : fw_Q} {idx ci N f : Nat} {k : Int} (j q : Int) (hj : (f : Int) = j) (hd : decode (fw_mC y) pc = .ok (.getfield idx, 3)) (hf : fw_fld (fw_mO y) idx ci N f) (hl : fw_lay (fw_mW y) k = (ci, N)) (hk : 0 ≤ k ∧ k < K)
    (hg : fw_ftg ci f = 2) (hq : R k j = q) (hq0 : 0 ≤ q) (kk : fw_WP y K0 (pc + 3) ls (fw_r q :: st) K sl R M L Q) : fw_WP y K0 pc ls (fw_r k :: st) K sl R M L Q := by
  subst hj
  refine fw_getv hd hf hl hk (fun b => ?_) (fun _ => fw_okr) kk
  rw [hg, hq]
  show (if q < 0 then Value.null else .ref (b + q.toNat)) = .ref (b + q.toNat)
  rw [if_neg (by omega)]
/-- a write at cell k of any kind: what remains of the frame -/
theorem fw_inA {b w K : Nat} {k : Int} (hK : K ≤ fw_KW w) (hk : 0 ≤ k ∧ k < K) : fw_A b w (b + k.toNat) := by
  refine ⟨by omega, ?_⟩
  have := (fw_nat hk).1
  omega
theorem fw_putv {y : fw_M} {K0 pc K sl : Nat} {ls : List (Option fw_V)} {st : List fw_V} {R M M' : fw_F} {L L' : fw_G} {Q : fw_Q} {idx ci N f : Nat} {k : Int} {v : fw_V} {t : FieldType} (hd : decode (fw_mC y) pc = .ok (.putfield idx, 3)) (hf : fw_fldW (fw_mO y) idx ci N f t) (hl : fw_lay (fw_mW y) k = (ci, N)) (hK : K ≤ fw_KW (fw_mW y)) (hk : 0 ≤ k ∧ k < K)
    (hn : ∀ b, narrow t (fw_cv b v) = fw_cv b v) (hft : ∀ b, fits t (fw_cv b v) = true)
    (hv : ∀ b, fw_vv (fw_ftg ci f) b (R k f) (M' k f) (L' k f) = fw_cv b v) (hoff : ∀ (q j : Int), ¬ (q = k ∧ j = f) → M' q j = M q j ∧ L' q j = L q j) (hok : (∀ k j, fw_ok (M k j)) → fw_okV v → ∀ k j, fw_ok (M' k j))
    (kk : fw_WP y K0 (pc + 3) ls st K sl R M' L' Q) : fw_WP y K0 pc ls (v :: fw_r k :: st) K sl R M L Q := by
  intro l D cA p e s m args below meth c bb H locs la hZ hO hY
  obtain ⟨C, T, ty, ⟨hc, hin, hty, hnm⟩, hfN, hw, hci, hfin, hty2⟩ := hf
  obtain ⟨hkn, hke⟩ := fw_nat hk
  have hcell := (hY.2.2.1 k.toNat hkn).1
  rw [hke, hl] at hcell
  obtain ⟨cell, q1, q2, q3, q4⟩ := hcell hci
  have hKK := hZ.2.2.2.2.2.2.2.2.1.1
  have hts := hZ.2.2.2.2.2.1
  have hap := va_apart (own := fw_cn (fw_mO y)) hts hin ty hty hnm hKK hc
  obtain ⟨hS, hfc, kC, hkC, hkind⟩ := hKK.1 ci _ hc
  obtain ⟨cf, kf, fi, fd, hi, hsl⟩ := hS f hfN
  have hlay := hts _ (hin _ (u_in_lay hfN))
  unfold u_lay at hlay
  rw [if_neg (by rw [hfin]; decide)] at hlay
  have hst := (u_facts hfc hkC (u_lays hts hin hfN) hi).1
  have h6 := u_store hfc hkC hkind hlay hi (by rw [hty f hfN, hty2]) (hn bb) (hft bb)
  refine W.putK hZ.1 hZ.2.1 (f := fd) ⟨hZ.2.2.2.2.1, hts _ hw, ⟨_, _, _, hi⟩, hst⟩ (by rw [q2]; exact h6) q1 q3 (by rw [hsl]; exact k2_hasslot (q4 f hfN)) rfl rfl hd fun H1 e1 e2 e3 => ?_
  rw [hsl] at e1 ⊢
  refine kk l D cA p e s m args below meth c bb H1 _ la hZ (fw_ot (fw_ot hO)) ⟨hY.1, hok hY.2.1 (fw_oh hO), ?_, ⟨hY.2.2.2.1.1, e2.trans hY.2.2.2.1.2⟩, hY.2.2.2.2.1.put e2 e3 (fw_inA hK hk), hY.2.2.2.2.2⟩
  refine fw_Wd_put (q := k.toNat) hY.2.2.1 e3 (fun k' j hne => ?_) ⟨fun _ => ?_, fun h => ?_⟩
  · obtain ⟨g1, g2⟩ := hoff k' j (fun q => hne (by omega))
    exact ⟨rfl, g1, g2⟩
  · rw [hke, hl]
    refine t_OB.to (V := updV (fun f => fw_vv (fw_ftg ci f) bb (R k f) (M k f) (L k f)) f (fw_cv bb v)) ⟨_, e1, q2, q3, t_set q4 hap hfN _⟩ (fun j hj => ?_)
    unfold updV
    by_cases hjf : j = f
    · subst hjf
      rw [if_pos rfl]
      exact (hv bb).symm
    · rw [if_neg hjf]
      obtain ⟨g1, g2⟩ := hoff k j (fun q => hjf (by omega))
      show _ = fw_vv _ _ _ _ _
      rw [g1, g2]
  · rw [hke, hl] at h
    exact absurd h (by omega)
theorem fw_puti {y : fw_M} {K0 pc K sl : Nat} {ls : List (Option fw_V)} {st : List fw_V} {R M : fw_F} {L : fw_G} {Q : fw_Q} {idx ci N f : Nat} {k v : Int} (j : Int) (hj : (f : Int) = j) (hd : decode (fw_mC y) pc = .ok (.putfield idx, 3)) (hf : fw_fldW (fw_mO y) idx ci N f .int) (hl : fw_lay (fw_mW y) k = (ci, N)) (hK : K ≤ fw_KW (fw_mW y)) (hk : 0 ≤ k ∧ k < K)
    (hg : fw_ftg ci f = 0) (kk : fw_WP y K0 (pc + 3) ls st K sl R (fw_upd M k j v) L Q) : fw_WP y K0 pc ls (fw_i v :: fw_r k :: st) K sl R M L Q := by
  subst hj
  refine fw_putv hd hf hl hK hk (fun b => rfl) (fun b => rfl) (fun b => ?_) (fun q j h => ⟨if_neg h, rfl⟩) (fun h hv => fw_upd_ok h hv) kk
  rw [hg]
  show Value.int (Int32.ofInt (fw_upd M k f v k f)) = .int (Int32.ofInt v)
  rw [show fw_upd M k f v k f = v from if_pos ⟨rfl, rfl⟩]
theorem fw_putl {y : fw_M} {K0 pc K sl : Nat} {ls : List (Option fw_V)} {st : List fw_V} {R M : fw_F} {L : fw_G} {Q : fw_Q} {idx ci N f : Nat} {k : Int} {v : Int64} (j : Int) (hj : (f : Int) = j) (hd : decode (fw_mC y) pc = .ok (.putfield idx, 3)) (hf : fw_fldW (fw_mO y) idx ci N f .long) (hl : fw_lay (fw_mW y) k = (ci, N)) (hK : K ≤ fw_KW (fw_mW y)) (hk : 0 ≤ k ∧ k < K)
    (hg : fw_ftg ci f = 1) (kk : fw_WP y K0 (pc + 3) ls st K sl R M (fw_upl L k j v) Q) : fw_WP y K0 pc ls (fw_l v :: fw_r k :: st) K sl R M L Q := by
  subst hj
  refine fw_putv hd hf hl hK hk (fun b => rfl) (fun b => rfl) (fun b => ?_) (fun q j h => ⟨rfl, if_neg h⟩) (fun h _ => h) kk
  rw [hg]
  show Value.long (fw_upl L k f v k f) = .long v
  rw [show fw_upl L k f v k f = v from if_pos ⟨rfl, rfl⟩]
/-! arrays -/
theorem fw_acell {D : va_G} {cA : Nat → ClassId} {b w K n t : Nat} {R M : fw_F} {L : fw_G} {H : Heap} {k : Int} (hW : fw_Wd D cA b w K R M L H) (hl : fw_lay w k = (t, n)) (ht : 10 ≤ t) (hk : 0 ≤ k ∧ k < K) : H[b + k.toNat]? = some (arrV (cA (t - 10)) n (fun j => fw_vv (fw_atg t) b (R k j) (M k j) (L k j))) := by
  obtain ⟨hkn, hke⟩ := fw_nat hk
  have h := (hW k.toNat hkn).2
  rw [hke, hl] at h
  exact h ht
theorem fw_jn {j : Int} {n : Nat} (h : 0 ≤ j ∧ j < n) : j.toNat < n ∧ ((j.toNat : Nat) : Int) = j := ⟨by omega, by omega⟩
theorem fw_iaload {y : fw_M} {K0 pc K sl : Nat} {ls : List (Option fw_V)} {st : List fw_V} {R M : fw_F} {L : fw_G} {Q : fw_Q} {n : Nat} {k j : Int} (hd : decode (fw_mC y) pc = .ok (.iaload, 1)) (hl : fw_lay (fw_mW y) k = (10, n)) (hk : 0 ≤ k ∧ k < K) (hj : 0 ≤ j ∧ j < n)
    (kk : fw_WP y K0 (pc + 1) ls (fw_i (M k j) :: st) K sl R M L Q) : fw_WP y K0 pc ls (fw_i j :: fw_r k :: st) K sl R M L Q := by
  intro l D cA p e s m args below meth c bb H locs la hZ hO hY
  have hc := fw_acell hY.2.2.1 hl (by decide) hk
  have ho : fw_ok j := fw_oh hO
  have hin := fw_in hj.1 hj.2 ho
  refine W.iald (v := fw_cv bb (fw_i (M k j))) hZ.1 hZ.2.1 hc ((hZ.2.2.2.2.2.2.2.2.1.1.2 0 _ rfl).1 n _) (fun q => by cases q) (by rw [arrV_size]; exact hin) ?_ rfl rfl hd (kk l D cA p e s m args below meth c bb H locs la hZ (fw_oc (hY.2.1 k j) (fw_ot (fw_ot hO))) hY)
  obtain ⟨h1, h2⟩ := fw_jn hj
  rw [fw_clamp ho, arrV_read _ _ h1, h2]
  rfl
theorem fw_baload {y : fw_M} {K0 pc K sl : Nat} {ls : List (Option fw_V)} {st : List fw_V} {R M : fw_F} {L : fw_G} {Q : fw_Q} {n : Nat} {k j : Int} (hd : decode (fw_mC y) pc = .ok (.baload, 1)) (hl : fw_lay (fw_mW y) k = (11, n)) (hk : 0 ≤ k ∧ k < K) (hj : 0 ≤ j ∧ j < n)
    (kk : fw_WP y K0 (pc + 1) ls (fw_i (M k j) :: st) K sl R M L Q) : fw_WP y K0 pc ls (fw_i j :: fw_r k :: st) K sl R M L Q := by
  intro l D cA p e s m args below meth c bb H locs la hZ hO hY
  have hc := fw_acell hY.2.2.1 hl (by decide) hk
  have ho : fw_ok j := fw_oh hO
  have hin := fw_in hj.1 hj.2 ho
  refine W.zald (v := fw_cv bb (fw_i (M k j))) hZ.1 hZ.2.1 hc ((hZ.2.2.2.2.2.2.2.2.1.1.2 1 _ rfl).1 n _) (fun q => by cases q) (by rw [arrV_size]; exact hin) ?_ rfl rfl hd (kk l D cA p e s m args below meth c bb H locs la hZ (fw_oc (hY.2.1 k j) (fw_ot (fw_ot hO))) hY)
  obtain ⟨h1, h2⟩ := fw_jn hj
  rw [fw_clamp ho, arrV_read _ _ h1, h2]
  rfl
theorem fw_laload {y : fw_M} {K0 pc K sl : Nat} {ls : List (Option fw_V)} {st : List fw_V} {R M : fw_F} {L : fw_G} {Q : fw_Q} {n : Nat} {k j : Int} (hd : decode (fw_mC y) pc = .ok (.laload, 1)) (hl : fw_lay (fw_mW y) k = (12, n)) (hk : 0 ≤ k ∧ k < K) (hj : 0 ≤ j ∧ j < n)
    (kk : fw_WP y K0 (pc + 1) ls (fw_l (L k j) :: st) K sl R M L Q) : fw_WP y K0 pc ls (fw_i j :: fw_r k :: st) K sl R M L Q := by
  intro l D cA p e s m args below meth c bb H locs la hZ hO hY
  have hc := fw_acell hY.2.2.1 hl (by decide) hk
  have ho : fw_ok j := fw_oh hO
  have hin := fw_in hj.1 hj.2 ho
  refine W.lald (v := fw_cv bb (fw_l (L k j))) hZ.1 hZ.2.1 hc ((hZ.2.2.2.2.2.2.2.2.1.1.2 2 _ rfl).1 n _) (fun q => by cases q) (by rw [arrV_size]; exact hin) ?_ rfl rfl hd (kk l D cA p e s m args below meth c bb H locs la hZ (fw_oc fw_okl (fw_ot (fw_ot hO))) hY)
  obtain ⟨h1, h2⟩ := fw_jn hj
  rw [fw_clamp ho, arrV_read _ _ h1, h2]
  rfl
theorem fw_aaload {y : fw_M} {K0 pc K sl : Nat} {ls : List (Option fw_V)} {st : List fw_V} {R M : fw_F} {L : fw_G} {Q : fw_Q} {n t : Nat} {k j : Int} (q : Int) (hd : decode (fw_mC y) pc = .ok (.aaload, 1)) (hl : fw_lay (fw_mW y) k = (t, n)) (ht : t = 13 ∨ t = 14) (hk : 0 ≤ k ∧ k < K) (hj : 0 ≤ j ∧ j < n) (hq : R k j = q) (hq0 : 0 ≤ q)
    (kk : fw_WP y K0 (pc + 1) ls (fw_r q :: st) K sl R M L Q) : fw_WP y K0 pc ls (fw_i j :: fw_r k :: st) K sl R M L Q := by
  intro l D cA p e s m args below meth c bb H locs la hZ hO hY
  have ho : fw_ok j := fw_oh hO
  have hin := fw_in hj.1 hj.2 ho
  obtain ⟨h1, h2⟩ := fw_jn hj
  have hk2 := kk l D cA p e s m args below meth c bb H locs la hZ (fw_oc fw_okr (fw_ot (fw_ot hO))) hY
  rcases ht with rfl | rfl
  · have hc := fw_acell hY.2.2.1 hl (by decide) hk
    refine W.aald (v := fw_cv bb (fw_r q)) hZ.1 hZ.2.1 hc ((hZ.2.2.2.2.2.2.2.2.1.1.2 3 _ rfl).1 n _) rfl (fun q => by cases q) (by rw [arrV_size]; exact hin) ?_ rfl rfl hd hk2
    rw [fw_clamp ho, arrV_read _ _ h1, h2, hq]
    show some (if q < 0 then Value.null else .ref (bb + q.toNat)) = _
    rw [if_neg (by omega)]
    rfl
  · have hc := fw_acell hY.2.2.1 hl (by decide) hk
    refine W.aald (v := fw_cv bb (fw_r q)) hZ.1 hZ.2.1 hc ((hZ.2.2.2.2.2.2.2.2.1.1.2 4 _ rfl).1 n _) rfl (fun q => by cases q) (by rw [arrV_size]; exact hin) ?_ rfl rfl hd hk2
    rw [fw_clamp ho, arrV_read _ _ h1, h2, hq]
    show some (if q < 0 then Value.null else .ref (bb + q.toNat)) = _
    rw [if_neg (by omega)]
    rfl
theorem fw_alen {y : fw_M} {K0 pc K sl : Nat} {ls : List (Option fw_V)} {st : List fw_V} {R M : fw_F} {L : fw_G} {Q : fw_Q} {n t : Nat} {k : Int} (nn : Int) (hnn : (n : Int) = nn) (hd : decode (fw_mC y) pc = .ok (.arraylength, 1)) (hl : fw_lay (fw_mW y) k = (t, n)) (ht : t = 10 ∨ t = 12) (hk : 0 ≤ k ∧ k < K) (hno : fw_ok nn)
    (kk : fw_WP y K0 (pc + 1) ls (fw_i nn :: st) K sl R M L Q) : fw_WP y K0 pc ls (fw_r k :: st) K sl R M L Q := by
  intro l D cA p e s m args below meth c bb H locs la hZ hO hY
  subst hnn
  have hk2 := kk l D cA p e s m args below meth c bb H locs la hZ (fw_oc hno (fw_ot hO)) hY
  rcases ht with rfl | rfl
  · refine W.alen hZ.1 hZ.2.1 (fw_acell hY.2.2.1 hl (by decide) hk) ((hZ.2.2.2.2.2.2.2.2.1.1.2 0 _ rfl).1 n _) ?_ rfl rfl hd hk2
    rw [arrV_size]
    rfl
  · refine W.alen hZ.1 hZ.2.1 (fw_acell hY.2.2.1 hl (by decide) hk) ((hZ.2.2.2.2.2.2.2.2.1.1.2 2 _ rfl).1 n _) ?_ rfl rfl hd hk2
    rw [arrV_size]
    rfl
/-- the world behind an array store -/
theorem fw_astd {D : va_G} {cA : Nat → ClassId} {b w K n t : Nat} {R M R' M' : fw_F} {L L' : fw_G} {H H' : Heap} {k j : Int} {v : Value} (hW : fw_Wd D cA b w K R M L H) (hl : fw_lay w k = (t, n)) (ht : 10 ≤ t) (hk : 0 ≤ k ∧ k < K) (hj : 0 ≤ j ∧ j < n)
    (e1 : H'[b + k.toNat]? = some ((arrV (cA (t - 10)) n (fun j => fw_vv (fw_atg t) b (R k j) (M k j) (L k j))).setSlot j.toNat v)) (e3 : ∀ q, q ≠ b + k.toNat → H'[q]? = H[q]?)
    (hv : fw_vv (fw_atg t) b (R' k j) (M' k j) (L' k j) = v) (hoff : ∀ (q i : Int), ¬ (q = k ∧ i = j) → R' q i = R q i ∧ M' q i = M q i ∧ L' q i = L q i) : fw_Wd D cA b w K R' M' L' H' := by
  obtain ⟨hkn, hke⟩ := fw_nat hk
  refine fw_Wd_put (q := k.toNat) hW e3 (fun k' i hne => hoff k' i (fun q => hne (by omega))) ⟨fun h => ?_, fun _ => ?_⟩
  · rw [hke, hl] at h
    exact absurd h (by show ¬ t < 10; omega)
  · rw [hke, hl, e1, arrV_store]
    congr 2
    funext i
    unfold updV
    by_cases hi : i = j.toNat
    · rw [if_pos hi, ← hv, hi, (fw_jn hj).2]
    · rw [if_neg hi]
      obtain ⟨g1, g2, g3⟩ := hoff k i (fun q => hi (by omega))
      rw [g1, g2, g3]
theorem fw_iastore {y : fw_M} {K0 pc K sl : Nat} {ls : List (Option fw_V)} {st : List fw_V} {R M : fw_F} {L : fw_G} {Q : fw_Q} {n : Nat} {k j v : Int} (hd : decode (fw_mC y) pc = .ok (.iastore, 1)) (hl : fw_lay (fw_mW y) k = (10, n)) (hK : K ≤ fw_KW (fw_mW y)) (hk : 0 ≤ k ∧ k < K) (hj : 0 ≤ j ∧ j < n)
    (kk : fw_WP y K0 (pc + 1) ls st K sl R (fw_upd M k j v) L Q) : fw_WP y K0 pc ls (fw_i v :: fw_i j :: fw_r k :: st) K sl R M L Q := by
  intro l D cA p e s m args below meth c bb H locs la hZ hO hY
  have hc := fw_acell hY.2.2.1 hl (by decide) hk
  have ho : fw_ok j := fw_oh (fw_ot hO)
  have hin := fw_in hj.1 hj.2 ho
  refine W.iast hZ.1 hZ.2.1 hc ((hZ.2.2.2.2.2.2.2.2.1.1.2 0 _ rfl).1 n _) (fun q => by cases q) (by rw [arrV_size]; exact hin) rfl rfl hd fun H1 e1 e2 e3 => ?_
  rw [fw_clamp ho] at e1
  refine kk l D cA p e s m args below meth c bb H1 _ la hZ (fw_ot (fw_ot (fw_ot hO))) ⟨hY.1, fw_upd_ok hY.2.1 (fw_oh hO), ?_, ⟨hY.2.2.2.1.1, e2.trans hY.2.2.2.1.2⟩, hY.2.2.2.2.1.put e2 e3 (fw_inA hK hk), hY.2.2.2.2.2⟩
  refine fw_astd hY.2.2.1 hl (by decide) hk hj e1 e3 ?_ (fun q i h => ⟨rfl, if_neg h, rfl⟩)
  show Value.int (Int32.ofInt (fw_upd M k j v k j)) = .int (Int32.ofInt v)
  rw [show fw_upd M k j v k j = v from if_pos ⟨rfl, rfl⟩]
theorem fw_bastore {y : fw_M} {K0 pc K sl : Nat} {ls : List (Option fw_V)} {st : List fw_V} {R M : fw_F} {L : fw_G} {Q : fw_Q} {n : Nat} {k j v : Int} (hd : decode (fw_mC y) pc = .ok (.bastore, 1)) (hl : fw_lay (fw_mW y) k = (11, n)) (hK : K ≤ fw_KW (fw_mW y)) (hk : 0 ≤ k ∧ k < K) (hj : 0 ≤ j ∧ j < n) (hb : v = 0 ∨ v = 1)
    (kk : fw_WP y K0 (pc + 1) ls st K sl R (fw_upd M k j v) L Q) : fw_WP y K0 pc ls (fw_i v :: fw_i j :: fw_r k :: st) K sl R M L Q := by
  intro l D cA p e s m args below meth c bb H locs la hZ hO hY
  have hc := fw_acell hY.2.2.1 hl (by decide) hk
  have ho : fw_ok j := fw_oh (fw_ot hO)
  have hin := fw_in hj.1 hj.2 ho
  refine W.zast hZ.1 hZ.2.1 hc ((hZ.2.2.2.2.2.2.2.2.1.1.2 1 _ rfl).1 n _) (fun q => by cases q) (by rw [arrV_size]; exact hin) rfl rfl hd fun H1 e1 e2 e3 => ?_
  rw [fw_clamp ho] at e1
  refine kk l D cA p e s m args below meth c bb H1 _ la hZ (fw_ot (fw_ot (fw_ot hO))) ⟨hY.1, fw_upd_ok hY.2.1 (fw_oh hO), ?_, ⟨hY.2.2.2.1.1, e2.trans hY.2.2.2.1.2⟩, hY.2.2.2.2.1.put e2 e3 (fw_inA hK hk), hY.2.2.2.2.2⟩
  refine fw_astd hY.2.2.1 hl (by decide) hk hj e1 e3 ?_ (fun q i h => ⟨rfl, if_neg h, rfl⟩)
  show Value.int (Int32.ofInt (fw_upd M k j v k j)) = .int (Int32.ofInt v &&& 1)
  rw [show fw_upd M k j v k j = v from if_pos ⟨rfl, rfl⟩]
  rcases hb with rfl | rfl <;> rfl
theorem fw_lastore {y : fw_M} {K0 pc K sl : Nat} {ls : List (Option fw_V)} {st : List fw_V} {R M : fw_F} {L : fw_G} {Q : fw_Q} {n : Nat} {k j : Int} {v : Int64} (hd : decode (fw_mC y) pc = .ok (.lastore, 1)) (hl : fw_lay (fw_mW y) k = (12, n)) (hK : K ≤ fw_KW (fw_mW y)) (hk : 0 ≤ k ∧ k < K) (hj : 0 ≤ j ∧ j < n)
    (kk : fw_WP y K0 (pc + 1) ls st K sl R M (fw_upl L k j v) Q) : fw_WP y K0 pc ls (fw_l v :: fw_i j :: fw_r k :: st) K sl R M L Q := by
  intro l D cA p e s m args below meth c bb H locs la hZ hO hY
  have hc := fw_acell hY.2.2.1 hl (by decide) hk
  have ho : fw_ok j := fw_oh (fw_ot hO)
  have hin := fw_in hj.1 hj.2 ho
  refine W.last hZ.1 hZ.2.1 hc ((hZ.2.2.2.2.2.2.2.2.1.1.2 2 _ rfl).1 n _) (fun q => by cases q) (by rw [arrV_size]; exact hin) rfl rfl hd fun H1 e1 e2 e3 => ?_
  rw [fw_clamp ho] at e1
  refine kk l D cA p e s m args below meth c bb H1 _ la hZ (fw_ot (fw_ot (fw_ot hO))) ⟨hY.1, hY.2.1, ?_, ⟨hY.2.2.2.1.1, e2.trans hY.2.2.2.1.2⟩, hY.2.2.2.2.1.put e2 e3 (fw_inA hK hk), hY.2.2.2.2.2⟩
  refine fw_astd hY.2.2.1 hl (by decide) hk hj e1 e3 ?_ (fun q i h => ⟨rfl, rfl, if_neg h⟩)
  show Value.long (fw_upl L k j v k j) = .long v
  rw [show fw_upl L k j v k j = v from if_pos ⟨rfl, rfl⟩]
