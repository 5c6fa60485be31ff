/-! new cells: what is not yet made has no number, no long, no reference -/
def fw_nw (K : Nat) (R M : fw_F) (L : fw_G) : Prop := ∀ j : Int, R K j = -1 ∧ M K j = 0 ∧ L K j = 0
def fw_df (ci N : Nat) (ty : Nat → FieldType) : Prop := ∀ j, j < N → ∀ b, defaultValue (ty j) = fw_vv (fw_ftg ci j) b (-1) 0 0
theorem fw_Wd_new {D : va_G} {cA : Nat → ClassId} {b w K : Nat} {R M : fw_F} {L : fw_G} {H H1 : Heap} (h : fw_Wd D cA b w K R M L H) (o1 : ∀ q, q < b + K → H1[q]? = H[q]?) (hn : fw_cell D cA b w R M L H1 K) : fw_Wd D cA b w (K + 1) R M L H1 := by
  intro k hk
  rcases (show k < K ∨ k = K by omega) with c | c
  · exact fw_cell_kept (h k c) (o1 _ (by omega)) (fun j => ⟨rfl, rfl, rfl⟩)
  · rw [c]; exact hn
theorem fw_sz {y : fw_M} {D : va_G} {cA : Nat → ClassId} {p : Program} {s : State} {m : MethodId} {args : Array Value} {meth : Method} {c : Code} {b K0 K : Nat} {R M : fw_F} {L : fw_G} {ls : List (Option fw_V)} {H : Heap} {locs : List Loc} {la : Array Slot} (hmc : 0 < fw_mc y) (hZ : fw_Z y D cA p s m args meth c b K0) (hY : fw_Y y D cA b K0 K R M L ls s H locs la) : H.size = b + K := by
  have h1 := hZ.2.2.2.2.2.2.2.2.2.2 hmc
  have h2 := hY.2.2.2.1.2
  have h3 := hY.2.2.2.1.1
  omega
/-- the frame behind a new cell -/
theorem fw_Yn {y : fw_M} {D : va_G} {cA : Nat → ClassId} {s : State} {b K0 K : Nat} {R M : fw_F} {L : fw_G} {ls : List (Option fw_V)} {H H1 : Heap} {locs : List Loc} {la : Array Slot} (hY : fw_Y y D cA b K0 K R M L ls s H locs la) (hs : H.size = b + K) (z1 : H1.size = b + K + 1) (o1 : ∀ q, q < b + K → H1[q]? = H[q]?) (hn : fw_cell D cA b (fw_mW y) R M L H1 K) : fw_Y y D cA b K0 (K + 1) R M L ls s H1 locs la := by
  refine ⟨hY.1, hY.2.1, fw_Wd_new hY.2.2.1 o1 hn, ⟨by have := hY.2.2.2.1.1; omega, ?_⟩, ⟨?_, fun x h1 h2 => ?_, hY.2.2.2.2.1.2.2⟩, hY.2.2.2.2.2⟩
  · have h1 := hY.2.2.2.1.1
    have h2 := hY.2.2.2.1.2
    omega
  · have h2 := hY.2.2.2.2.1.1
    omega
  · have h3 := hY.2.2.2.2.1.1
    exact (o1 x (by omega)).trans (hY.2.2.2.2.1.2.1 x h1 h2)
theorem fw_newo {y : fw_M} {K0 pc K sl : Nat} {ls : List (Option fw_V)} {st : List fw_V} {R M : fw_F} {L : fw_G} {Q : fw_Q} {idx ci N : Nat} {C : String} {T : u_T} {ty : Nat → FieldType} (q : Int) (K1 sl1 : Nat) (hqK : (K : Int) = q) (hK1 : K + 1 = K1) (hs1 : sl + N = sl1) (hd : decode (fw_mC y) pc = .ok (.new idx, 3)) (hc : fw_cls ci C T N ty) (hdf : fw_df ci N ty) (hw : Cond.classLink (fw_cn (fw_mO y)) idx C ∈ fw_tbl ∧ Cond.instantiable C N ∈ fw_tbl ∧ Cond.initialized C ∈ fw_tbl) (hl : fw_lay (fw_mW y) K = (ci, N)) (hci : ci < 10) (hmc : 0 < fw_mc y ∧ K - K0 + 1 ≤ fw_mc y ∧ sl + N ≤ fw_ms y) (hnw : fw_nw K R M L) (kk : fw_WP y K0 (pc + 3) ls (fw_r q :: st) K1 sl1 R M L Q) : fw_WP y K0 pc ls st K sl R M L Q := by
  subst hqK
  subst hK1
  subst hs1
  intro l D cA p e s m args below meth c bb H locs la hZ hO hY
  obtain ⟨hcl, hin, hty, hnm⟩ := hc
  have ht := hZ.2.2.2.2.2.1
  have hKn := hZ.2.2.2.2.2.2.2.2.1.1.1 ci _ hcl
  have hle := hY.2.2.2.1.1
  have hs := fw_sz hmc.1 hZ hY
  refine W.newcK hZ.1 hZ.2.1 hZ.2.2.2.2.1 (ht _ hw.1) (ht _ hw.2.1) (ht _ hw.2.2) rfl hd hmc.2.1 hmc.2.2 hKn.2.1 hs fun H1 kC hkC e1 z1 o1 => ?_
  have hk := kk l D cA p e s m args below meth c bb H1 locs la hZ (fw_oc fw_okr hO) (fw_Yn hY hs z1 o1 ⟨fun _ => by
      rw [hl]
      exact (u_born ty ht hin hKn hkC e1 hty).to fun f hf => by
        rw [(hnw f).1, (hnw f).2.1, (hnw f).2.2]
        exact hdf f hf bb, fun h => by
      rw [hl] at h
      exact absurd h (by show ¬ 10 ≤ ci; omega)⟩)
  rw [show K + 1 - K0 = K - K0 + 1 by omega] at hk
  exact hk
/-- a new row of numbers: i the place of its class -/
theorem fw_newi {y : fw_M} {K0 pc K sl : Nat} {ls : List (Option fw_V)} {st : List fw_V} {R M : fw_F} {L : fw_G} {Q : fw_Q} {n i : Nat} {nn : Int} {atype : ArrayType} (q : Int) (K1 sl1 : Nat) (hqK : (K : Int) = q) (hK1 : K + 1 = K1) (hs1 : sl + n = sl1) (hd : decode (fw_mC y) pc = .ok (.newarray atype, 2)) (hnn : (n : Int) = nn) (hn : n ≤ 1000) (harr : Cond.arrayClass (newarray.typeOf atype) ∈ fw_tbl) (hti : ∀ cA, (fw_tys cA)[i]? = some (cA i, newarray.typeOf atype)) (hra : ∀ s c, va_RA s c (newarray.typeOf atype) → s.vm.findClass ("[" ++ (newarray.typeOf atype).toString) = some c) (hdv : ∀ b, defaultValue (newarray.typeOf atype) = fw_vv (fw_atg (10 + i)) b (-1) 0 0) (hby : n * componentBytes (newarray.typeOf atype) ≤ 536870912) (hl : fw_lay (fw_mW y) K = (10 + i, n)) (hmc : 0 < fw_mc y ∧ K - K0 + 1 ≤ fw_mc y ∧ sl + n ≤ fw_ms y) (hnw : fw_nw K R M L) (kk : fw_WP y K0 (pc + 2) ls (fw_r q :: st) K1 sl1 R M L Q) : fw_WP y K0 pc ls (fw_i nn :: st) K sl R M L Q := by
  subst hqK
  subst hK1
  subst hs1
  subst hnn
  intro l D cA p e s m args below meth c bb H locs la hZ hO hY
  have ht := hZ.2.2.2.2.2.1
  have hle := hY.2.2.2.1.1
  have hs := fw_sz hmc.1 hZ hY
  have ho : fw_ok (n : Int) := ⟨by omega, by omega⟩
  refine va_newaK hZ.1 hZ.2.1 (ht _ harr) rfl hd rfl (fun q => by have := (fw_lt ho fw_ok0).mp q; omega) (by rw [fw_clamp ho]; rfl) hby hmc.2.1 hmc.2.2 hs fun H1 cX e1 z1 o1 hAr hNm => ?_
  have hcx : cX = cA i := Option.some.inj (hNm.symm.trans (hra s (cA i) (hZ.2.2.2.2.2.2.2.2.1.1.2 i _ (hti cA)).2))
  subst hcx
  have hk := kk l D cA p e s m args below meth c bb H1 locs la hZ (fw_oc fw_okr (fw_ot hO)) (fw_Yn hY hs z1 o1 ⟨fun h => by
      rw [hl] at h
      exact absurd h (by show ¬ 10 + i < 10; omega), fun _ => by
      rw [hl, e1]
      show some (arrV (cA i) n _) = some (arrV (cA (10 + i - 10)) n _)
      rw [show 10 + i - 10 = i by omega]
      congr 2
      funext j
      rw [(hnw j).1, (hnw j).2.1, (hnw j).2.2]
      exact hdv bb⟩)
  rw [show K + 1 - K0 = K - K0 + 1 by omega] at hk
  exact hk
/-- a new row of references to objects of a class -/
theorem fw_newq {y : fw_M} {K0 pc K sl : Nat} {ls : List (Option fw_V)} {st : List fw_V} {R M : fw_F} {L : fw_G} {Q : fw_Q} {n i idx : Nat} {nn : Int} {C : String} (q : Int) (K1 sl1 : Nat) (hqK : (K : Int) = q) (hK1 : K + 1 = K1) (hs1 : sl + n = sl1) (hd : decode (fw_mC y) pc = .ok (.anewarray idx, 3)) (hnn : (n : Int) = nn) (hn : n ≤ 1000) (hcl : Cond.classLink (fw_cn (fw_mO y)) idx C ∈ fw_tbl) (hao : ∀ s, fw_ao s → va_AO C s) (hti : ∀ cA, (fw_tys cA)[i]? = some (cA i, .object C)) (hi : i = 3 ∨ i = 4) (hl : fw_lay (fw_mW y) K = (10 + i, n)) (hmc : 0 < fw_mc y ∧ K - K0 + 1 ≤ fw_mc y ∧ sl + n ≤ fw_ms y) (hnw : fw_nw K R M L) (kk : fw_WP y K0 (pc + 3) ls (fw_r q :: st) K1 sl1 R M L Q) : fw_WP y K0 pc ls (fw_i nn :: st) K sl R M L Q := by
  subst hqK
  subst hK1
  subst hs1
  subst hnn
  intro l D cA p e s m args below meth c bb H locs la hZ hO hY
  have ht := hZ.2.2.2.2.2.1
  have hle := hY.2.2.2.1.1
  have hs := fw_sz hmc.1 hZ hY
  have ho : fw_ok (n : Int) := ⟨by omega, by omega⟩
  have hN : (Int32.ofInt (n : Int)).toNatClampNeg = n := by rw [fw_clamp ho]; rfl
  refine W.anew (n := Int32.ofInt (n : Int)) hZ.1 hZ.2.1 hZ.2.2.2.2.1 (ht _ hcl) (va_AO.use (hao s hZ.2.2.2.2.2.2.2.2.1.2.2)) rfl hd rfl (fun q => by have := (fw_lt ho fw_ok0).mp q; omega) (by rw [hN]; omega) hmc.2.1 (by rw [hN]; exact hmc.2.2) fun cX kA comp f1 f2 f3 f4 => ?_
  rw [hN]
  obtain ⟨kA2, comp2, r1, r2, r3, r4⟩ := (hZ.2.2.2.2.2.2.2.2.1.1.2 i _ (hti cA)).2
  have hcx : cX = cA i := Option.some.inj (f1.symm.trans r4)
  subst hcx
  generalize hH1 : H.push ({ cls := cA i, slots := Array.replicate n .null, vm := .none } : Cell) = H1
  have z1 : H1.size = bb + K + 1 := by rw [← hH1, Array.size_push, hs]
  have e1 : H1[bb + K]? = some (arrV (cA i) n (fun _ => .null)) := by rw [← hH1, ← hs, Array.getElem?_push_size, ← arrV_new]
  have o1 : ∀ q : Nat, q < bb + K → H1[q]? = H[q]? := fun q hq => by rw [← hH1, Array.getElem?_push, if_neg (by omega)]
  have hk := kk l D cA p e s m args below meth c bb H1 locs la hZ (fw_oc fw_okr (fw_ot hO)) (fw_Yn hY hs z1 o1 ⟨fun h => by
      rw [hl] at h
      exact absurd h (by show ¬ 10 + i < 10; omega), fun _ => by
      rw [hl, e1]
      show some (arrV (cA i) n _) = some (arrV (cA (10 + i - 10)) n _)
      rw [show 10 + i - 10 = i by omega]
      congr 2
      funext j
      rw [(hnw j).1, (hnw j).2.1, (hnw j).2.2]
      rcases hi with rfl | rfl <;> rfl⟩)
  rw [show K + 1 - K0 = K - K0 + 1 by omega] at hk
  rw [hs]
  exact hk
/-- Object's own constructor -/
theorem fw_obj {y : fw_M} {K0 pc K sl : Nat} {ls : List (Option fw_V)} {st : List fw_V} {R M : fw_F} {L : fw_G} {Q : fw_Q} {idx : Nat} {k : Int} (hd : decode (fw_mC y) pc = .ok (.invokespecial idx, 3)) (hw : Cond.methodLink (fw_cn (fw_mO y)) idx Lib.objectInit ∈ fw_tbl ∧ Cond.instanceMethod Lib.objectInit ∈ fw_tbl ∧ Cond.code Lib.objectInit ⟨#[0xb1]⟩ 1 none ∈ fw_tbl) (hrm : 1 ≤ fw_mF y ∧ (st.map fw_cat).sum + 12 ≤ fw_mX y) (kk : fw_WP y K0 (pc + 3) ls st K sl R M L Q) : fw_WP y K0 pc ls (fw_r k :: st) K sl R M L Q := by
  intro l D cA p e s m args below meth c bb H locs la hZ hO hY
  have ht := hZ.2.2.2.2.2.1
  refine W.objInit (a := bb + k.toNat) (rest := st.map (fw_cv bb)) hZ.1 hZ.2.1 hZ.2.2.2.2.1 (ht _ hw.1) (ht _ hw.2.1) (ht _ hw.2.2) rfl (by rw [hZ.2.2.2.1]; exact hY.2.2.2.2.2.1) rfl hd hrm.1 ?_ (kk l D cA p e s m args below meth c bb H locs la hZ (fw_ot hO) hY)
  have h9 : (fw_rm y).locals = fw_mX y := rfl
  show 2 * 0 + _ + 12 ≤ _
  rw [fw_cats, h9]
  omega
/-- a reference put into a final field by its constructor -/
def fw_fldF (o idx ci N f : Nat) (t : FieldType) : Prop := ∃ (C : String) (T : u_T) (ty : Nat → FieldType), fw_cls ci C T N ty ∧ f < N ∧ Cond.fieldLink (fw_cn o) idx (T f).1 (T f).2.1 (T f).2.2.1 ∈ fw_tbl ∧ ci < 10 ∧ (T f).2.2.2 = true ∧ ty f = t ∧ (T f).1 = fw_cn o
theorem fw_putr {y : fw_M} {K0 pc K sl : Nat} {ls : List (Option fw_V)} {st : List fw_V} {R M : fw_F} {L : fw_G} {Q : fw_Q} {idx ci N f : Nat} {k q : Int} {t : FieldType} (j : Int) (hj : (f : Int) = j) (hd : decode (fw_mC y) pc = .ok (.putfield idx, 3)) (hf : fw_fldF (fw_mO y) idx ci N f t) (hnf : ∀ a, narrow t (.ref a) = .ref a ∧ fits t (.ref a) = true) (hinit : (fw_mN y).name = "<init>") (hl : fw_lay (fw_mW y) k = (ci, N)) (hg : fw_ftg ci f = 2) (hK : K ≤ fw_KW (fw_mW y)) (hk : 0 ≤ k ∧ k < K) (hq : 0 ≤ q)
    (kk : fw_WP y K0 (pc + 3) ls st K sl (fw_upd R k j q) M L Q) : fw_WP y K0 pc ls (fw_r q :: fw_r k :: st) K sl R M L Q := by
  subst hj
  intro l D cA p e s m args below meth c bb H locs la hZ hO hY
  obtain ⟨C, T, ty, ⟨hc, hin, hty, hnm⟩, hfN, hw, hci, hfin, hty2, hdecl⟩ := hf
  obtain ⟨hkn, hke⟩ := fw_nat hk
  have hcell := (hY.2.2.1 k.toNat hkn).1
  rw [hke, hl] at hcell
  obtain ⟨cell, q1, q2, q3, q4⟩ := hcell hci
  have hKK := hZ.2.2.2.2.2.2.2.2.1.1
  have hts := hZ.2.2.2.2.2.1
  have hap := va_apart (own := fw_cn (fw_mO y)) hts hin ty hty hnm hKK hc
  obtain ⟨hS, hfc, kC, hkC, hkind⟩ := hKK.1 ci _ hc
  obtain ⟨cf, kf, fi, fd, hi, hsl⟩ := hS f hfN
  have hlay := hts _ (hin _ (u_in_lay hfN))
  unfold u_lay at hlay
  rw [if_pos hfin] at hlay
  have hst := (u_facts hfc hkC (u_lays hts hin hfN) hi).1
  have hcf : m.cls = cf := by
    obtain ⟨_, _, c', _, _, _, -, -, hf', -, -, -, hown2, -⟩ := Cond.laysFinal_spec hlay
    have e1 : c' = cf := by have := hi.symm.trans hf'; simp at this; exact this.1.symm
    rw [hdecl] at hown2
    rw [← e1]
    exact Option.some.inj (hZ.2.2.2.2.1.symm.trans hown2)
  have h6 := u_fits hfc hkC hkind (Or.inr hlay) hi (by rw [hty f hfN, hty2]) (hnf (bb + q.toNat)).1 (hnf (bb + q.toNat)).2
  refine W.putFinK hZ.1 hZ.2.1 hZ.2.2.2.2.1 (hts _ hw) hi hst hcf (hZ.2.2.2.2.2.2.2.1.trans hinit) (by rw [q2]; exact h6) q1 q3 (by rw [hsl]; exact k2_hasslot (q4 f hfN)) rfl rfl hd fun H1 e1 e2 e3 => ?_
  rw [hsl] at e1 ⊢
  refine kk l D cA p e s m args below meth c bb H1 _ la hZ (fw_ot (fw_ot hO)) ⟨hY.1, hY.2.1, ?_, ⟨hY.2.2.2.1.1, e2.trans hY.2.2.2.1.2⟩, hY.2.2.2.2.1.put e2 e3 (fw_inA hK hk), hY.2.2.2.2.2⟩
  refine fw_Wd_put (q := k.toNat) hY.2.2.1 e3 (fun k' j hne => ⟨?_, rfl, rfl⟩) ⟨fun _ => ?_, fun h => ?_⟩
  · exact if_neg (fun z => hne (by omega))
  · rw [hke, hl]
    refine t_OB.to (V := updV (fun f => fw_vv (fw_ftg ci f) bb (R k f) (M k f) (L k f)) f (.ref (bb + q.toNat))) ⟨_, e1, q2, q3, t_set q4 hap hfN _⟩ (fun j hj => ?_)
    unfold updV
    by_cases hjf : j = f
    · subst hjf
      rw [if_pos rfl, hg, fw_updj]
      show _ = if q < 0 then Value.null else .ref (bb + q.toNat)
      rw [if_neg (by omega)]
    · rw [if_neg hjf]
      show _ = fw_vv _ _ (fw_upd R k f q k j) _ _
      rw [fw_updjn (by omega)]
  · rw [hke, hl] at h
    exact absurd h (by omega)
/-- an object put into a row -/
theorem fw_aast {y : fw_M} {K0 pc K sl : Nat} {ls : List (Option fw_V)} {st : List fw_V} {R M : fw_F} {L : fw_G} {Q : fw_Q} {n i ci N : Nat} {k j q : Int} {C : String} {T : u_T} {ty : Nat → FieldType} (hd : decode (fw_mC y) pc = .ok (.aastore, 1)) (hc : fw_cls ci C T N ty) (hti : ∀ cA, (fw_tys cA)[i]? = some (cA i, .object C)) (hi : i = 3 ∨ i = 4) (hl : fw_lay (fw_mW y) k = (10 + i, n)) (hlq : fw_lay (fw_mW y) q = (ci, N)) (hci : ci < 10) (hK : K ≤ fw_KW (fw_mW y)) (hk : 0 ≤ k ∧ k < K) (hq : 0 ≤ q ∧ q < K) (hj : 0 ≤ j ∧ j < n)
    (kk : fw_WP y K0 (pc + 1) ls st K sl (fw_upd R k j q) M L Q) : fw_WP y K0 pc ls (fw_r q :: fw_i j :: fw_r k :: st) K sl R M L Q := by
  intro l D cA p e s m args below meth c bb H locs la hZ hO hY
  have hca := fw_acell hY.2.2.1 hl (by omega) hk
  rw [show 10 + i - 10 = i by omega] at hca
  have ho : fw_ok j := fw_oh (fw_ot hO)
  obtain ⟨hqn, hqe⟩ := fw_nat hq
  have hcell := (hY.2.2.1 q.toNat hqn).1
  rw [hqe, hlq] at hcell
  obtain ⟨cellV, g1, g2, g3, -⟩ := hcell hci
  have hcls := (hZ.2.2.2.2.2.2.2.2.1.1.1 ci _ hc.1).2
  obtain ⟨kA, comp, k1, k2, k3, -⟩ := (hZ.2.2.2.2.2.2.2.2.1.1.2 i _ (hti cA)).2
  have hcomp : comp = D.1 ci := Option.some.inj (k3.symm.trans hcls.1)
  subst hcomp
  obtain ⟨kC, hkC, -⟩ := hcls.2
  obtain ⟨j1, j2⟩ := fw_jn hj
  refine W.aast (v := bb + q.toNat) hZ.1 hZ.2.1 hca (fun q h => by cases h) (fun h => by cases h) k1 k2 rfl hkC ⟨fun z => by have := (fw_lt ho fw_ok0).mp z; omega, by rw [arrV_size, fw_clamp ho]; exact j1⟩ g1 (fun q h => by rw [g3] at h; cases h) (by rw [g2]; exact hkC) (by rw [g2]; exact va_assign hcls) rfl rfl hd fun H1 e1 e2 e3 => ?_
  rw [fw_clamp ho] at e1
  refine kk l D cA p e s m args below meth c bb H1 _ la hZ (fw_ot (fw_ot (fw_ot hO))) ⟨hY.1, hY.2.1, ?_, ⟨hY.2.2.2.1.1, e2.trans hY.2.2.2.1.2⟩, hY.2.2.2.2.1.put e2 e3 (fw_inA hK hk), hY.2.2.2.2.2⟩
  refine fw_astd (t := 10 + i) hY.2.2.1 hl (by omega) hk hj (by rw [show 10 + i - 10 = i by omega]; exact e1) e3 ?_ (fun q i h => ⟨if_neg h, rfl, rfl⟩)
  rw [fw_updj]
  rcases hi with rfl | rfl
  · show (if q < 0 then Value.null else .ref (bb + q.toNat)) = _
    rw [if_neg (by omega)]
  · show (if q < 0 then Value.null else .ref (bb + q.toNat)) = _
    rw [if_neg (by omega)]
