/-! pieces: lists of (bytes, size), each once -/
theorem fw_updjn {M : fw_F} {k j v j' : Int} (h : ¬ j' = j) : fw_upd M k j v k j' = M k j' := by
  simp [fw_upd, h]
theorem fw_uplj {L : fw_G} {k j : Int} {v : Int64} : fw_upl L k j v k j = v := by
  simp [fw_upl]
abbrev pc_P : Type := Int64 × Int
def pc_sz : List pc_P → Int
  | [] => 0
  | a :: t => a.2 + pc_sz t
theorem pc_sz_app (a b : List pc_P) : pc_sz (a ++ b) = pc_sz a + pc_sz b := by
  induction a with
  | nil => simp [pc_sz]
  | cons x t ih => simp only [List.cons_append, pc_sz, ih]; omega
theorem pc_sz_perm {a b : List pc_P} (h : a.Perm b) : pc_sz a = pc_sz b := by
  induction h with
  | nil => rfl
  | cons x _ ih => simp only [pc_sz, ih]
  | swap x y t => simp only [pc_sz]; omega
  | trans _ _ i1 i2 => exact i1.trans i2
def pc_ins (l : List pc_P) (a : pc_P) : List pc_P := if a ∈ l then l else l ++ [a]
def pc_all (l c : List pc_P) : List pc_P := c.foldl pc_ins l
def pc_ok (l : List pc_P) : Prop := ∀ a ∈ l, 1 ≤ a.2 ∧ a.2 ≤ 8
abbrev pc_no (l : List pc_P) : pc_P → Bool := fun a => decide (¬ a ∈ l)
theorem pc_sz_len {l : List pc_P} (h : pc_ok l) : (l.length : Int) ≤ pc_sz l ∧ pc_sz l ≤ 8 * (l.length : Int) := by
  induction l with
  | nil => simp [pc_sz]
  | cons a t ih =>
    have h1 := ih (fun b hb => h b (List.mem_cons_of_mem _ hb))
    have h2 := h a List.mem_cons_self
    simp only [pc_sz, List.length_cons]
    omega
theorem pc_ins_mem {l : List pc_P} {a b : pc_P} : b ∈ pc_ins l a ↔ b ∈ l ∨ b = a := by
  unfold pc_ins
  split
  · rename_i h
    constructor
    · exact Or.inl
    · rintro (q | rfl)
      · exact q
      · exact h
  · simp
theorem pc_all_mem {c : List pc_P} {b : pc_P} : ∀ {l : List pc_P}, b ∈ pc_all l c ↔ b ∈ l ∨ b ∈ c := by
  induction c with
  | nil => intro l; simp [pc_all]
  | cons a t ih =>
    intro l
    show b ∈ pc_all (pc_ins l a) t ↔ _
    rw [ih, pc_ins_mem, List.mem_cons, or_assoc]
theorem pc_ins_nd {l : List pc_P} {a : pc_P} (h : l.Nodup) : (pc_ins l a).Nodup := by
  unfold pc_ins
  split
  · exact h
  · rename_i q
    exact List.nodup_append.mpr ⟨h, by simp, fun x hx y hy => by simp at hy; rintro rfl; exact q (hy ▸ hx)⟩
theorem pc_all_nd {c : List pc_P} : ∀ {l : List pc_P}, l.Nodup → (pc_all l c).Nodup := by
  induction c with
  | nil => intro l h; exact h
  | cons a t ih => intro l h; exact ih (pc_ins_nd h)
theorem pc_ins_ok {l : List pc_P} {a : pc_P} (h : pc_ok l) (ha : 1 ≤ a.2 ∧ a.2 ≤ 8) : pc_ok (pc_ins l a) := fun b hb => by
  rcases pc_ins_mem.mp hb with q | rfl
  · exact h b q
  · exact ha
theorem pc_all_ok {c l : List pc_P} (h : pc_ok l) (hc : pc_ok c) : pc_ok (pc_all l c) := fun b hb => by
  rcases pc_all_mem.mp hb with q | q
  · exact h b q
  · exact hc b q
theorem pc_ins_len (l : List pc_P) (a : pc_P) : (pc_ins l a).length ≤ l.length + 1 := by
  unfold pc_ins
  split <;> simp
theorem pc_all_app (l c d : List pc_P) : pc_all l (c ++ d) = pc_all (pc_all l c) d := by
  unfold pc_all
  rw [List.foldl_append]
theorem pc_all_one (l : List pc_P) (a : pc_P) : pc_all l [a] = pc_ins l a := rfl
theorem pc_all_sz {c : List pc_P} (hc : pc_ok c) : ∀ {l : List pc_P}, pc_sz l ≤ pc_sz (pc_all l c) := by
  induction c with
  | nil => intro l; exact Int.le_refl _
  | cons a t ih =>
    intro l
    have h1 := ih (fun b hb => hc b (List.mem_cons_of_mem _ hb)) (l := pc_ins l a)
    have h2 := hc a List.mem_cons_self
    have h3 : pc_sz l ≤ pc_sz (pc_ins l a) := by
      unfold pc_ins
      split
      · exact Int.le_refl _
      · rw [pc_sz_app]; simp only [pc_sz]; omega
    exact Int.le_trans h3 h1
theorem pc_all_eq {c : List pc_P} : ∀ {l : List pc_P}, c.Nodup → pc_all l c = l ++ c.filter (pc_no l) := by
  induction c with
  | nil => intro l _; simp [pc_all]
  | cons a t ih =>
    intro l h
    have h' := List.nodup_cons.mp h
    show pc_all (pc_ins l a) t = _
    rw [ih h'.2]
    unfold pc_ins
    by_cases ha : a ∈ l
    · rw [if_pos ha, List.filter_cons_of_neg (by simp [pc_no, ha])]
    · rw [if_neg ha, List.filter_cons_of_pos (by simp [pc_no, ha]), List.append_assoc]
      congr 1
      show [a] ++ _ = _
      rw [List.singleton_append]
      congr 1
      apply List.filter_congr
      intro b hb
      have : ¬ b = a := fun e => h'.1 (e ▸ hb)
      simp [pc_no, this]
/-- the one at i goes, the last takes its place -/
def pc_rm (l : List pc_P) (i : Nat) (z : pc_P) : List pc_P := (l.set i z).dropLast
theorem pc_rm_len (l : List pc_P) (i : Nat) (z : pc_P) : (pc_rm l i z).length = l.length - 1 := by simp [pc_rm]
theorem pc_rm_get {l : List pc_P} {i j : Nat} {z b : pc_P} (h : (pc_rm l i z)[j]? = some b) : j < l.length - 1 ∧ ((j = i ∧ b = z) ∨ (¬ j = i ∧ l[j]? = some b)) := by
  have hj : j < (pc_rm l i z).length := (List.getElem?_eq_some_iff.mp h).1
  rw [pc_rm_len] at hj
  refine ⟨hj, ?_⟩
  unfold pc_rm at h
  rw [List.getElem?_dropLast, if_pos (by simpa using hj), List.getElem?_set] at h
  split at h
  · rename_i e
    split at h
    · exact Or.inl ⟨e.symm, (Option.some.inj h).symm⟩
    · cases h
  · rename_i e
    exact Or.inr ⟨fun q => e q.symm, h⟩
theorem pc_rm_perm {l : List pc_P} {i : Nat} {a z : pc_P} (h : l[i]? = some a) (hz : l[l.length - 1]? = some z) : l.Perm (a :: pc_rm l i z) := by
  obtain ⟨hi, ha⟩ := List.getElem?_eq_some_iff.mp h
  have hne : l ≠ [] := by rintro rfl; simp at hi
  have hl : l = l.dropLast ++ [z] := by
    have h1 := List.dropLast_concat_getLast hne
    have h2 : l.getLast hne = z := by
      rw [List.getLast_eq_getElem]
      exact (List.getElem?_eq_some_iff.mp hz).2
    rw [h2] at h1
    exact h1.symm
  obtain ⟨d, hd⟩ : ∃ d, d = l.dropLast := ⟨_, rfl⟩
  rw [← hd] at hl
  subst hl
  unfold pc_rm
  rw [List.length_append] at hi
  simp only [List.length_cons, List.length_nil] at hi
  by_cases hid : i < d.length
  · rw [List.set_append_left _ _ hid, List.dropLast_concat, List.set_eq_take_append_cons_drop, if_pos hid]
    rw [List.getElem?_append_left hid] at h
    have hd2 : d = d.take i ++ a :: d.drop (i + 1) := by
      have h3 := (List.getElem?_eq_some_iff.mp h).2
      rw [← h3, List.getElem_cons_drop hid, List.take_append_drop]
    conv => lhs; rw [hd2]
    generalize d.take i = u
    generalize d.drop (i + 1) = w
    have p1 : (u ++ a :: w ++ [z]).Perm (z :: (u ++ a :: w)) := List.perm_append_singleton z _
    have p2 : (z :: (u ++ a :: w)).Perm (z :: a :: (u ++ w)) := List.Perm.cons z List.perm_middle
    have p3 : (z :: a :: (u ++ w)).Perm (a :: z :: (u ++ w)) := List.Perm.swap a z _
    have p4 : (a :: z :: (u ++ w)).Perm (a :: (u ++ z :: w)) := List.Perm.cons a List.perm_middle.symm
    exact p1.trans (p2.trans (p3.trans p4))
  · have hie : i = d.length := by omega
    rw [hie, List.getElem?_append_right (by omega)] at h
    simp at h
    rw [hie, List.set_append_right _ _ (by omega)]
    simp only [Nat.sub_self, List.set_cons_zero, List.dropLast_concat]
    rw [h]
    exact List.perm_append_singleton a d
theorem pc_rm_take {l : List pc_P} {i : Nat} {z : pc_P} (h : i < l.length) : (pc_rm l i z).take i = l.take i := by
  unfold pc_rm
  apply List.ext_getElem?
  intro j
  rw [List.getElem?_take, List.getElem?_take]
  split
  · rename_i hj
    rw [List.getElem?_dropLast, List.length_set, if_pos (by omega), List.getElem?_set_ne (by omega)]
  · rfl
def ps_at (M : fw_F) (L : fw_G) (p : Int) (l : List pc_P) : Prop := M p 2 = (l.length : Int) ∧ M p 3 = pc_sz l ∧ ∀ (i : Nat) (a : pc_P), l[i]? = some a → L (p + 1) i = a.1 ∧ M (p + 2) i = a.2
theorem ps_at_fr {M M2 : fw_F} {L L2 : fw_G} {o : Int} {l : List pc_P} (h : ps_at M L o l) (h1 : M2 o = M o) (h2 : M2 (o + 2) = M (o + 2)) (h3 : L2 (o + 1) = L (o + 1)) : ps_at M2 L2 o l := by
  unfold ps_at at h ⊢
  rw [h1, h2, h3]
  exact h
theorem ps_at_get {M : fw_F} {L : fw_G} {p i : Int} {l : List pc_P} (h : ps_at M L p l) (h0 : 0 ≤ i) (h1 : i < M p 2) : ∃ a : pc_P, l[i.toNat]? = some a ∧ L (p + 1) i = a.1 ∧ M (p + 2) i = a.2 := by
  have h2 := h.1
  have hlt : i.toNat < l.length := by omega
  obtain ⟨a, ha⟩ : ∃ a, l[i.toNat]? = some a := ⟨_, List.getElem?_eq_getElem hlt⟩
  have h3 := h.2.2 i.toNat a ha
  rw [show ((i.toNat : Nat) : Int) = i by omega] at h3
  exact ⟨a, ha, h3⟩
theorem ps_at_add {M M2 : fw_F} {L L2 : fw_G} {p v : Int} {x : Int64} {l : List pc_P} (h : ps_at M L p l) (h2 : M2 p 2 = M p 2 + 1) (h3 : M2 p 3 = M p 3 + v) (hL : ∀ j, L2 (p + 1) j = if j = M p 2 then x else L (p + 1) j) (hM : ∀ j, M2 (p + 2) j = if j = M p 2 then v else M (p + 2) j) : ps_at M2 L2 p (l ++ [(x, v)]) := by
  obtain ⟨e1, e2, e3⟩ := h
  refine ⟨?_, ?_, fun i a ha => ?_⟩
  · rw [h2, e1, List.length_append]; rfl
  · rw [h3, e2, pc_sz_app]; simp [pc_sz]
  · rw [hL, hM, e1]
    have hi : i < (l ++ [(x, v)]).length := (List.getElem?_eq_some_iff.mp ha).1
    simp only [List.length_append, List.length_cons, List.length_nil] at hi
    by_cases hq : i < l.length
    · rw [if_neg (by omega), if_neg (by omega)]
      rw [List.getElem?_append_left hq] at ha
      exact e3 i a ha
    · have he : i = l.length := by omega
      rw [if_pos (by omega), if_pos (by omega)]
      rw [he, List.getElem?_append_right (by omega)] at ha
      simp at ha
      rw [← ha]
      exact ⟨rfl, rfl⟩
theorem ps_at_rm {M M2 : fw_F} {L L2 : fw_G} {p i : Int} {l : List pc_P} {z : pc_P} (h : ps_at M L p l) (h0 : 0 ≤ i) (h1 : i < M p 2) (hz : l[l.length - 1]? = some z) (h2 : M2 p 2 = M p 2 - 1) (h3 : M2 p 3 = M p 3 - M (p + 2) i) (hL : ∀ j, L2 (p + 1) j = if j = i then L (p + 1) (M p 2 - 1) else L (p + 1) j) (hM : ∀ j, M2 (p + 2) j = if j = i then M (p + 2) (M p 2 - 1) else M (p + 2) j) : ps_at M2 L2 p (pc_rm l i.toNat z) := by
  obtain ⟨a, ha, a1, a2⟩ := ps_at_get h h0 h1
  have hp := pc_sz_perm (pc_rm_perm ha hz)
  simp only [pc_sz] at hp
  obtain ⟨e1, e2, e3⟩ := h
  have hz2 := e3 _ _ hz
  rw [show ((l.length - 1 : Nat) : Int) = M p 2 - 1 by omega] at hz2
  refine ⟨?_, ?_, fun j b hb => ?_⟩
  · rw [h2, e1, pc_rm_len]; omega
  · rw [h3, e2, a2]; omega
  · obtain ⟨c1, c2⟩ := pc_rm_get hb
    rw [hL, hM]
    rcases c2 with ⟨c2, c3⟩ | ⟨c2, c3⟩
    · rw [if_pos (by omega), if_pos (by omega), c3]; exact hz2
    · rw [if_neg (by omega), if_neg (by omega)]; exact e3 j b c3
