/-! THE ABSTRACT MACHINE: ints are Int within bounds, longs Int64, references are numbers of cells; a world is a fixed layout of cells at b, b+1, .. -/
abbrev fw_V : Type := Int ⊕ (Int64 ⊕ Int)
abbrev fw_i (x : Int) : fw_V := Sum.inl x
abbrev fw_l (x : Int64) : fw_V := Sum.inr (Sum.inl x)
abbrev fw_r (k : Int) : fw_V := Sum.inr (Sum.inr k)
abbrev fw_F : Type := Int → Int → Int
abbrev fw_G : Type := Int → Int → Int64
def fw_ok (x : Int) : Prop := -2147483648 ≤ x ∧ x ≤ 2147483647
def fw_okV (v : fw_V) : Prop := match v with
  | .inl x => fw_ok x
  | .inr _ => True
def fw_cv (b : Nat) (v : fw_V) : Value := match v with
  | .inl x => .int (Int32.ofInt x)
  | .inr (.inl x) => .long x
  | .inr (.inr k) => .ref (b + k.toNat)
def fw_cat (v : fw_V) : Nat := match v with
  | .inl _ => 1
  | .inr (.inl _) => 2
  | .inr (.inr _) => 1
theorem fw_cv_cat (b : Nat) (v : fw_V) : (fw_cv b v).category = fw_cat v := by
  rcases v with x | x | x <;> rfl
theorem fw_toInt {x : Int} (h : fw_ok x) : (Int32.ofInt x).toInt = x := Int32.toInt_ofInt_of_le (by have := h.1; omega) (by have := h.2; omega)
theorem fw_le {x y : Int} (hx : fw_ok x) (hy : fw_ok y) : Int32.ofInt x ≤ Int32.ofInt y ↔ x ≤ y := by rw [Int32.le_iff_toInt_le, fw_toInt hx, fw_toInt hy]
theorem fw_lt {x y : Int} (hx : fw_ok x) (hy : fw_ok y) : Int32.ofInt x < Int32.ofInt y ↔ x < y := by rw [Int32.lt_iff_toInt_lt, fw_toInt hx, fw_toInt hy]
theorem fw_eq {x y : Int} (hx : fw_ok x) (hy : fw_ok y) : Int32.ofInt x = Int32.ofInt y ↔ x = y := by rw [← Int32.toInt_inj, fw_toInt hx, fw_toInt hy]
theorem fw_ok32 (x : Int32) : fw_ok x.toInt := ⟨by have := x.le_toInt; omega, by have := x.toInt_lt; omega⟩
theorem fw_ok0 : fw_ok 0 := ⟨by decide, by decide⟩
theorem fw_zero : (0 : Int32) = Int32.ofInt 0 := rfl
theorem fw_in {x : Int} {n : Nat} (h0 : 0 ≤ x) (h1 : x < n) (hx : fw_ok x) : vp_in (Int32.ofInt x) n := vp_in_iff.mpr (by rw [fw_toInt hx]; exact ⟨h0, h1⟩)
theorem fw_clamp {x : Int} (hx : fw_ok x) : (Int32.ofInt x).toNatClampNeg = x.toNat := Int32.toNatClampNeg_ofInt_of_le (by have := hx.1; omega) (by have := hx.2; omega)
/-- locals by position -/
def fw_lc (b : Nat) : Nat → List (Option fw_V) → List (Nat × Value)
  | _, [] => []
  | i, none :: t => fw_lc b (i + 1) t
  | i, some v :: t => (i, fw_cv b v) :: fw_lc b (i + 1) t
theorem fw_lc_mem {b : Nat} {ls : List (Option fw_V)} : ∀ {n i : Nat} {x : Value}, (i, x) ∈ fw_lc b n ls ↔ ∃ (j : Nat) (v : fw_V), i = n + j ∧ ls[j]? = some (some v) ∧ x = fw_cv b v := by
  induction ls with
  | nil =>
    intro n i x
    simp [fw_lc]
  | cons a t ih =>
    intro n i x
    cases a with
    | none =>
      show (i, x) ∈ fw_lc b (n + 1) t ↔ _
      rw [ih]
      constructor
      · rintro ⟨j, v, h1, h2, h3⟩
        exact ⟨j + 1, v, by omega, by simpa using h2, h3⟩
      · rintro ⟨j, v, h1, h2, h3⟩
        cases j with
        | zero => simp at h2
        | succ j => exact ⟨j, v, by omega, by simpa using h2, h3⟩
    | some w =>
      show (i, x) ∈ (n, fw_cv b w) :: fw_lc b (n + 1) t ↔ _
      rw [List.mem_cons, ih]
      constructor
      · rintro (h | ⟨j, v, h1, h2, h3⟩)
        · cases h
          exact ⟨0, w, by omega, by simp, rfl⟩
        · exact ⟨j + 1, v, by omega, by simpa using h2, h3⟩
      · rintro ⟨j, v, h1, h2, h3⟩
        cases j with
        | zero =>
          left
          simp at h2
          subst h2
          subst h3
          simp at h1
          rw [h1]
        | succ j => exact Or.inr ⟨j, v, by omega, by simpa using h2, h3⟩
theorem fw_ld {b nL i : Nat} {ls : List (Option fw_V)} {la : Array Slot} {v : fw_V} (h : lv_has la nL (fw_lc b 0 ls)) (hi : ls[i]? = some (some v)) : la[i]? = some (.val (fw_cv b v)) :=
  h.2.2 (i, fw_cv b v) (fw_lc_mem.mpr ⟨i, v, by omega, hi, rfl⟩)
theorem fw_has_sub {nL : Nat} {la : Array Slot} {l l' : List (Nat × Value)} (h : lv_has la nL l) (hs : ∀ q ∈ l', q ∈ l) : lv_has la nL l' := ⟨h.1, h.2.1, fun q hq => h.2.2 q (hs q hq)⟩
def fw_st1 : List (Option fw_V) → Nat → fw_V → List (Option fw_V)
  | [], 0, v => [some v]
  | [], i + 1, v => none :: fw_st1 [] i v
  | _ :: t, 0, v => some v :: t
  | a :: t, i + 1, v => (match i, a with
    | 0, some (.inr (.inl _)) => none
    | _, _ => a) :: fw_st1 t i v
def fw_no : List (Option fw_V) → Nat → List (Option fw_V)
  | [], _ => []
  | _ :: t, 0 => none :: t
  | a :: t, i + 1 => a :: fw_no t i
theorem fw_st1_at : ∀ (ls : List (Option fw_V)) (i : Nat) (v : fw_V) (j : Nat) (u : fw_V), (fw_st1 ls i v)[j]? = some (some u) → (j = i ∧ u = v) ∨ (j ≠ i ∧ ls[j]? = some (some u) ∧ ¬ (j + 1 = i ∧ fw_cat u = 2))
  | [], 0, v, j, u => by
    intro h
    cases j with
    | zero => left; simp [fw_st1] at h; exact ⟨rfl, h.symm⟩
    | succ j => simp [fw_st1] at h
  | [], i + 1, v, j, u => by
    intro h
    cases j with
    | zero => simp [fw_st1] at h
    | succ j =>
      have h' : (fw_st1 [] i v)[j]? = some (some u) := by simpa [fw_st1] using h
      rcases fw_st1_at [] i v j u h' with ⟨a, b⟩ | ⟨_, b, _⟩
      · exact Or.inl ⟨by omega, b⟩
      · simp at b
  | a :: t, 0, v, j, u => by
    intro h
    cases j with
    | zero => left; simp [fw_st1] at h; exact ⟨rfl, h.symm⟩
    | succ j => right; simp [fw_st1] at h; exact ⟨by omega, by simpa using h, by omega⟩
  | a :: t, i + 1, v, j, u => by
    intro h
    cases j with
    | succ j =>
      have h' : (fw_st1 t i v)[j]? = some (some u) := by simpa [fw_st1] using h
      rcases fw_st1_at t i v j u h' with ⟨a, b⟩ | ⟨c1, c2, c3⟩
      · exact Or.inl ⟨by omega, b⟩
      · exact Or.inr ⟨by omega, by simpa using c2, fun q => c3 ⟨by omega, q.2⟩⟩
    | zero =>
      right
      rcases i with _ | i
      · rcases a with _ | x | x | x
        · simp [fw_st1] at h
        · simp [fw_st1] at h; subst h; exact ⟨by omega, by simp, fun q => by simp [fw_cat] at q⟩
        · simp [fw_st1] at h
        · simp [fw_st1] at h; subst h; exact ⟨by omega, by simp, fun q => by simp [fw_cat] at q⟩
      · simp [fw_st1] at h; subst h; exact ⟨by omega, by simp, by omega⟩
theorem fw_no_at : ∀ (ls : List (Option fw_V)) (i j : Nat) (u : fw_V), (fw_no ls i)[j]? = some (some u) → j ≠ i ∧ ls[j]? = some (some u)
  | [], i, j, u => by intro h; simp [fw_no] at h
  | a :: t, 0, j, u => by
    intro h
    cases j with
    | zero => simp [fw_no] at h
    | succ j => exact ⟨by omega, by simpa [fw_no] using h⟩
  | a :: t, i + 1, j, u => by
    intro h
    cases j with
    | zero => exact ⟨by omega, by simpa [fw_no] using h⟩
    | succ j =>
      obtain ⟨h1, h2⟩ := fw_no_at t i j u (by simpa [fw_no] using h)
      exact ⟨by omega, by simpa using h2⟩
def fw_st2 (ls : List (Option fw_V)) (i : Nat) (v : fw_V) : List (Option fw_V) := fw_no (fw_st1 ls i v) (i + 1)
/-! worlds -/
def fw_vv (tag : Nat) (b : Nat) (r m : Int) (l : Int64) : Value := match tag with
  | 0 => .int (Int32.ofInt m)
  | 1 => .long l
  | _ => if r < 0 then .null else .ref (b + r.toNat)
def fw_ftg (ci f : Nat) : Nat := match ci with
  | 0 => if f = 0 then 2 else if f = 11 then 1 else 0
  | 1 => if f < 6 then 2 else 0
  | 2 => if f < 2 then 2 else 0
  | 3 => if f < 4 then 2 else 0
  | 4 => 2
  | 5 => if f < 7 then 2 else if f = 9 then 1 else 0
  | _ => if f = 1 then 1 else if f = 0 ∨ f = 2 ∨ f = 3 ∨ f = 4 ∨ f = 28 ∨ f = 31 then 0 else 2
def fw_atg (kind : Nat) : Nat := if kind = 12 then 1 else if kind < 12 then 0 else 2
def fw_layC (k : Int) : Nat × Nat :=
  if k < 8 then (match k.toNat with
    | 0 => (5, 10)
    | 1 => (1, 8)
    | 2 => (13, 80)
    | 3 => (10, 80)
    | 5 => (10, 480)
    | _ => (10, 4))
  else if k < 168 then (if (k - 8) % 2 = 0 then (0, 12) else (10, 4))
  else if k < 179 then (match (k - 168).toNat with
    | 0 => (4, 10)
    | 1 => (11, 12)
    | 2 => (11, 12)
    | 9 => (10, 48)
    | 10 => (14, 4)
    | _ => (10, 12))
  else if k < 191 then (if (k - 179) % 3 = 0 then (2, 4) else if (k - 179) % 3 = 1 then (12, 200) else (10, 200))
  else (match (k - 191).toNat with
    | 0 => (2, 4)
    | 1 => (12, 32)
    | 2 => (10, 32)
    | 3 => (2, 4)
    | 4 => (12, 384)
    | 5 => (10, 384)
    | 6 => (10, 4)
    | 7 => (3, 5)
    | _ => (10, 20))
def fw_layD (k : Int) : Nat × Nat := match k.toNat with
  | 0 => (6, 36)
  | 1 => (10, 4)
  | 2 => (10, 960)
  | 3 => (12, 80)
  | 4 => (10, 16)
  | 5 => (10, 480)
  | 6 => (10, 4)
  | 7 => (10, 4)
  | 8 => (10, 4)
  | 9 => (10, 4)
  | 10 => (11, 12)
  | 11 => (11, 12)
  | 18 => (10, 192)
  | 19 => (11, 12)
  | 20 => (10, 4)
  | 21 => (10, 4)
  | 22 => (12, 800)
  | 23 => (10, 800)
  | 24 => (12, 704)
  | 25 => (10, 704)
  | 26 => (10, 20)
  | 27 => (10, 20)
  | 28 => (10, 20)
  | 29 => (10, 20)
  | _ => (10, 12)
def fw_lay (w : Nat) (k : Int) : Nat × Nat := match w with
  | 0 => fw_layC k
  | _ => fw_layD k
def fw_KW (w : Nat) : Nat := match w with
  | 0 => 203
  | _ => 30
def fw_cell (D : va_G) (cA : Nat → ClassId) (b w : Nat) (R M : fw_F) (L : fw_G) (H : Heap) (k : Nat) : Prop :=
  ((fw_lay w k).1 < 10 → t_OB (b + k) (D.1 (fw_lay w k).1) (fw_lay w k).2 (D.2 (fw_lay w k).1) H (fun f => fw_vv (fw_ftg (fw_lay w k).1 f) b (R k f) (M k f) (L k f))) ∧
  (10 ≤ (fw_lay w k).1 → H[b + k]? = some (arrV (cA ((fw_lay w k).1 - 10)) (fw_lay w k).2 (fun j => fw_vv (fw_atg (fw_lay w k).1) b (R k j) (M k j) (L k j))))
def fw_Wd (D : va_G) (cA : Nat → ClassId) (b w K : Nat) (R M : fw_F) (L : fw_G) (H : Heap) : Prop := ∀ k : Nat, k < K → fw_cell D cA b w R M L H k
/-! methods: name, code, locals, answer, class number, world, room (frames, locals), cells and slots that it makes -/
abbrev fw_M : Type := MethodName × ByteArray × Nat × Option FieldType × Nat × Nat × Nat × Nat × Nat × Nat
def fw_mN (y : fw_M) : MethodName := y.1
def fw_mC (y : fw_M) : ByteArray := y.2.1
def fw_mL (y : fw_M) : Nat := y.2.2.1
def fw_mT (y : fw_M) : Option FieldType := y.2.2.2.1
def fw_mO (y : fw_M) : Nat := y.2.2.2.2.1
def fw_mW (y : fw_M) : Nat := y.2.2.2.2.2.1
def fw_mF (y : fw_M) : Nat := y.2.2.2.2.2.2.1
def fw_mX (y : fw_M) : Nat := y.2.2.2.2.2.2.2.1
def fw_mc (y : fw_M) : Nat := y.2.2.2.2.2.2.2.2.1
def fw_ms (y : fw_M) : Nat := y.2.2.2.2.2.2.2.2.2
def fw_rm (y : fw_M) : Room := { frames := fw_mF y, cells := fw_mc y, slots := fw_ms y, locals := fw_mX y }
def fw_cn (o : Nat) : String := match o with
  | 0 => RX0
  | 1 => RX1
  | 2 => RX2
  | 3 => RX3
  | 4 => RX4
  | 5 => RX5
  | _ => RX6
def fw_tbl : List Cond := lw_tbl.filter goodWord
theorem fw_tbl_of {w : Cond} (h : w ∈ lw_tbl) (g : goodWord w = true) : w ∈ fw_tbl := List.mem_filter.mpr ⟨h, g⟩
theorem fw_tbl_in {w : Cond} (h : w ∈ fw_tbl) : w ∈ lw_tbl := (List.mem_filter.mp h).1
theorem fw_tbl_good {w : Cond} (h : w ∈ fw_tbl) : goodWord w = true := (List.mem_filter.mp h).2
def fw_ws (y : fw_M) : List Cond := Cond.code (fw_mN y) (fw_mC y) (fw_mL y) (fw_mT y) :: fw_tbl
def fw_tys (cA : Nat → ClassId) : List (ClassId × FieldType) := [(cA 0, .int), (cA 1, .boolean), (cA 2, .long), (cA 3, .object "FolderRows$Change"), (cA 4, .object "FolderRows$PieceSet")]
def fw_nest (s : State) : Prop := va_Nw (.methodLinkNest RX1 33 yX0_init "FolderRows") s ∧ va_Nw (.methodLinkNest RX5 47 yX3_init "FolderRows") s ∧ va_Nw (.methodLinkNest RX2 40 yX5_byteOf "FolderRows") s ∧ va_Nw (.methodLinkNest RX4 149 yX5_byteOf "FolderRows") s
def fw_ao (s : State) : Prop := va_AO "FolderRows$Change" s ∧ va_AO "FolderRows$PieceSet" s
def fw_KK (D : va_G) (cA : Nat → ClassId) (s : State) : Prop := va_K D vwCl (fw_tys cA) s ∧ fw_nest s ∧ fw_ao s
theorem fw_KK.moved {D : va_G} {cA : Nat → ClassId} {s U : State} (hW : s.WarmedH U.vm) (h : fw_KK D cA s) : fw_KK D cA U :=
  ⟨va_K.moved hW.alike h.1, ⟨va_Nw.warmM hW h.2.1.1, va_Nw.warmM hW h.2.1.2.1, va_Nw.warmM hW h.2.1.2.2.1, va_Nw.warmM hW h.2.1.2.2.2⟩, va_AO.moved hW.alike h.2.2.1, va_AO.moved hW.alike h.2.2.2⟩
theorem fw_KK.same {D : va_G} {cA : Nat → ClassId} {s U : State} (hW : s.vm = U.vm) (h : fw_KK D cA s) : fw_KK D cA U :=
  ⟨va_K.moved (by rw [hW]; exact Vm.Alike.refl _) h.1, ⟨va_Nw.same rfl hW h.2.1.1, va_Nw.same rfl hW h.2.1.2.1, va_Nw.same rfl hW h.2.1.2.2.1, va_Nw.same rfl hW h.2.1.2.2.2⟩, va_AO.moved (by rw [hW]; exact Vm.Alike.refl _) h.2.2.1, va_AO.moved (by rw [hW]; exact Vm.Alike.refl _) h.2.2.2⟩
def fw_A (b w : Nat) : Nat → Prop := fun q => b ≤ q ∧ q < b + fw_KW w
abbrev fw_Q : Type := Option fw_V → Nat → fw_F → fw_F → fw_G → Prop
def fw_QC (y : fw_M) (D : va_G) (cA : Nat → ClassId) (b K0 : Nat) (Q : fw_Q) : Array Value → State → Outcome → State → Prop := fun _ st o t =>
  (∃ (r : Option fw_V) (K' : Nat) (R' M' : fw_F) (L' : fw_G), o = .returned (r.map (fw_cv b)) ∧ Q r K' R' M' L' ∧ (∀ v, r = some v → fw_okV v) ∧ (∀ k j, fw_ok (M' k j)) ∧ K' = K0 + fw_mc y ∧ t.heap.size = st.heap.size + fw_mc y ∧ fw_Wd D cA b (fw_mW y) K' R' M' L' t.heap) ∧ va_F (fw_A b (fw_mW y)) st t
def fw_PC (y : fw_M) (D : va_G) (cA : Nat → ClassId) (b K0 : Nat) (R M : fw_F) (L : fw_G) (As : List fw_V) : Array Value → State → Prop := fun v U =>
  v = (As.map (fw_cv b)).toArray ∧ fw_Wd D cA b (fw_mW y) K0 R M L U.heap ∧ fw_KK D cA U ∧ b + K0 ≤ U.heap.size ∧ (0 < fw_mc y → U.heap.size = b + K0)
theorem fw_blind {y : fw_M} {D : va_G} {cA : Nat → ClassId} {b K0 : Nat} {R M : fw_F} {L : fw_G} {As : List fw_V} : FrameBlind (fw_PC y D cA b K0 R M L As) :=
  fun a U g mk h => ⟨h.1, h.2.1, fw_KK.same rfl h.2.2.1, h.2.2.2.1, h.2.2.2.2⟩
def fw_Z (y : fw_M) (D : va_G) (cA : Nat → ClassId) (p : Program) (s : State) (m : MethodId) (args : Array Value) (meth : Method) (c : Code) (b K0 : Nat) : Prop :=
  p.tables.exec = Jvm.exec ∧ c.code = fw_mC y ∧ meth.sig.returnType = fw_mT y ∧ c.maxLocals = fw_mL y ∧ s.vm.findClass (fw_cn (fw_mO y)) = some m.cls ∧ (∀ w ∈ fw_tbl, w.before args s = true) ∧ meth.locks = false ∧ meth.name = (fw_mN y).name ∧ fw_KK D cA s ∧ b + K0 ≤ s.heap.size ∧ (0 < fw_mc y → s.heap.size = b + K0)
def fw_Y (y : fw_M) (D : va_G) (cA : Nat → ClassId) (b K0 K : Nat) (R M : fw_F) (L : fw_G) (ls : List (Option fw_V)) (s : State) (H : Heap) (locs : List Loc) (la : Array Slot) : Prop :=
  (∀ v, some v ∈ ls → fw_okV v) ∧ (∀ k j, fw_ok (M k j)) ∧ fw_Wd D cA b (fw_mW y) K R M L H ∧ (K0 ≤ K ∧ H.size = s.heap.size + (K - K0)) ∧ va_S (fw_A b (fw_mW y)) s.heap H locs ∧ lv_has la (fw_mL y) (fw_lc b 0 ls)
def fw_WP (y : fw_M) (K0 pc : Nat) (ls : List (Option fw_V)) (st : List fw_V) (K sl : Nat) (R M : fw_F) (L : fw_G) (Q : fw_Q) : Prop :=
  ∀ (l : Launch) (D : va_G) (cA : Nat → ClassId) (p : Program) (e : Env) (s : State) (m : MethodId) (args : Array Value) (below : List Frame) (meth : Method) (c : Code) (b : Nat) (H : Heap) (locs : List Loc) (la : Array Slot),
    fw_Z y D cA p s m args meth c b K0 → (∀ v ∈ st, fw_okV v) → fw_Y y D cA b K0 K R M L ls s H locs la →
    W p l e (fw_rm y) s m args below meth c H locs (K - K0) sl (MQ below (fw_QC y D cA b K0 Q) args s (fw_mc y) (fw_ms y) (fw_A b (fw_mW y))) (F0 m pc la (st.map (fw_cv b)))
def fw_SP (y : fw_M) (As : List fw_V) (K0 : Nat) (R M : fw_F) (L : fw_G) (Q : fw_Q) : Prop :=
  (∀ v ∈ As, fw_okV v) → (∀ k j, fw_ok (M k j)) → ∀ (l : Launch) (D : va_G) (cA : Nat → ClassId) (b : Nat),
    Met l (fw_mN y) (fw_ws y) (fw_rm y) (fw_PC y D cA b K0 R M L As) (fw_QC y D cA b K0 Q) (fw_mc y) (fw_ms y) (fw_A b (fw_mW y))
