theorem lw_31 (x : Int32) : ∃ q : Nat, q < 32 ∧ x &&& 31 = nI q := by
  have h : (x &&& 31).toInt = (((x &&& 31).toBitVec.toNat : Nat) : Int) ∧ (x &&& 31).toBitVec.toNat < 32 := by
    have h1 : (x &&& 31).toBitVec = x.toBitVec &&& 31#32 := by simp [Int32.toBitVec_and]
    have h2 : (x &&& 31).toBitVec.toNat < 32 := by
      rw [h1, BitVec.toNat_and]
      exact Nat.lt_of_le_of_lt Nat.and_le_right (by decide)
    refine ⟨?_, h2⟩
    rw [← Int32.toInt_toBitVec, BitVec.toInt_eq_toNat_of_lt (by omega)]
  refine ⟨(x &&& 31).toBitVec.toNat, h.2, ?_⟩
  apply Int32.toInt_inj.mp
  rw [h.1, nI_toInt (by omega)]

set_option maxHeartbeats 4000000 in
set_option maxRecDepth 100000 in
theorem lw_loop {p : Program} {l : Launch} {e : Env} {s : State} {m : MethodId} {below : List Frame} {meth : Method} {c : Code} {D : va_G} {cA : Nat → ClassId} {b Lx : Nat} {xs : Nat → Int32} (hLx : Lx ≤ 3072) (C0 : lw_At p s m meth c b Lx xs) : ∀ (n i : Nat), Lx + 6 ≤ i + n → i ≤ Lx + 5 → ∀ (H : Heap) (locs : List Loc) (M N : fw_F) (L K : fw_G), lw_I D cA s H locs M L N K → Rel M L N K → ∀ (la : Array Slot), lv_has la 4 [(0, .ref b), (1, .ref s.heap.size), (2, .ref (s.heap.size + 203)), (3, .int (nI i))] → W p l e room_1 s m #[Value.ref b] below meth c H locs 233 9641 (lw_Z below #[Value.ref b] s) (F0 m 18 la []) := by
  have hx := C0.1
  have hb := C0.2.1
  have hbl := C0.2.2.2.2.2.2.2.1
  have hX := C0.2.2.2.2.2.2.1
  have hbA : ¬ (fun q : Nat => s.heap.size ≤ q) b := Nat.not_le.mpr hbl
  intro n
  induction n with
  | zero => intro i h1 h2; omega
  | succ n ih =>
    intro i h1 h2 H locs M N L K hI hR la hl
    refine lv_iload_n hx hb dL_law_18 rfl (lv_at hl 3 rfl) ?_
    refine lv_aload_n hx hb dL_law_19 rfl (lv_at hl 0 rfl) ?_
    refine va_slen hx hb hX hbl hbA hI.2.2.2.2.2.2 dL_law_20 ?_
    refine lv_bipush (v := 6) hx hb dL_law_21 (by decide) ?_
    refine lv_isub hx hb dL_law_23 ?_
    have e6 : (Int32.ofNat Lx - 6).toInt = (Lx : Int) - 6 := by
      rw [show Int32.ofNat Lx - 6 = Int32.ofInt ((Lx : Int) - 6) by rw [Int32.ofInt_sub]; rfl]
      exact fw_toInt ⟨by omega, by omega⟩
    have ei : (nI i).toInt = (i : Int) := nI_toInt (by omega)
    refine lv_icmp_gt (tgt := 1276) hx hb dL_law_24 (by decide) (fun c9 => ?_) (fun c9 => ?_)
    · refine lv_iconst (v := 1) hx hb dL_law_1276 (by decide) ?_
      refine va_forget (fun q hq => hI.2.2.2.2.2.2.2.2 q hq) ?_
      refine W.widen (k := 600000) (n := 7302249) (by decide) (by decide) ?_
      exact lw_ret hx hb C0.2.2.1 C0.2.2.2.2.2.2.2.2.1 dL_law_1277
    · have hi6 : i + 6 ≤ Lx := by
        have : ¬ (Int32.ofNat Lx - 6).toInt < (nI i).toInt := fun h => c9 (Int32.lt_iff_toInt_lt.mpr h)
        rw [e6, ei] at this
        omega
      refine lv_aload_n hx hb dL_law_27 rfl (lv_at hl 0 rfl) ?_
      refine lv_iload_n hx hb dL_law_28 rfl (lv_at hl 3 rfl) ?_
      refine va_sld hx hb hX hbl hbA hI.2.2.2.2.2.2 (vp_in_nI (by omega) (by omega)) dL_law_29 ?_
      refine lv_bipush (v := 31) hx hb dL_law_30 (by decide) ?_
      refine lv_iand hx hb dL_law_32 ?_
      have kk : ∀ (H2 : Heap) (locs2 : List Loc) (M2 : fw_F) (L2 : fw_G) (N2 : fw_F) (K2 : fw_G), lw_I D cA s H2 locs2 M2 L2 N2 K2 → Rel M2 L2 N2 K2 → W p l e room_1 s m #[Value.ref b] below meth c H2 locs2 233 9641 (lw_Z below #[Value.ref b] s) (F0 m 1270 la []) := by
        intro H2 locs2 M2 L2 N2 K2 hI2 hR2
        refine lv_iinc (v := nI (i + 6)) (lv' := [(3, .int (nI (i + 6))), (0, .ref b), (1, .ref s.heap.size), (2, .ref (s.heap.size + 203))]) hx hb dL_law_1270 hl (k := 3) rfl (by rw [← nI_add]; rfl) (by decide) rfl (fun la2 hl2 => ?_)
        refine lv_goto (tgt := 18) hx hb dL_law_1273 (by decide) ?_
        exact ih (i + 6) (by omega) (by omega) _ _ _ _ _ _ hI2 hR2 la2 (lv_sub hl2 [1, 2, 3, 0] rfl)
      obtain ⟨q, hq, eq⟩ := lw_31 (xs (nI i).toNatClampNeg)
      rw [eq]
      have hqi : (nI q).toInt = (q : Int) := nI_toInt (by omega)
      rcases (show 30 ≤ q ∨ q = 0 ∨ q = 1 ∨ q = 2 ∨ q = 3 ∨ q = 4 ∨ q = 5 ∨ q = 6 ∨ q = 7 ∨ q = 8 ∨ q = 9 ∨ q = 10 ∨ q = 11 ∨ q = 12 ∨ q = 13 ∨ q = 14 ∨ q = 15 ∨ q = 16 ∨ q = 17 ∨ q = 18 ∨ q = 19 ∨ q = 20 ∨ q = 21 ∨ q = 22 ∨ q = 23 ∨ q = 24 ∨ q = 25 ∨ q = 26 ∨ q = 27 ∨ q = 28 ∨ q = 29 by omega) with h | rfl | rfl | rfl | rfl | rfl | rfl | rfl | rfl | rfl | rfl | rfl | rfl | rfl | rfl | rfl | rfl | rfl | rfl | rfl | rfl | rfl | rfl | rfl | rfl | rfl | rfl | rfl | rfl | rfl | rfl
      · refine lv_tableOut (tgt := 1270) hx hb dL_law_33 (Or.inr (by rw [hqi]; omega)) (by decide) ?_
        exact kk _ _ _ _ _ _ hI hR
      · refine lv_tableIn (off := 135) (tgt := 168) hx hb dL_law_33 (by decide) (by decide) (by decide) (by decide) ?_
        exact lc_0 C0 hI hR hl hLx hi6 ⟨by decide, by decide⟩ kk
      · refine lv_tableIn (off := 158) (tgt := 191) hx hb dL_law_33 (by decide) (by decide) (by decide) (by decide) ?_
        exact lc_1 C0 hI hR hl hLx hi6 ⟨by decide, by decide⟩ kk
      · refine lv_tableIn (off := 181) (tgt := 214) hx hb dL_law_33 (by decide) (by decide) (by decide) (by decide) ?_
        exact lc_2 C0 hI hR hl hLx hi6 ⟨by decide, by decide⟩ kk
      · refine lv_tableIn (off := 234) (tgt := 267) hx hb dL_law_33 (by decide) (by decide) (by decide) (by decide) ?_
        exact lc_3 C0 hI hR hl hLx hi6 ⟨by decide, by decide⟩ kk
      · refine lv_tableIn (off := 287) (tgt := 320) hx hb dL_law_33 (by decide) (by decide) (by decide) (by decide) ?_
        exact lc_4 C0 hI hR hl hLx hi6 ⟨by decide, by decide⟩ kk
      · refine lv_tableIn (off := 320) (tgt := 353) hx hb dL_law_33 (by decide) (by decide) (by decide) (by decide) ?_
        exact lc_5 C0 hI hR hl hLx hi6 ⟨by decide, by decide⟩ kk
      · refine lv_tableIn (off := 403) (tgt := 436) hx hb dL_law_33 (by decide) (by decide) (by decide) (by decide) ?_
        exact lc_6 C0 hI hR hl hLx hi6 ⟨by decide, by decide⟩ kk
      · refine lv_tableIn (off := 436) (tgt := 469) hx hb dL_law_33 (by decide) (by decide) (by decide) (by decide) ?_
        exact lc_7 C0 hI hR hl hLx hi6 ⟨by decide, by decide⟩ kk
      · refine lv_tableIn (off := 479) (tgt := 512) hx hb dL_law_33 (by decide) (by decide) (by decide) (by decide) ?_
        exact lc_8 C0 hI hR hl hLx hi6 ⟨by decide, by decide⟩ kk
      · refine lv_tableIn (off := 522) (tgt := 555) hx hb dL_law_33 (by decide) (by decide) (by decide) (by decide) ?_
        exact lc_9 C0 hI hR hl hLx hi6 ⟨by decide, by decide⟩ kk
      · refine lv_tableIn (off := 575) (tgt := 608) hx hb dL_law_33 (by decide) (by decide) (by decide) (by decide) ?_
        exact lc_10 C0 hI hR hl hLx hi6 ⟨by decide, by decide⟩ kk
      · refine lv_tableIn (off := 628) (tgt := 661) hx hb dL_law_33 (by decide) (by decide) (by decide) (by decide) ?_
        exact lc_11 C0 hI hR hl hLx hi6 ⟨by decide, by decide⟩ kk
      · refine lv_tableIn (off := 671) (tgt := 704) hx hb dL_law_33 (by decide) (by decide) (by decide) (by decide) ?_
        exact lc_12 C0 hI hR hl hLx hi6 ⟨by decide, by decide⟩ kk
      · refine lv_tableIn (off := 704) (tgt := 737) hx hb dL_law_33 (by decide) (by decide) (by decide) (by decide) ?_
        exact lc_13 C0 hI hR hl hLx hi6 ⟨by decide, by decide⟩ kk
      · refine lv_tableIn (off := 747) (tgt := 780) hx hb dL_law_33 (by decide) (by decide) (by decide) (by decide) ?_
        exact lc_14 C0 hI hR hl hLx hi6 ⟨by decide, by decide⟩ kk
      · refine lv_tableIn (off := 780) (tgt := 813) hx hb dL_law_33 (by decide) (by decide) (by decide) (by decide) ?_
        exact lc_15 C0 hI hR hl hLx hi6 ⟨by decide, by decide⟩ kk
      · refine lv_tableIn (off := 813) (tgt := 846) hx hb dL_law_33 (by decide) (by decide) (by decide) (by decide) ?_
        exact lc_16 C0 hI hR hl hLx hi6 ⟨by decide, by decide⟩ kk
      · refine lv_tableIn (off := 846) (tgt := 879) hx hb dL_law_33 (by decide) (by decide) (by decide) (by decide) ?_
        exact lc_17 C0 hI hR hl hLx hi6 ⟨by decide, by decide⟩ kk
      · refine lv_tableIn (off := 869) (tgt := 902) hx hb dL_law_33 (by decide) (by decide) (by decide) (by decide) ?_
        exact lc_18 C0 hI hR hl hLx hi6 ⟨by decide, by decide⟩ kk
      · refine lv_tableIn (off := 892) (tgt := 925) hx hb dL_law_33 (by decide) (by decide) (by decide) (by decide) ?_
        exact lc_19 C0 hI hR hl hLx hi6 ⟨by decide, by decide⟩ kk
      · refine lv_tableIn (off := 925) (tgt := 958) hx hb dL_law_33 (by decide) (by decide) (by decide) (by decide) ?_
        exact lc_20 C0 hI hR hl hLx hi6 ⟨by decide, by decide⟩ kk
      · refine lv_tableIn (off := 968) (tgt := 1001) hx hb dL_law_33 (by decide) (by decide) (by decide) (by decide) ?_
        exact lc_21 C0 hI hR hl hLx hi6 ⟨by decide, by decide⟩ kk
      · refine lv_tableIn (off := 1001) (tgt := 1034) hx hb dL_law_33 (by decide) (by decide) (by decide) (by decide) ?_
        exact lc_22 C0 hI hR hl hLx hi6 ⟨by decide, by decide⟩ kk
      · refine lv_tableIn (off := 1034) (tgt := 1067) hx hb dL_law_33 (by decide) (by decide) (by decide) (by decide) ?_
        exact lc_23 C0 hI hR hl hLx hi6 ⟨by decide, by decide⟩ kk
      · refine lv_tableIn (off := 1047) (tgt := 1080) hx hb dL_law_33 (by decide) (by decide) (by decide) (by decide) ?_
        exact lc_24 C0 hI hR hl hLx hi6 ⟨by decide, by decide⟩ kk
      · refine lv_tableIn (off := 1080) (tgt := 1113) hx hb dL_law_33 (by decide) (by decide) (by decide) (by decide) ?_
        exact lc_25 C0 hI hR hl hLx hi6 ⟨by decide, by decide⟩ kk
      · refine lv_tableIn (off := 1103) (tgt := 1136) hx hb dL_law_33 (by decide) (by decide) (by decide) (by decide) ?_
        exact lc_26 C0 hI hR hl hLx hi6 ⟨by decide, by decide⟩ kk
      · refine lv_tableIn (off := 1156) (tgt := 1189) hx hb dL_law_33 (by decide) (by decide) (by decide) (by decide) ?_
        exact lc_27 C0 hI hR hl hLx hi6 ⟨by decide, by decide⟩ kk
      · refine lv_tableIn (off := 1200) (tgt := 1233) hx hb dL_law_33 (by decide) (by decide) (by decide) (by decide) ?_
        exact lc_28 C0 hI hR hl hLx hi6 ⟨by decide, by decide⟩ kk
      · refine lv_tableIn (off := 1223) (tgt := 1256) hx hb dL_law_33 (by decide) (by decide) (by decide) (by decide) ?_
        exact lc_29 C0 hI hR hl hLx hi6 ⟨by decide, by decide⟩ kk
